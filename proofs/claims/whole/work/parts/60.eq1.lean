/-! The class's functions and the reference's: the table of settings, changes, the order. -/
/-- what is carried into the j-th machine from the end when v - 1 becomes v -/
def e_cc (S : Nat → Int32) (n v : Nat) : Nat → Nat
  | 0 => 1
  | j + 1 => if q_rest S n v j % (S (n - 1 - j)).toNatClampNeg + e_cc S n v j = (S (n - 1 - j)).toNatClampNeg then 1 else 0
theorem e_cc_le (S : Nat → Int32) (n v : Nat) : ∀ j, e_cc S n v j ≤ 1
  | 0 => Nat.le_refl _
  | j + 1 => by simp only [e_cc]; split <;> omega
theorem e_divs (x s c : Nat) (hs : 1 ≤ s) (hc : c ≤ 1) : (x + c) / s = x / s + (if x % s + c = s then 1 else 0) ∧ (x + c) % s = (if x % s + c = s then 0 else x % s + c) := by
  have hm := Nat.mod_lt x (show 0 < s by omega)
  have hd := Nat.div_add_mod x s
  by_cases h : x % s + c = s
  · rw [if_pos h, if_pos h]
    have e : x + c = s * (x / s + 1) := by rw [Nat.mul_add]; omega
    rw [e]
    exact ⟨Nat.mul_div_cancel_left _ (by omega), Nat.mul_mod_right _ _⟩
  · rw [if_neg h, if_neg h]
    have e : x + c = (x % s + c) + s * (x / s) := by omega
    rw [e]
    refine ⟨?_, ?_⟩
    · rw [Nat.add_mul_div_left _ _ (by omega), Nat.div_eq_of_lt (by omega)]; omega
    · rw [Nat.add_mul_mod_self_left, Nat.mod_eq_of_lt (by omega)]
theorem e_rest_s (S : Nat → Int32) (n v : Nat) (hS : q_okS S n) : ∀ j, j ≤ n → q_rest S n (v + 1) j = q_rest S n v j + e_cc S n v j
  | 0, _ => rfl
  | j + 1, h => by
    have ih := e_rest_s S n v hS j (by omega)
    have hs := hS (n - 1 - j) (by omega)
    simp only [q_rest, e_cc]
    rw [ih, (e_divs _ _ _ hs.2.1 (e_cc_le S n v j)).1]
theorem e_dg_s (S : Nat → Int32) (n v m : Nat) (hS : q_okS S n) (hm : m < n) : q_dg S n (v + 1) m = (if q_dg S n v m + e_cc S n v (n - 1 - m) = (S m).toNatClampNeg then 0 else q_dg S n v m + e_cc S n v (n - 1 - m)) := by
  have hs := hS m hm
  unfold q_dg
  rw [e_rest_s S n v hS (n - 1 - m) (by omega), (e_divs _ _ _ hs.2.1 (e_cc_le S n v _)).2]
theorem e_rest_0 (S : Nat → Int32) (n : Nat) : ∀ j, q_rest S n 0 j = 0
  | 0 => rfl
  | j + 1 => by simp only [q_rest]; rw [e_rest_0 S n j, Nat.zero_div]
theorem e_dg_0 (S : Nat → Int32) (n m : Nat) : q_dg S n 0 m = 0 := by
  unfold q_dg
  rw [e_rest_0, Nat.zero_mod]
theorem e_dg_lt (S : Nat → Int32) (n v m : Nat) (hS : q_okS S n) (hm : m < n) : q_dg S n v m < (S m).toNatClampNeg := Nat.mod_lt _ (hS m hm).2.1
theorem e_upd (f : Nat → Int32) (k j : Nat) (x : Int32) : upd f k x j = if j = k then x else f j := rfl
/-- a row of the table -/
theorem e_row {S T : Nat → Int32} {n v : Nat} (hn : n ≤ 5) (hS : q_okS S n) (hT : ∀ m, m < n → T (v * 5 + m) = nI (q_dg S n v m)) : ∀ j, j ≤ n →
    (q_rowT S n (v + 1) T j).2 = nI (e_cc S n v j) ∧ (∀ k, (q_rowT S n (v + 1) T j).1 k = if (v + 1) * 5 + (n - j) ≤ k ∧ k < (v + 1) * 5 + n then nI (q_dg S n (v + 1) (k - (v + 1) * 5)) else T k)
  | 0, _ => ⟨rfl, fun k => by
      simp only [q_rowT]
      rw [if_neg (by omega)]⟩
  | j + 1, h => by
    obtain ⟨h1, h2⟩ := e_row hn hS hT j (by omega)
    have hs := hS (n - 1 - j) (by omega)
    have e1 : (q_rowT S n (v + 1) T j).1 ((v + 1 - 1) * 5 + (n - 1 - j)) = nI (q_dg S n v (n - 1 - j)) := by
      rw [h2, if_neg (by omega), Nat.add_sub_cancel]
      exact hT _ (by omega)
    have hd := e_dg_s S n v (n - 1 - j) hS (by omega)
    have hlt := e_dg_lt S n v (n - 1 - j) hS (by omega)
    have hcc := e_cc_le S n v j
    rw [show n - 1 - (n - 1 - j) = j by omega] at hd
    have e2 : (q_rowT S n (v + 1) T j).1 ((v + 1 - 1) * 5 + (n - 1 - j)) + (q_rowT S n (v + 1) T j).2 = nI (q_dg S n v (n - 1 - j) + e_cc S n v j) := by rw [e1, h1, nI_add]
    have e3 : e_cc S n v (j + 1) = if q_dg S n v (n - 1 - j) + e_cc S n v j = (S (n - 1 - j)).toNatClampNeg then 1 else 0 := by
      have eq : q_dg S n v (n - 1 - j) = q_rest S n v j % (S (n - 1 - j)).toNatClampNeg := by
        unfold q_dg
        rw [show n - 1 - (n - 1 - j) = j by omega]
      rw [eq, e_cc]
    have e4 : nI (q_dg S n v (n - 1 - j) + e_cc S n v j) = S (n - 1 - j) ↔ q_dg S n v (n - 1 - j) + e_cc S n v j = (S (n - 1 - j)).toNatClampNeg := by
      rw [hs.1]
      rw [nI_eq (by omega) (by omega), nI_clamp (by omega)]
    by_cases c : q_dg S n v (n - 1 - j) + e_cc S n v j = (S (n - 1 - j)).toNatClampNeg
    · rw [q_rowT_1 (by rw [e2]; exact e4.mpr c)]
      rw [if_pos c] at hd e3
      refine ⟨by rw [e3]; rfl, fun k => ?_⟩
      show upd _ _ _ k = _
      rw [e_upd]
      by_cases hk : k = (v + 1) * 5 + (n - 1 - j)
      · rw [if_pos hk, if_pos (by omega), hk, show (v + 1) * 5 + (n - 1 - j) - (v + 1) * 5 = n - 1 - j by omega, hd]; rfl
      · rw [if_neg hk, h2]
        by_cases h3 : (v + 1) * 5 + (n - j) ≤ k ∧ k < (v + 1) * 5 + n
        · rw [if_pos h3, if_pos (by omega)]
        · rw [if_neg h3, if_neg (by omega)]
    · rw [q_rowT_0 (by rw [e2]; exact fun q => c (e4.mp q)), e2]
      rw [if_neg c] at hd e3
      refine ⟨by rw [e3]; rfl, fun k => ?_⟩
      show upd _ _ _ k = _
      rw [e_upd]
      by_cases hk : k = (v + 1) * 5 + (n - 1 - j)
      · rw [if_pos hk, if_pos (by omega), hk, show (v + 1) * 5 + (n - 1 - j) - (v + 1) * 5 = n - 1 - j by omega, hd]
      · rw [if_neg hk, h2]
        by_cases h3 : (v + 1) * 5 + (n - j) ≤ k ∧ k < (v + 1) * 5 + n
        · rw [if_pos h3, if_pos (by omega)]
        · rw [if_neg h3, if_neg (by omega)]
/-- the whole table -/
theorem e_fill {S T : Nat → Int32} {n : Nat} (hn : n ≤ 5) (hS : q_okS S n) (h0 : ∀ m, m < 5 → T m = 0) : ∀ i, (∀ v, v ≤ i → ∀ m, m < n → q_fill S n T i (v * 5 + m) = nI (q_dg S n v m)) ∧ ∀ m, m < 5 → q_fill S n T i m = 0
  | 0 => ⟨fun v hv m hm => by
      rw [show v = 0 by omega, e_dg_0, Nat.zero_mul, Nat.zero_add]
      exact h0 m (by omega), h0⟩
  | i + 1 => by
    obtain ⟨h1, h2⟩ := e_fill hn hS h0 i
    have hr := (e_row (T := q_fill S n T i) (v := i) hn hS (fun m hm => h1 i (Nat.le_refl _) m hm) n (Nat.le_refl _)).2
    refine ⟨fun v hv m hm => ?_, fun m hm => ?_⟩
    · rw [q_fill, hr]
      rcases Nat.lt_or_ge i v with q | q
      · rw [show v = i + 1 by omega, if_pos (by omega), show (i + 1) * 5 + m - (i + 1) * 5 = m by omega]
      · rw [if_neg (by omega)]; exact h1 v q m hm
    · rw [q_fill, hr, if_neg (by omega)]; exact h2 m hm
/-- the table as the law keeps it -/
abbrev e_tab (fT fS : Nat → Int32) (nc nv : Nat) : Prop := (∀ v, v < nv → ∀ m, m < nc → fT (v * 5 + m) = nI (q_dg fS nc v m)) ∧ ∀ m, m < 5 → fT m = 0
theorem e_sin {cnt vec : Int32} {fT fS : Nat → Int32} {nc nv v k : Nat} (hc : cnt = nI nc) (hnc : nc ≤ 5) (hv : vec = nI nv) (hnv : nv ≤ 64) (hT : e_tab fT fS nc nv) (h1 : v < nv) (h2 : k < nc) : q_sin cnt vec fT (nI v) (nI k) = nI (q_dg fS nc v k) := by
  rw [q_sin, if_neg (nI_pos (by omega)), if_neg (by rw [hv]; exact nI_ge h1 (by omega)), if_neg (nI_pos (by omega)), if_neg (by rw [hc]; exact nI_ge h2 (by omega)), nI_clamp (by omega), nI_clamp (by omega)]
  exact hT.1 v h1 k h2
theorem e_chg {cnt vec : Int32} {fT fS fC : Nat → Int32} {nc nv v : Nat} (hc : cnt = nI nc) (hnc : nc ≤ 5) (hv : vec = nI nv) (hnv : nv ≤ 64) (hT : e_tab fT fS nc nv) (h1 : v < nv) : ∀ n, n ≤ nc → q_chg cnt vec fT fC (nI v) n = q_chr fS fC nc v n
  | 0, _ => rfl
  | n + 1, h => by
    have ih := e_chg hc hnc hv hnv hT h1 n (by omega) (fC := fC)
    simp only [q_chg, q_chr]
    rw [e_sin hc hnc hv hnv hT h1 (by omega), ih]
    by_cases q : nI (q_dg fS nc v n) = fC n
    · rw [if_pos q, if_pos q]; exact (Int32.add_zero _).symm
    · rw [if_neg q, if_neg q]
theorem e_bec {cnt vec : Int32} {fT fS fC : Nat → Int32} {nc nv v : Nat} (hc : cnt = nI nc) (hnc : nc ≤ 5) (hv : vec = nI nv) (hnv : nv ≤ 64) (hT : e_tab fT fS nc nv) (h1 : v < nv) : ∀ n, n ≤ nc → q_bec cnt vec fT fC (nI v) n = q_ber fS fC nc v n
  | 0, _ => rfl
  | n + 1, h => by
    simp only [q_bec, q_ber]
    rw [e_sin hc hnc hv hnv hT h1 (by omega), e_bec hc hnc hv hnv hT h1 n (by omega)]
theorem e_in {k1 k2 : Nat → Nat} {c : Nat} {s : (Nat → Int32) × Nat} : ∀ n, (∀ v, v < n → k1 v = k2 v) → q_in k1 c s n = q_in k2 c s n
  | 0, _ => rfl
  | n + 1, h => by
    simp only [q_in]
    rw [e_in n (fun v hv => h v (by omega)), h n (by omega)]
theorem e_out {k1 k2 : Nat → Nat} {nv : Nat} {f : Nat → Int32} (h : ∀ v, v < nv → k1 v = k2 v) : ∀ c, q_out k1 nv f c = q_out k2 nv f c
  | 0 => rfl
  | c + 1 => by simp only [q_out]; rw [e_out h c, e_in nv h]
/-- every entry of the order is a vector -/
theorem e_in_v {kk : Nat → Nat} {c : Nat} {s : (Nat → Int32) × Nat} {B : Nat} (hs : ∀ j, j < s.2 → ∃ a, a < B ∧ s.1 j = nI a) : ∀ n, n ≤ B → ∀ j, j < (q_in kk c s n).2 → ∃ a, a < B ∧ (q_in kk c s n).1 j = nI a
  | 0, _, j, hj => hs j hj
  | n + 1, h, j, hj => by
    have ih := e_in_v (kk := kk) (c := c) hs n (by omega)
    simp only [q_in] at hj ⊢
    by_cases q : kk n = c
    · rw [if_pos q] at hj ⊢
      show ∃ a, a < B ∧ upd _ _ _ j = nI a
      rw [e_upd]
      by_cases hk : j = (q_in kk c s n).2
      · rw [if_pos hk]; exact ⟨n, by omega, rfl⟩
      · rw [if_neg hk]; exact ih j (by have : j < (q_in kk c s n).2 + 1 := hj; omega)
    · rw [if_neg q] at hj ⊢; exact ih j hj
theorem e_out_v {kk : Nat → Nat} {nv : Nat} {f : Nat → Int32} : ∀ c j, j < (q_out kk nv f c).2 → ∃ a, a < nv ∧ (q_out kk nv f c).1 j = nI a
  | 0, j, hj => absurd hj (Nat.not_lt_zero _)
  | c + 1, j, hj => e_in_v (e_out_v c) nv (Nat.le_refl _) j hj
theorem e_out_n {kk : Nat → Nat} {nv nc : Nat} {f : Nat → Int32} (h : ∀ v, v < nv → kk v ≤ nc) : (q_out kk nv f (nc + 1)).2 = nv := by
  rw [q_out_n]
  exact q_ct_all kk (nc + 1) nv (fun v hv => by have := h v hv; omega)
