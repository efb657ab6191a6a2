theorem e_ce {fPo fKi uCe fM : Nat → Int32} {np nc : Nat} (h : e_ru fPo fKi uCe fM np nc) : q_okCe uCe np := by
  intro j hj
  have h1 := h.1 j hj
  rw [h.2.1 j hj, nI_clamp (by omega)]
  exact ⟨rfl, by omega⟩
theorem e_us4 {us : Int32} {nf : Nat} (h : us = nI nf) (h4 : nf ≤ 4) : us ≤ 4 := by
  rw [h]; exact nI_le h4 (by decide)
theorem e_ak {ak go : Int32} {nv : Nat} (h : ak = -1 ∨ (go = 1 ∧ ∃ a, a < nv ∧ ak = nI a)) (hn : nv ≤ 64) : ¬ ak = -1 → ak = nI ak.toNatClampNeg ∧ ak.toNatClampNeg < 64 := by
  intro q
  obtain ⟨_, a, ha, e⟩ := h.resolve_left q
  rw [e, nI_clamp (by omega)]
  exact ⟨rfl, by omega⟩
theorem e_ak3 {ak go : Int32} {nv : Nat} (h : ak = -1 ∨ (go = 1 ∧ ∃ a, a < nv ∧ ak = nI a)) (hn : nv ≤ 64) : ak = -1 ∨ (¬ ak < 0 ∧ ak = nI ak.toNatClampNeg ∧ ak.toNatClampNeg < 64) := by
  rcases h with q | ⟨_, a, ha, e⟩
  · exact Or.inl q
  · rw [e, nI_clamp (by omega)]
    exact Or.inr ⟨nI_pos (by omega), rfl, by omega⟩
theorem e_ak2 {ak go : Int32} {nv : Nat} (h : ak = -1 ∨ (go = 1 ∧ ∃ a, a < nv ∧ ak = nI a)) (hn : nv ≤ 64) : ¬ ak < 0 → ak = nI ak.toNatClampNeg ∧ ak.toNatClampNeg < 64 := fun q => e_ak h hn (fun z => q (by rw [z]; decide))
theorem e_be {be rb : Int32} {bw rz : Int64} {nv : Nat} (h : (be = -1 ∧ rb = -1 ∧ bw = -9223372036854775808) ∨ ((∃ a, a < nv ∧ be = nI a) ∧ rb = be ∧ rz = bw)) (hn : nv ≤ 64) : ¬ rb < 0 → rb = nI rb.toNatClampNeg ∧ rb.toNatClampNeg < 64 := by
  intro q
  rcases h with ⟨_, y, _⟩ | ⟨⟨a, ha, e⟩, y, _⟩
  · exact absurd (by rw [y]; decide) q
  · rw [y, e, nI_clamp (by omega)]
    exact ⟨rfl, by omega⟩
theorem e_or {fOr : Nat → Int32} {nv : Nat} (h : ∀ i, i < nv → ∃ a, a < nv ∧ fOr i = nI a) (hn : nv ≤ 64) : ∀ j, j < nv → fOr j = nI (fOr j).toNatClampNeg ∧ (fOr j).toNatClampNeg < 64 := by
  intro j hj
  obtain ⟨a, ha, e⟩ := h j hj
  rw [e, nI_clamp (by omega)]
  exact ⟨rfl, by omega⟩
