def q_isIn (v a b : Int64) : Int32 := if v < a then 0 else if b < v then 0 else 1
theorem i64_lt (x c : Int32) : x.toInt64 < c.toInt64 ↔ x < c := by
  rw [Int64.lt_iff_toInt_lt, Int32.lt_iff_toInt_lt, Int32.toInt_toInt64, Int32.toInt_toInt64]
theorem q_isIn32 (x a b : Int32) : q_isIn x.toInt64 a.toInt64 b.toInt64 = if x < a then 0 else if b < x then 0 else 1 := by
  unfold q_isIn
  simp only [i64_lt]
abbrev q_okS (uS : Nat → Int32) (nc : Nat) : Prop := ∀ j, j < nc → uS j = nI (uS j).toNatClampNeg ∧ 1 ≤ (uS j).toNatClampNeg ∧ (uS j).toNatClampNeg ≤ 4
abbrev q_okCe (uCe : Nat → Int32) (np : Nat) : Prop := ∀ j, j < np → uCe j = nI (uCe j).toNatClampNeg ∧ (uCe j).toNatClampNeg < 9
def q_cell (a b : Int32) : Int32 := if q_pl a b = -1 then 0 else 1
theorem i32_gt2 (a : Int32) : 2 < a ↔ 3 ≤ a := by
  rw [Int32.lt_iff_toInt_lt, Int32.le_iff_toInt_le]
  have e2 : (2 : Int32).toInt = 2 := by decide
  have e3 : (3 : Int32).toInt = 3 := by decide
  omega
theorem q_pl_of {a b : Int32} (h1 : ¬ a < 0) (h2 : ¬ 3 ≤ a) (h3 : ¬ b < 0) (h4 : ¬ 3 ≤ b) : ¬ q_pl a b = -1 := by
  have l1 := ix_lt (n := 3) h1 h2 rfl (by decide)
  have l2 := ix_lt (n := 3) h3 h4 rfl (by decide)
  have e1 := ix_ge h1
  have e2 := ix_ge h3
  rw [e1, e2, q_pl_in l1 l2]
  intro q
  have := congrArg Int32.toInt q
  rw [nI_toInt (by omega)] at this
  have e : (-1 : Int32).toInt = -1 := by decide
  omega
theorem q_pl_comm {a b : Int32} (h : ¬ q_pl a b = -1) : 3 * a + b = q_pl a b := by
  have k := q_pl_ok h
  rw [q_pl, if_neg k.1, if_neg k.2.1, if_neg k.2.2.1, if_neg k.2.2.2.1, Int32.mul_comm]
theorem i3_in {x : Int32} (h : ¬ q_isIn x.toInt64 0 2 = 0) : ¬ x < 0 ∧ ¬ 3 ≤ x := by
  have e := q_isIn32 x 0 2
  rw [show q_isIn x.toInt64 0 2 = q_isIn x.toInt64 (0 : Int32).toInt64 (2 : Int32).toInt64 from rfl, e] at h
  by_cases h1 : x < 0
  · exact absurd (by rw [if_pos h1]) h
  · by_cases h2 : 2 < x
    · exact absurd (by rw [if_neg h1, if_pos h2]) h
    · exact ⟨h1, fun q => h2 ((i32_gt2 x).mpr q)⟩
theorem i3_out {x : Int32} (h : q_isIn x.toInt64 0 2 = 0) : x < 0 ∨ 3 ≤ x := by
  have e := q_isIn32 x 0 2
  rw [show q_isIn x.toInt64 0 2 = q_isIn x.toInt64 (0 : Int32).toInt64 (2 : Int32).toInt64 from rfl, e] at h
  by_cases h1 : x < 0
  · exact Or.inl h1
  · by_cases h2 : 2 < x
    · exact Or.inr ((i32_gt2 x).mp h2)
    · rw [if_neg h1, if_neg h2] at h; exact absurd h (by decide)
theorem ir_in {x a b : Int32} (h : ¬ q_isIn x.toInt64 a.toInt64 b.toInt64 = 0) : ¬ x < a ∧ ¬ b < x := by
  rw [q_isIn32] at h
  by_cases h1 : x < a
  · exact absurd (by rw [if_pos h1]) h
  · by_cases h2 : b < x
    · exact absurd (by rw [if_neg h1, if_pos h2]) h
    · exact ⟨h1, h2⟩
theorem ir_out {x a b : Int32} (h : q_isIn x.toInt64 a.toInt64 b.toInt64 = 0) : x < a ∨ b < x := by
  rw [q_isIn32] at h
  by_cases h1 : x < a
  · exact Or.inl h1
  · by_cases h2 : b < x
    · exact Or.inr h2
    · rw [if_neg h1, if_neg h2] at h; exact absurd h (by decide)
theorem il_in {x a b : Int64} (h : ¬ q_isIn x a b = 0) : ¬ x < a ∧ ¬ b < x := by
  unfold q_isIn at h
  by_cases h1 : x < a
  · exact absurd (by rw [if_pos h1]) h
  · by_cases h2 : b < x
    · exact absurd (by rw [if_neg h1, if_pos h2]) h
    · exact ⟨h1, h2⟩
theorem il_out {x a b : Int64} (h : q_isIn x a b = 0) : x < a ∨ b < x := by
  unfold q_isIn at h
  by_cases h1 : x < a
  · exact Or.inl h1
  · by_cases h2 : b < x
    · exact Or.inr h2
    · rw [if_neg h1, if_neg h2] at h; exact absurd h (by decide)
theorem q_cell_ne {r a b : Int32} (h : r = q_cell a b) (h0 : ¬ r = 0) : ¬ q_pl a b = -1 := fun q => h0 (by rw [h, q_cell, if_pos q])
theorem q_cell_eq {r a b : Int32} (h : r = q_cell a b) (h0 : r = 0) : q_pl a b = -1 := Decidable.byContradiction (fun q => by rw [h, q_cell, if_neg q] at h0; exact absurd h0 (by decide))
theorem ix_64 {a b : Nat} : 64 * nI a + nI b = nI (64 * a + b) := by
  show nI 64 * nI a + nI b = _
  rw [pk_mul, nI_add]
theorem ix_p9 {a b : Nat} : 9 * nI a + nI b = nI (9 * a + b) := by
  show nI 9 * nI a + nI b = _
  rw [pk_mul, nI_add]
theorem ix_p5 {a b : Nat} : 5 * nI a + nI b = nI (5 * a + b) := by
  show nI 5 * nI a + nI b = _
  rw [pk_mul, nI_add]
theorem ix_p93 {a b k : Nat} : 9 * nI a + 3 * nI b + nI k = nI (9 * a + 3 * b + k) := by
  show nI 9 * nI a + nI 3 * nI b + nI k = _
  rw [pk_mul, pk_mul, nI_add, nI_add]
set_option maxHeartbeats 4000000 in
set_option maxRecDepth 100000 in
/-- the reference: isIn -/
theorem m_isIn (l : Launch) (dC : Nat → ClassId) (dI : Nat → Nat → Nat) (sz : Nat) (cI : ClassId) (cZ : ClassId) (cQ : ClassId) (x1 : Int64) (x2 : Int64) (x3 : Int64)  : Met l y_Ref_isIn w_Ref_isIn ({ frames := 0, cells := 0, slots := 0, locals := 0 } : Room) (va_Pc [.long x1, .long x2, .long x3] (fun U => U.heap.size = sz ∧ va_P (dC, dI) vw_cls [] U.heap ∧ g_K dC dI [(cI, .int), (cZ, .boolean), (cQ, (.object "SettingSearch$Answers"))] U ∧ va_D (fun _ => True) [])) (va_Qi (fun (r : Int32) (u : Unit) => r = q_isIn x1 x2 x3) (fun (u : Unit) (t : State) => va_P (dC, dI) vw_cls [] t.heap ∧ va_D (va_A [] sz) []) (va_A [] sz)) 0 0 (va_A [] sz) := by
  refine Met.ofW (cc := b_Ref_isIn) (maxL := 6) (ret := (some .boolean)) (by decide) rfl ?_
  intro p e s m args below meth c s₁ B hml hv
  obtain ⟨rfl, hsz, hP, hKN, hD0⟩ := hv
  obtain ⟨hK, hN⟩ := id hKN
  have hx := B.exec
  have hb := B.bytes
  have hr := B.returns
  have hts0 := atoms_spec (ws := w_Ref_isIn) B.pre
  have hts : ∀ w ∈ lw_g, w.before _ s = true := fun w h => hts0 w (List.mem_cons_of_mem _ h)
  have hown : s.vm.findClass R_Ref = some m.cls := findClass_of_methodNamed B.named
  have hlocks := B.notSynchronized
  subst hsz
  have hD := hD0.self (sz := s.heap.size)
  generalize hAe : va_A [] s.heap.size = A at hD ⊢
  have hA : ∀ q : Nat, s.heap.size ≤ q → A q := fun q h => by rw [← hAe]; exact Or.inr h
  have hP : va_P (dC, dI) vw_cls [] s.heap := hP
  have hl := lv_entry ([.long x1, .long x2, .long x3]) (n := 6) (Nat.le_of_ble_eq_true rfl)
  rw [lg_entry_eq]
  generalize (lg_sl ([.long x1, .long x2, .long x3]) ++ List.replicate (6 - (lg_sl ([.long x1, .long x2, .long x3])).length) Slot.unset).toArray = ls at hl ⊢
  have hl : lv_has ls 6 [(0, .long x1), (2, .long x2), (4, .long x3)] := hl
  refine gw_start (fun H locs hH hlocs => ?_)
  rw [← hH] at hP
  have hS : va_S A s.heap H locs := by rw [hH, hlocs]; exact va_S.rf
  refine lv_lload_n hx hb d_Ref_isIn_0 rfl (lv_at hl 0 rfl) ?_
  refine lv_lload_n hx hb d_Ref_isIn_1 rfl (lv_at hl 1 rfl) ?_
  refine W.lcmp hx hb d_Ref_isIn_2 ?_
  refine lv_if_lt (tgt := 17) hx hb d_Ref_isIn_3 (by decide) (fun c_1 => ?_) (fun c_1 => ?_)
  · skip
    have c_1 : x1 < x2 := (lg_cmp_lt _ _).mp c_1
    refine lv_iconst (v := 0) hx hb d_Ref_isIn_17 (by decide) ?_
    have hP9 := hP.sub (ws' := []) [] rfl
    have hD9 := hD.sub (ws' := []) [] (by decide) rfl
    have hpost_2 : (0 : Int32) = q_isIn x1 x2 x3 := by simp [q_isIn, c_1]
    exact W.zret (v := 0) hx hb hr (rfl) (fun t ht hW => ⟨⟨0, (), rfl, hpost_2, by rw [ht]; exact hP9, hD9⟩, hS.F ht⟩) hS.2.2 d_Ref_isIn_18
  · skip
    have c_1 : ¬ x1 < x2 := fun h => c_1 ((lg_cmp_lt _ _).mpr h)
    refine lv_lload_n hx hb d_Ref_isIn_6 rfl (lv_at hl 0 rfl) ?_
    refine lv_lload hx hb d_Ref_isIn_7 (lv_at hl 2 rfl) ?_
    refine W.lcmp hx hb d_Ref_isIn_9 ?_
    refine lv_if_gt (tgt := 17) hx hb d_Ref_isIn_10 (by decide) (fun c_3 => ?_) (fun c_3 => ?_)
    · skip
      have c_3 : x3 < x1 := (lg_cmp_gt _ _).mp c_3
      refine lv_iconst (v := 0) hx hb d_Ref_isIn_17 (by decide) ?_
      have hP9 := hP.sub (ws' := []) [] rfl
      have hD9 := hD.sub (ws' := []) [] (by decide) rfl
      have hpost_4 : (0 : Int32) = q_isIn x1 x2 x3 := by simp [q_isIn, c_1, c_3]
      exact W.zret (v := 0) hx hb hr (rfl) (fun t ht hW => ⟨⟨0, (), rfl, hpost_4, by rw [ht]; exact hP9, hD9⟩, hS.F ht⟩) hS.2.2 d_Ref_isIn_18
    · skip
      have c_3 : ¬ x3 < x1 := fun h => c_3 ((lg_cmp_gt _ _).mpr h)
      refine lv_iconst (v := 1) hx hb d_Ref_isIn_13 (by decide) ?_
      refine lv_goto (tgt := 18) hx hb d_Ref_isIn_14 (by decide) ?_
      have hP9 := hP.sub (ws' := []) [] rfl
      have hD9 := hD.sub (ws' := []) [] (by decide) rfl
      have hpost_5 : (1 : Int32) = q_isIn x1 x2 x3 := by simp [q_isIn, c_1, c_3]
      exact W.zret (v := 1) hx hb hr (rfl) (fun t ht hW => ⟨⟨1, (), rfl, hpost_5, by rw [ht]; exact hP9, hD9⟩, hS.F ht⟩) hS.2.2 d_Ref_isIn_18
set_option maxHeartbeats 4000000 in
set_option maxRecDepth 100000 in
/-- the reference: isMachine -/
theorem m_isM (l : Launch) (dC : Nat → ClassId) (dI : Nat → Nat → Nat) (sz : Nat) (cI : ClassId) (cZ : ClassId) (cQ : ClassId) (b0 : Nat) (rc : Int32) (bS : Nat) (bC : Nat) (rv : Int32) (bW : Nat) (rp : Int32) (bCe : Nat) (bA : Nat) (bB : Nat) (bM : Nat) (rf : Int32) (bG : Nat) (bK : Nat) (bCa : Nat) (bL : Nat) (rd : Int32) (rg : Int32) (re : Int32) (bO : Nat) (rl : Int32) (rq : Int32) (rb : Int32) (rz : Int64) (k1 : Int32)  : Met l y_Ref_isMachine w_Ref_isMachine ({ frames := 0, cells := 0, slots := 0, locals := 0 } : Room) (va_Pc [.ref b0, .int k1] (fun U => U.heap.size = sz ∧ va_P (dC, dI) vw_cls [(b0, .inr (1, [.int rc, .ref bS, .ref bC, .int rv, .ref bW, .int rp, .ref bCe, .ref bA, .ref bB, .ref bM, .int rf, .ref bG, .ref bK, .ref bCa, .ref bL, .int rd, .int rg, .int re, .ref bO, .int rl, .int rq, .int rb, .long rz]))] U.heap ∧ g_K dC dI [(cI, .int), (cZ, .boolean), (cQ, (.object "SettingSearch$Answers"))] U ∧ va_D (fun _ => True) [(b0, .inr (1, [.int rc, .ref bS, .ref bC, .int rv, .ref bW, .int rp, .ref bCe, .ref bA, .ref bB, .ref bM, .int rf, .ref bG, .ref bK, .ref bCa, .ref bL, .int rd, .int rg, .int re, .ref bO, .int rl, .int rq, .int rb, .long rz]))])) (va_Qi (fun (r : Int32) (u : Unit) => r = q_has rc k1) (fun (u : Unit) (t : State) => va_P (dC, dI) vw_cls [(b0, .inr (1, [.int rc, .ref bS, .ref bC, .int rv, .ref bW, .int rp, .ref bCe, .ref bA, .ref bB, .ref bM, .int rf, .ref bG, .ref bK, .ref bCa, .ref bL, .int rd, .int rg, .int re, .ref bO, .int rl, .int rq, .int rb, .long rz]))] t.heap ∧ va_D (va_A [(b0, .inr (1, [.int rc, .ref bS, .ref bC, .int rv, .ref bW, .int rp, .ref bCe, .ref bA, .ref bB, .ref bM, .int rf, .ref bG, .ref bK, .ref bCa, .ref bL, .int rd, .int rg, .int re, .ref bO, .int rl, .int rq, .int rb, .long rz]))] sz) [(b0, .inr (1, [.int rc, .ref bS, .ref bC, .int rv, .ref bW, .int rp, .ref bCe, .ref bA, .ref bB, .ref bM, .int rf, .ref bG, .ref bK, .ref bCa, .ref bL, .int rd, .int rg, .int re, .ref bO, .int rl, .int rq, .int rb, .long rz]))]) (va_A [(b0, .inr (1, [.int rc, .ref bS, .ref bC, .int rv, .ref bW, .int rp, .ref bCe, .ref bA, .ref bB, .ref bM, .int rf, .ref bG, .ref bK, .ref bCa, .ref bL, .int rd, .int rg, .int re, .ref bO, .int rl, .int rq, .int rb, .long rz]))] sz)) 0 0 (va_A [(b0, .inr (1, [.int rc, .ref bS, .ref bC, .int rv, .ref bW, .int rp, .ref bCe, .ref bA, .ref bB, .ref bM, .int rf, .ref bG, .ref bK, .ref bCa, .ref bL, .int rd, .int rg, .int re, .ref bO, .int rl, .int rq, .int rb, .long rz]))] sz) := by
  refine Met.ofW (cc := b_Ref_isMachine) (maxL := 2) (ret := (some .boolean)) (by decide) rfl ?_
  intro p e s m args below meth c s₁ B hml hv
  obtain ⟨rfl, hsz, hP, hKN, hD0⟩ := hv
  obtain ⟨hK, hN⟩ := id hKN
  have hx := B.exec
  have hb := B.bytes
  have hr := B.returns
  have hts0 := atoms_spec (ws := w_Ref_isMachine) B.pre
  have hts : ∀ w ∈ lw_g, w.before _ s = true := fun w h => hts0 w (List.mem_cons_of_mem _ h)
  have hown : s.vm.findClass R_Ref = some m.cls := findClass_of_methodNamed B.named
  have hlocks := B.notSynchronized
  subst hsz
  have hD := hD0.self (sz := s.heap.size)
  generalize hAe : va_A [(b0, .inr (1, [.int rc, .ref bS, .ref bC, .int rv, .ref bW, .int rp, .ref bCe, .ref bA, .ref bB, .ref bM, .int rf, .ref bG, .ref bK, .ref bCa, .ref bL, .int rd, .int rg, .int re, .ref bO, .int rl, .int rq, .int rb, .long rz]))] s.heap.size = A at hD ⊢
  have hA : ∀ q : Nat, s.heap.size ≤ q → A q := fun q h => by rw [← hAe]; exact Or.inr h
  have hP : va_P (dC, dI) vw_cls [(b0, .inr (1, [.int rc, .ref bS, .ref bC, .int rv, .ref bW, .int rp, .ref bCe, .ref bA, .ref bB, .ref bM, .int rf, .ref bG, .ref bK, .ref bCa, .ref bL, .int rd, .int rg, .int re, .ref bO, .int rl, .int rq, .int rb, .long rz]))] s.heap := hP
  have hl := lv_entry ([.ref b0, .int k1]) (n := 2) (Nat.le_of_ble_eq_true rfl)
  rw [lg_entry_eq]
  generalize (lg_sl ([.ref b0, .int k1]) ++ List.replicate (2 - (lg_sl ([.ref b0, .int k1])).length) Slot.unset).toArray = ls at hl ⊢
  have hl : lv_has ls 2 [(0, .ref b0), (1, .int k1)] := hl
  refine gw_start (fun H locs hH hlocs => ?_)
  rw [← hH] at hP
  have hS : va_S A s.heap H locs := by rw [hH, hlocs]; exact va_S.rf
  refine lv_iload_n hx hb d_Ref_isMachine_0 rfl (lv_at hl 1 rfl) ?_
  refine lv_if_lt (tgt := 16) hx hb d_Ref_isMachine_1 (by decide) (fun c_1 => ?_) (fun c_1 => ?_)
  · skip
    refine lv_iconst (v := 0) hx hb d_Ref_isMachine_16 (by decide) ?_
    have hP9 := hP.sub (ws' := [(b0, .inr (1, [.int rc, .ref bS, .ref bC, .int rv, .ref bW, .int rp, .ref bCe, .ref bA, .ref bB, .ref bM, .int rf, .ref bG, .ref bK, .ref bCa, .ref bL, .int rd, .int rg, .int re, .ref bO, .int rl, .int rq, .int rb, .long rz]))]) [0] rfl
    have hD9 := hD.sub (ws' := [(b0, .inr (1, [.int rc, .ref bS, .ref bC, .int rv, .ref bW, .int rp, .ref bCe, .ref bA, .ref bB, .ref bM, .int rf, .ref bG, .ref bK, .ref bCa, .ref bL, .int rd, .int rg, .int re, .ref bO, .int rl, .int rq, .int rb, .long rz]))]) [0] (by decide) rfl
    have hpost_2 : (0 : Int32) = q_has rc k1 := by simp [q_has, c_1]
    exact W.zret (v := 0) hx hb hr (rfl) (fun t ht hW => ⟨⟨0, (), rfl, hpost_2, by rw [ht]; exact hP9, hD9⟩, hS.F ht⟩) hS.2.2 d_Ref_isMachine_17
  · skip
    refine lv_iload_n hx hb d_Ref_isMachine_4 rfl (lv_at hl 1 rfl) ?_
    refine lv_aload_n hx hb d_Ref_isMachine_5 rfl (lv_at hl 0 rfl) ?_
    refine va_get (D := (dC, dI)) (ci := 1) (v := .int rc) (C := R_Ref) (T := T_Ref) (N := 23) hx hb hts in_Ref hown hK hP 0 rfl rfl 0 (by decide) (hts _ tw_429) (fun _ h9 => h9) rfl d_Ref_isMachine_6 ?_
    refine lv_icmp_ge (tgt := 16) hx hb d_Ref_isMachine_9 (by decide) (fun c_3 => ?_) (fun c_3 => ?_)
    · skip
      refine lv_iconst (v := 0) hx hb d_Ref_isMachine_16 (by decide) ?_
      have hP9 := hP.sub (ws' := [(b0, .inr (1, [.int rc, .ref bS, .ref bC, .int rv, .ref bW, .int rp, .ref bCe, .ref bA, .ref bB, .ref bM, .int rf, .ref bG, .ref bK, .ref bCa, .ref bL, .int rd, .int rg, .int re, .ref bO, .int rl, .int rq, .int rb, .long rz]))]) [0] rfl
      have hD9 := hD.sub (ws' := [(b0, .inr (1, [.int rc, .ref bS, .ref bC, .int rv, .ref bW, .int rp, .ref bCe, .ref bA, .ref bB, .ref bM, .int rf, .ref bG, .ref bK, .ref bCa, .ref bL, .int rd, .int rg, .int re, .ref bO, .int rl, .int rq, .int rb, .long rz]))]) [0] (by decide) rfl
      have hpost_4 : (0 : Int32) = q_has rc k1 := by simp [q_has, c_1, c_3]
      exact W.zret (v := 0) hx hb hr (rfl) (fun t ht hW => ⟨⟨0, (), rfl, hpost_4, by rw [ht]; exact hP9, hD9⟩, hS.F ht⟩) hS.2.2 d_Ref_isMachine_17
    · skip
      refine lv_iconst (v := 1) hx hb d_Ref_isMachine_12 (by decide) ?_
      refine lv_goto (tgt := 17) hx hb d_Ref_isMachine_13 (by decide) ?_
      have hP9 := hP.sub (ws' := [(b0, .inr (1, [.int rc, .ref bS, .ref bC, .int rv, .ref bW, .int rp, .ref bCe, .ref bA, .ref bB, .ref bM, .int rf, .ref bG, .ref bK, .ref bCa, .ref bL, .int rd, .int rg, .int re, .ref bO, .int rl, .int rq, .int rb, .long rz]))]) [0] rfl
      have hD9 := hD.sub (ws' := [(b0, .inr (1, [.int rc, .ref bS, .ref bC, .int rv, .ref bW, .int rp, .ref bCe, .ref bA, .ref bB, .ref bM, .int rf, .ref bG, .ref bK, .ref bCa, .ref bL, .int rd, .int rg, .int re, .ref bO, .int rl, .int rq, .int rb, .long rz]))]) [0] (by decide) rfl
      have hpost_5 : (1 : Int32) = q_has rc k1 := by simp [q_has, c_1, c_3]
      exact W.zret (v := 1) hx hb hr (rfl) (fun t ht hW => ⟨⟨1, (), rfl, hpost_5, by rw [ht]; exact hP9, hD9⟩, hS.F ht⟩) hS.2.2 d_Ref_isMachine_17
set_option maxHeartbeats 4000000 in
set_option maxRecDepth 100000 in
/-- the reference: isCell -/
theorem m_isC (l : Launch) (dC : Nat → ClassId) (dI : Nat → Nat → Nat) (sz : Nat) (cI : ClassId) (cZ : ClassId) (cQ : ClassId) (k1 : Int32) (k2 : Int32)  : Met l y_Ref_isCell w_Ref_isCell ({ frames := 1, cells := 0, slots := 0, locals := 25 } : Room) (va_Pc [.int k1, .int k2] (fun U => U.heap.size = sz ∧ va_P (dC, dI) vw_cls [] U.heap ∧ g_K dC dI [(cI, .int), (cZ, .boolean), (cQ, (.object "SettingSearch$Answers"))] U ∧ va_D (fun _ => True) [])) (va_Qi (fun (r : Int32) (u : Unit) => r = q_cell k1 k2) (fun (u : Unit) (t : State) => va_P (dC, dI) vw_cls [] t.heap ∧ va_D (va_A [] sz) []) (va_A [] sz)) 0 0 (va_A [] sz) := by
  refine Met.ofW (cc := b_Ref_isCell) (maxL := 2) (ret := (some .boolean)) (by decide) rfl ?_
  intro p e s m args below meth c s₁ B hml hv
  obtain ⟨rfl, hsz, hP, hKN, hD0⟩ := hv
  obtain ⟨hK, hN⟩ := id hKN
  have hx := B.exec
  have hb := B.bytes
  have hr := B.returns
  have hts0 := atoms_spec (ws := w_Ref_isCell) B.pre
  have hts : ∀ w ∈ lw_g, w.before _ s = true := fun w h => hts0 w (List.mem_cons_of_mem _ h)
  have hown : s.vm.findClass R_Ref = some m.cls := findClass_of_methodNamed B.named
  have hlocks := B.notSynchronized
  subst hsz
  have hD := hD0.self (sz := s.heap.size)
  generalize hAe : va_A [] s.heap.size = A at hD ⊢
  have hA : ∀ q : Nat, s.heap.size ≤ q → A q := fun q h => by rw [← hAe]; exact Or.inr h
  have hP : va_P (dC, dI) vw_cls [] s.heap := hP
  have hl := lv_entry ([.int k1, .int k2]) (n := 2) (Nat.le_of_ble_eq_true rfl)
  rw [lg_entry_eq]
  generalize (lg_sl ([.int k1, .int k2]) ++ List.replicate (2 - (lg_sl ([.int k1, .int k2])).length) Slot.unset).toArray = ls at hl ⊢
  have hl : lv_has ls 2 [(0, .int k1), (1, .int k2)] := hl
  refine gw_start (fun H locs hH hlocs => ?_)
  rw [← hH] at hP
  have hS : va_S A s.heap H locs := by rw [hH, hlocs]; exact va_S.rf
  refine lv_iload_n hx hb d_Ref_isCell_0 rfl (lv_at hl 0 rfl) ?_
  refine lv_i2l hx hb d_Ref_isCell_1 rfl ?_
  refine lv_topl (fun v_1 ev_1 => ?_)
  refine lv_lconst (v := 0) hx hb d_Ref_isCell_2 (by decide) ?_
  refine lv_ldc2 (v := 2) hx hb hown (hts _ tw_514) d_Ref_isCell_3 ?_
  have hPc := hP.sub (ws' := []) [] rfl
  have hDc := hD.sub (ws' := []) [] (by decide) rfl
  have hFc := va_free (wc := []) hD hS hA [] rfl
  refine va_calli (va_runS (As := [.long v_1, .long 0, .long 2]) (rest := []) ⟨hx, hb, hml, hown, hts⟩ (m_isIn l dC dI H.size cI cZ cQ v_1 0 2 ) ⟨(callB_of 3 hts (ga_all tw_506) rfl rfl rfl (hts _ tw_29) (hts _ tw_504) (by decide +kernel) ⟨Nat.le_of_ble_eq_true rfl, Nat.le_of_ble_eq_true rfl⟩), hts _ tw_505⟩ ⟨fun a U g mk q => by obtain ⟨q0, q1, qP, qK, qD⟩ := q; exact ⟨q0, q1, qP, g_K.same (u := U) (U := U.calling g mk a) rfl qK, qD⟩, fun U hU hW => ⟨rfl, by rw [hU], by rw [hU]; exact hPc, g_K.warm hW hKN, hDc.weaken (fun _ _ _ _ => trivial)⟩⟩ rfl rfl hl.1 rfl (lv_room (Nat.le_of_ble_eq_true rfl)) d_Ref_isCell_6 ⟨Nat.le_of_ble_eq_true rfl, Nat.le_of_ble_eq_true rfl⟩) hS (fun q _ h => hFc q h) hFc (fun r_2 u t H1 locs htt hvm hw_3 hBB hzz hkk hS => ?_)
  have hw_3 : r_2 = q_isIn v_1 0 2 := hw_3
  obtain ⟨hPP, hDD⟩ := hBB
  rw [htt] at hPP
  have hPP : va_P (dC, dI) vw_cls [] H1 := hPP
  have hDD : va_D (va_A [] H.size) [] := hDD
  obtain ⟨hP, hD⟩ := va_join (wr := []) (w1 := []) hP hD [] [] rfl rfl (by decide) (by decide) hkk hFc hPP hDD
  generalize H1 = H at hP hS ⊢
  have hP : va_P (dC, dI) vw_cls [] H := hP
  have hD : va_D A [] := hD
  refine lv_if_eq (tgt := 28) hx hb d_Ref_isCell_9 (by decide) (fun c_4 => ?_) (fun c_4 => ?_)
  · skip
    have ca := i3_out (by rw [← ev_1, ← hw_3]; exact c_4)
    refine lv_iconst (v := 0) hx hb d_Ref_isCell_28 (by decide) ?_
    have hP9 := hP.sub (ws' := []) [] rfl
    have hD9 := hD.sub (ws' := []) [] (by decide) rfl
    have hpost_5 : (0 : Int32) = q_cell k1 k2 := by rw [q_cell, if_pos (Decidable.byContradiction (fun q => by have k := q_pl_ok q; rcases ca with z | z; exact k.1 z; exact k.2.1 z))]
    exact W.zret (v := 0) hx hb hr (rfl) (fun t ht hW => ⟨⟨0, (), rfl, hpost_5, by rw [ht]; exact hP9, hD9⟩, hS.F ht⟩) hS.2.2 d_Ref_isCell_29
  · skip
    have ca := i3_in (by rw [← ev_1, ← hw_3]; exact c_4)
    refine lv_iload_n hx hb d_Ref_isCell_12 rfl (lv_at hl 1 rfl) ?_
    refine lv_i2l hx hb d_Ref_isCell_13 rfl ?_
    refine lv_topl (fun v_6 ev_6 => ?_)
    refine lv_lconst (v := 0) hx hb d_Ref_isCell_14 (by decide) ?_
    refine lv_ldc2 (v := 2) hx hb hown (hts _ tw_514) d_Ref_isCell_15 ?_
    have hPc := hP.sub (ws' := []) [] rfl
    have hDc := hD.sub (ws' := []) [] (by decide) rfl
    have hFc := va_free (wc := []) hD hS hA [] rfl
    refine va_calli (va_runS (As := [.long v_6, .long 0, .long 2]) (rest := []) ⟨hx, hb, hml, hown, hts⟩ (m_isIn l dC dI H.size cI cZ cQ v_6 0 2 ) ⟨(callB_of 3 hts (ga_all tw_506) rfl rfl rfl (hts _ tw_29) (hts _ tw_504) (by decide +kernel) ⟨Nat.le_of_ble_eq_true rfl, Nat.le_of_ble_eq_true rfl⟩), hts _ tw_505⟩ ⟨fun a U g mk q => by obtain ⟨q0, q1, qP, qK, qD⟩ := q; exact ⟨q0, q1, qP, g_K.same (u := U) (U := U.calling g mk a) rfl qK, qD⟩, fun U hU hW => ⟨rfl, by rw [hU], by rw [hU]; exact hPc, g_K.warm hW hKN, hDc.weaken (fun _ _ _ _ => trivial)⟩⟩ rfl rfl hl.1 rfl (lv_room (Nat.le_of_ble_eq_true rfl)) d_Ref_isCell_18 ⟨Nat.le_of_ble_eq_true rfl, Nat.le_of_ble_eq_true rfl⟩) hS (fun q _ h => hFc q h) hFc (fun r_7 u t H1 locs htt hvm hw_8 hBB hzz hkk hS => ?_)
    have hw_8 : r_7 = q_isIn v_6 0 2 := hw_8
    obtain ⟨hPP, hDD⟩ := hBB
    rw [htt] at hPP
    have hPP : va_P (dC, dI) vw_cls [] H1 := hPP
    have hDD : va_D (va_A [] H.size) [] := hDD
    obtain ⟨hP, hD⟩ := va_join (wr := []) (w1 := []) hP hD [] [] rfl rfl (by decide) (by decide) hkk hFc hPP hDD
    generalize H1 = H at hP hS ⊢
    have hP : va_P (dC, dI) vw_cls [] H := hP
    have hD : va_D A [] := hD
    refine lv_if_eq (tgt := 28) hx hb d_Ref_isCell_21 (by decide) (fun c_9 => ?_) (fun c_9 => ?_)
    · skip
      have cb := i3_out (by rw [← ev_6, ← hw_8]; exact c_9)
      refine lv_iconst (v := 0) hx hb d_Ref_isCell_28 (by decide) ?_
      have hP9 := hP.sub (ws' := []) [] rfl
      have hD9 := hD.sub (ws' := []) [] (by decide) rfl
      have hpost_10 : (0 : Int32) = q_cell k1 k2 := by rw [q_cell, if_pos (Decidable.byContradiction (fun q => by have k := q_pl_ok q; rcases cb with z | z; exact k.2.2.1 z; exact k.2.2.2.1 z))]
      exact W.zret (v := 0) hx hb hr (rfl) (fun t ht hW => ⟨⟨0, (), rfl, hpost_10, by rw [ht]; exact hP9, hD9⟩, hS.F ht⟩) hS.2.2 d_Ref_isCell_29
    · skip
      have cb := i3_in (by rw [← ev_6, ← hw_8]; exact c_9)
      refine lv_iconst (v := 1) hx hb d_Ref_isCell_24 (by decide) ?_
      refine lv_goto (tgt := 29) hx hb d_Ref_isCell_25 (by decide) ?_
      have hP9 := hP.sub (ws' := []) [] rfl
      have hD9 := hD.sub (ws' := []) [] (by decide) rfl
      have hpost_11 : (1 : Int32) = q_cell k1 k2 := by rw [q_cell, if_neg (q_pl_of ca.1 ca.2 cb.1 cb.2)]
      exact W.zret (v := 1) hx hb hr (rfl) (fun t ht hW => ⟨⟨1, (), rfl, hpost_11, by rw [ht]; exact hP9, hD9⟩, hS.F ht⟩) hS.2.2 d_Ref_isCell_29
