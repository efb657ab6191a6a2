def q_hr (v : Int32) : Int32 := if v < 0 then 0 else if 64 ≤ v then 0 else 1
theorem q_hr_in {v : Int32} {j : Nat} (e : v = nI j) (h : j < 64) : q_hr v = 1 := by
  rw [e, q_hr, if_neg (nI_pos (by omega)), if_neg (show ¬ (64 : Int32) ≤ nI j from fun q => nI_ge h (by decide) q)]
def q_pl (a b : Int32) : Int32 := if a < 0 then -1 else if 3 ≤ a then -1 else if b < 0 then -1 else if 3 ≤ b then -1 else a * 3 + b
theorem q_pl_in {a b : Nat} (ha : a < 3) (hb : b < 3) : q_pl (nI a) (nI b) = nI (a * 3 + b) := by
  rw [q_pl, if_neg (nI_pos (by omega)), if_neg (show ¬ (3 : Int32) ≤ nI a from fun q => nI_ge ha (by decide) q), if_neg (nI_pos (by omega)), if_neg (show ¬ (3 : Int32) ≤ nI b from fun q => nI_ge hb (by decide) q)]
  show nI a * nI 3 + nI b = _
  rw [pk_mul, nI_add]
/-- k places from b on are 0 -/
def q_z (f : Nat → Int32) (b : Nat) : Nat → Nat → Int32
  | 0 => f
  | k + 1 => upd (q_z f b k) (b + k) 0
def q_wo (fG fW : Nat → Int32) (jv : Nat) : Nat → Int64
  | 0 => 0
  | k + 1 => q_wo fG fW jv k + (fG (jv * 9 + k)).toInt64 * (fW k).toInt64
def q_oth (fG : Nat → Int32) (jv jk : Nat) : Nat → Int64
  | 0 => 0
  | j + 1 => if j = jk then q_oth fG jv jk j else q_oth fG jv jk j + (fG (jv * 9 + j)).toInt64
abbrev q_tgOk (fd : Int64) (fG : Nat → Int32) (jv jk : Nat) (a : Int64) : Prop := ¬ a < 0 ∧ a ≤ fd ∧ q_oth fG jv jk 9 + a ≤ fd
set_option maxHeartbeats 4000000 in
set_option maxRecDepth 100000 in
/-- hasRow -/
theorem k_hr (l : Launch) (dC : Nat → ClassId) (dI : Nat → Nat → Nat) (sz : Nat) (cI : ClassId) (cZ : ClassId) (cQ : ClassId) (v1 : Int32)  : Met l y_Answers_hasRow w_Answers_hasRow ({ frames := 0, cells := 0, slots := 0, locals := 0 } : Room) (va_Pc [.int v1] (fun U => U.heap.size = sz ∧ va_P (dC, dI) vw_cls [] U.heap ∧ g_K dC dI [(cI, .int), (cZ, .boolean), (cQ, (.object "SettingSearch$Answers"))] U ∧ va_D (fun _ => True) [])) (va_Qi (fun (r : Int32) (u : Unit) => r = q_hr v1) (fun (u : Unit) (t : State) => va_P (dC, dI) vw_cls [] t.heap ∧ va_D (va_A [] sz) []) (va_A [] sz)) 0 0 (va_A [] sz) := by
  refine Met.ofW (cc := b_Answers_hasRow) (maxL := 1) (ret := (some .boolean)) (by decide) rfl ?_
  intro p e s m args below meth c s₁ B hml hv
  obtain ⟨rfl, hsz, hP, hKN, hD0⟩ := hv
  obtain ⟨hK, hN⟩ := id hKN
  have hx := B.exec
  have hb := B.bytes
  have hr := B.returns
  have hts0 := atoms_spec (ws := w_Answers_hasRow) B.pre
  have hts : ∀ w ∈ lw_g, w.before _ s = true := fun w h => hts0 w (List.mem_cons_of_mem _ h)
  have hown : s.vm.findClass R_Answers = some m.cls := findClass_of_methodNamed B.named
  have hlocks := B.notSynchronized
  subst hsz
  have hD := hD0.self (sz := s.heap.size)
  generalize hAe : va_A [] s.heap.size = A at hD ⊢
  have hA : ∀ q : Nat, s.heap.size ≤ q → A q := fun q h => by rw [← hAe]; exact Or.inr h
  have hP : va_P (dC, dI) vw_cls [] s.heap := hP
  have hl := lv_entry ([.int v1]) (n := 1) (Nat.le_of_ble_eq_true rfl)
  rw [lg_entry_eq]
  generalize (lg_sl ([.int v1]) ++ List.replicate (1 - (lg_sl ([.int v1])).length) Slot.unset).toArray = ls at hl ⊢
  have hl : lv_has ls 1 [(0, .int v1)] := hl
  refine gw_start (fun H locs hH hlocs => ?_)
  rw [← hH] at hP
  have hS : va_S A s.heap H locs := by rw [hH, hlocs]; exact va_S.rf
  refine lv_iload_n hx hb d_Answers_hasRow_0 rfl (lv_at hl 0 rfl) ?_
  refine lv_if_lt (tgt := 14) hx hb d_Answers_hasRow_1 (by decide) (fun c_1 => ?_) (fun c_1 => ?_)
  · skip
    refine lv_iconst (v := 0) hx hb d_Answers_hasRow_14 (by decide) ?_
    have hP9 := hP.sub (ws' := []) [] rfl
    have hD9 := hD.sub (ws' := []) [] (by decide) rfl
    have hpost_2 : (0 : Int32) = q_hr v1 := by simp [q_hr, c_1]
    exact W.zret (v := 0) hx hb hr (rfl) (fun t ht hW => ⟨⟨0, (), rfl, hpost_2, by rw [ht]; exact hP9, hD9⟩, hS.F ht⟩) hS.2.2 d_Answers_hasRow_15
  · skip
    refine lv_iload_n hx hb d_Answers_hasRow_4 rfl (lv_at hl 0 rfl) ?_
    refine lv_bipush (v := 64) hx hb d_Answers_hasRow_5 (by decide) ?_
    refine lv_icmp_ge (tgt := 14) hx hb d_Answers_hasRow_7 (by decide) (fun c_3 => ?_) (fun c_3 => ?_)
    · skip
      refine lv_iconst (v := 0) hx hb d_Answers_hasRow_14 (by decide) ?_
      have hP9 := hP.sub (ws' := []) [] rfl
      have hD9 := hD.sub (ws' := []) [] (by decide) rfl
      have hpost_4 : (0 : Int32) = q_hr v1 := by simp [q_hr, c_1, c_3]
      exact W.zret (v := 0) hx hb hr (rfl) (fun t ht hW => ⟨⟨0, (), rfl, hpost_4, by rw [ht]; exact hP9, hD9⟩, hS.F ht⟩) hS.2.2 d_Answers_hasRow_15
    · skip
      refine lv_iconst (v := 1) hx hb d_Answers_hasRow_10 (by decide) ?_
      refine lv_goto (tgt := 15) hx hb d_Answers_hasRow_11 (by decide) ?_
      have hP9 := hP.sub (ws' := []) [] rfl
      have hD9 := hD.sub (ws' := []) [] (by decide) rfl
      have hpost_5 : (1 : Int32) = q_hr v1 := by simp [q_hr, c_1, c_3]
      exact W.zret (v := 1) hx hb hr (rfl) (fun t ht hW => ⟨⟨1, (), rfl, hpost_5, by rw [ht]; exact hP9, hD9⟩, hS.F ht⟩) hS.2.2 d_Answers_hasRow_15
set_option maxHeartbeats 4000000 in
set_option maxRecDepth 100000 in
/-- gramsAt -/
theorem k_ga (l : Launch) (dC : Nat → ClassId) (dI : Nat → Nat → Nat) (sz : Nat) (cI : ClassId) (cZ : ClassId) (cQ : ClassId) (aA : Nat) (aK : Nat) (aG : Nat) (aO : Nat) (fd : Int64) (ct : Int32) (fG : Nat → Int32) (v1 : Int32) (jv : Nat) (k1 : Int32) (jk : Nat) (hv1 : v1 = nI jv) (hjv : jv < 64) (hk1 : k1 = nI jk) (hjk : jk < 9) : Met l y_Answers_gramsAt w_Answers_gramsAt ({ frames := 1, cells := 0, slots := 0, locals := 20 } : Room) (va_Pc [.ref aA, .int v1, .int k1] (fun U => U.heap.size = sz ∧ va_P (dC, dI) vw_cls [(aA, .inr (2, [.long fd, .int ct, .ref aK, .ref aG, .ref aO])), (aG, .inl (cI, 576, .inl fG))] U.heap ∧ g_K dC dI [(cI, .int), (cZ, .boolean), (cQ, (.object "SettingSearch$Answers"))] U ∧ va_D (fun _ => True) [(aA, .inr (2, [.long fd, .int ct, .ref aK, .ref aG, .ref aO])), (aG, .inl (cI, 576, .inl fG))])) (va_Qi (fun (r : Int32) (u : Unit) => r = fG (jv * 9 + jk)) (fun (u : Unit) (t : State) => va_P (dC, dI) vw_cls [(aA, .inr (2, [.long fd, .int ct, .ref aK, .ref aG, .ref aO])), (aG, .inl (cI, 576, .inl fG))] t.heap ∧ va_D (va_A [(aA, .inr (2, [.long fd, .int ct, .ref aK, .ref aG, .ref aO])), (aG, .inl (cI, 576, .inl fG))] sz) [(aA, .inr (2, [.long fd, .int ct, .ref aK, .ref aG, .ref aO])), (aG, .inl (cI, 576, .inl fG))]) (va_A [(aA, .inr (2, [.long fd, .int ct, .ref aK, .ref aG, .ref aO])), (aG, .inl (cI, 576, .inl fG))] sz)) 0 0 (va_A [(aA, .inr (2, [.long fd, .int ct, .ref aK, .ref aG, .ref aO])), (aG, .inl (cI, 576, .inl fG))] sz) := by
  refine Met.ofW (cc := b_Answers_gramsAt) (maxL := 3) (ret := (some .int)) (by decide) rfl ?_
  intro p e s m args below meth c s₁ B hml hv
  obtain ⟨rfl, hsz, hP, hKN, hD0⟩ := hv
  obtain ⟨hK, hN⟩ := id hKN
  have hx := B.exec
  have hb := B.bytes
  have hr := B.returns
  have hts0 := atoms_spec (ws := w_Answers_gramsAt) B.pre
  have hts : ∀ w ∈ lw_g, w.before _ s = true := fun w h => hts0 w (List.mem_cons_of_mem _ h)
  have hown : s.vm.findClass R_Answers = some m.cls := findClass_of_methodNamed B.named
  have hlocks := B.notSynchronized
  subst hsz
  have hD := hD0.self (sz := s.heap.size)
  generalize hAe : va_A [(aA, .inr (2, [.long fd, .int ct, .ref aK, .ref aG, .ref aO])), (aG, .inl (cI, 576, .inl fG))] s.heap.size = A at hD ⊢
  have hA : ∀ q : Nat, s.heap.size ≤ q → A q := fun q h => by rw [← hAe]; exact Or.inr h
  have hP : va_P (dC, dI) vw_cls [(aA, .inr (2, [.long fd, .int ct, .ref aK, .ref aG, .ref aO])), (aG, .inl (cI, 576, .inl fG))] s.heap := hP
  have hl := lv_entry ([.ref aA, .int v1, .int k1]) (n := 3) (Nat.le_of_ble_eq_true rfl)
  rw [lg_entry_eq]
  generalize (lg_sl ([.ref aA, .int v1, .int k1]) ++ List.replicate (3 - (lg_sl ([.ref aA, .int v1, .int k1])).length) Slot.unset).toArray = ls at hl ⊢
  have hl : lv_has ls 3 [(0, .ref aA), (1, .int v1), (2, .int k1)] := hl
  refine gw_start (fun H locs hH hlocs => ?_)
  rw [← hH] at hP
  have hS : va_S A s.heap H locs := by rw [hH, hlocs]; exact va_S.rf
  refine lv_iload_n hx hb d_Answers_gramsAt_0 rfl (lv_at hl 1 rfl) ?_
  have hPc := hP.sub (ws' := []) [] rfl
  have hDc := hD.sub (ws' := []) [] (by decide) rfl
  have hFc := va_free (wc := []) hD hS hA [] rfl
  refine va_calli (va_runS (As := [.int v1]) (rest := []) ⟨hx, hb, hml, hown, hts⟩ (k_hr l dC dI H.size cI cZ cQ v1 ) ⟨(callB_of 1 hts (ga_all tw_279) rfl rfl rfl (hts _ tw_27) (hts _ tw_277) (by decide +kernel) ⟨Nat.le_of_ble_eq_true rfl, Nat.le_of_ble_eq_true rfl⟩), hts _ tw_278⟩ ⟨fun a U g mk q => by obtain ⟨q0, q1, qP, qK, qD⟩ := q; exact ⟨q0, q1, qP, g_K.same (u := U) (U := U.calling g mk a) rfl qK, qD⟩, fun U hU hW => ⟨rfl, by rw [hU], by rw [hU]; exact hPc, g_K.warm hW hKN, hDc.weaken (fun _ _ _ _ => trivial)⟩⟩ rfl rfl hl.1 rfl (lv_room (Nat.le_of_ble_eq_true rfl)) d_Answers_gramsAt_1 ⟨Nat.le_of_ble_eq_true rfl, Nat.le_of_ble_eq_true rfl⟩) hS (fun q _ h => hFc q h) hFc (fun r_1 u t H1 locs htt hvm hw_2 hBB hzz hkk hS => ?_)
  have hw_2 : r_1 = q_hr v1 := hw_2
  obtain ⟨hPP, hDD⟩ := hBB
  rw [htt] at hPP
  have hPP : va_P (dC, dI) vw_cls [] H1 := hPP
  have hDD : va_D (va_A [] H.size) [] := hDD
  obtain ⟨hP, hD⟩ := va_join (wr := [(aA, .inr (2, [.long fd, .int ct, .ref aK, .ref aG, .ref aO])), (aG, .inl (cI, 576, .inl fG))]) (w1 := []) hP hD [] [0, 1] rfl rfl (by decide) (by decide) hkk hFc hPP hDD
  generalize H1 = H at hP hS ⊢
  have hP : va_P (dC, dI) vw_cls [(aA, .inr (2, [.long fd, .int ct, .ref aK, .ref aG, .ref aO])), (aG, .inl (cI, 576, .inl fG))] H := hP
  have hD : va_D A [(aA, .inr (2, [.long fd, .int ct, .ref aK, .ref aG, .ref aO])), (aG, .inl (cI, 576, .inl fG))] := hD
  refine lv_if_eq (tgt := 17) hx hb d_Answers_gramsAt_4 (by decide) (fun c_3 => ?_) (fun c_3 => ?_)
  · skip
    exact absurd (c_3 : _ = _) (by rw [hw_2, q_hr_in hv1 hjv]; decide)
  · skip
    refine lv_iload_n hx hb d_Answers_gramsAt_7 rfl (lv_at hl 2 rfl) ?_
    refine lv_if_lt (tgt := 17) hx hb d_Answers_gramsAt_8 (by decide) (fun c_4 => ?_) (fun c_4 => ?_)
    · skip
      exact absurd c_4 (by rw [hk1]; exact nI_pos (by omega))
    · skip
      refine lv_iload_n hx hb d_Answers_gramsAt_11 rfl (lv_at hl 2 rfl) ?_
      refine lv_bipush (v := 9) hx hb d_Answers_gramsAt_12 (by decide) ?_
      refine lv_icmp_lt (tgt := 19) hx hb d_Answers_gramsAt_14 (by decide) (fun c_5 => ?_) (fun c_5 => ?_)
      · skip
        refine lv_aload_n hx hb d_Answers_gramsAt_19 rfl (lv_at hl 0 rfl) ?_
        refine va_get (D := (dC, dI)) (ci := 2) (v := .ref aG) (C := R_Answers) (T := T_Answers) (N := 5) hx hb hts in_Answers hown hK hP 0 rfl rfl 3 (by decide) (hts _ tw_114) (fun _ h9 => h9) rfl d_Answers_gramsAt_20 ?_
        refine lv_iload_n hx hb d_Answers_gramsAt_23 rfl (lv_at hl 1 rfl) ?_
        refine lv_bipush (v := 9) hx hb d_Answers_gramsAt_24 (by decide) ?_
        refine lv_imul hx hb d_Answers_gramsAt_26 ?_
        refine lv_topi (fun v_6 ev_6 => ?_)
        refine lv_iload_n hx hb d_Answers_gramsAt_27 rfl (lv_at hl 2 rfl) ?_
        refine lv_iadd hx hb d_Answers_gramsAt_28 ?_
        refine lv_topi (fun v_7 ev_7 => ?_)
        have eh_8 : v_7 = nI (jv * 9 + jk) := by simp only [ev_6, ev_7]; rw [hv1, hk1, ix_m9]
        have bh_8 : jv * 9 + jk < 576 := by omega
        have h_8 : vp_in v_7 576 := by rw [eh_8]; exact vp_in_nI bh_8 (by decide)
        have kh_8 : v_7.toNatClampNeg = jv * 9 + jk := by rw [eh_8]; exact nI_clamp (by omega)
        refine va_iald hx hb hK hP 1 0 rfl rfl h_8 d_Answers_gramsAt_29 ?_
        rw [kh_8]
        refine lv_topi (fun v_9 ev_9 => ?_)
        have hP9 := hP.sub (ws' := [(aA, .inr (2, [.long fd, .int ct, .ref aK, .ref aG, .ref aO])), (aG, .inl (cI, 576, .inl fG))]) [0, 1] rfl
        have hD9 := hD.sub (ws' := [(aA, .inr (2, [.long fd, .int ct, .ref aK, .ref aG, .ref aO])), (aG, .inl (cI, 576, .inl fG))]) [0, 1] (by decide) rfl
        have hpost_10 : (v_9 : Int32) = fG (jv * 9 + jk) := by simp only [ev_6, ev_7, ev_9]
        exact W.iret (v := v_9) hx hb hr (fun t ht hW => ⟨⟨v_9, (), rfl, hpost_10, by rw [ht]; exact hP9, hD9⟩, hS.F ht⟩) hS.2.2 d_Answers_gramsAt_30
      · skip
        exact absurd (by rw [hk1]; exact nI_lt hjk (by decide)) c_5
set_option maxHeartbeats 4000000 in
set_option maxRecDepth 100000 in
/-- loadOf -/
theorem k_lo (l : Launch) (dC : Nat → ClassId) (dI : Nat → Nat → Nat) (sz : Nat) (cI : ClassId) (cZ : ClassId) (cQ : ClassId) (aA : Nat) (aK : Nat) (aG : Nat) (aO : Nat) (fd : Int64) (ct : Int32) (fO : Nat → Int32) (v1 : Int32) (jv : Nat) (k1 : Int32) (jk : Nat) (hv1 : v1 = nI jv) (hjv : jv < 64) (hk1 : k1 = nI jk) (hjk : jk < 5) : Met l y_Answers_loadOf w_Answers_loadOf ({ frames := 1, cells := 0, slots := 0, locals := 20 } : Room) (va_Pc [.ref aA, .int v1, .int k1] (fun U => U.heap.size = sz ∧ va_P (dC, dI) vw_cls [(aA, .inr (2, [.long fd, .int ct, .ref aK, .ref aG, .ref aO])), (aO, .inl (cI, 320, .inl fO))] U.heap ∧ g_K dC dI [(cI, .int), (cZ, .boolean), (cQ, (.object "SettingSearch$Answers"))] U ∧ va_D (fun _ => True) [(aA, .inr (2, [.long fd, .int ct, .ref aK, .ref aG, .ref aO])), (aO, .inl (cI, 320, .inl fO))])) (va_Qi (fun (r : Int32) (u : Unit) => r = fO (jv * 5 + jk)) (fun (u : Unit) (t : State) => va_P (dC, dI) vw_cls [(aA, .inr (2, [.long fd, .int ct, .ref aK, .ref aG, .ref aO])), (aO, .inl (cI, 320, .inl fO))] t.heap ∧ va_D (va_A [(aA, .inr (2, [.long fd, .int ct, .ref aK, .ref aG, .ref aO])), (aO, .inl (cI, 320, .inl fO))] sz) [(aA, .inr (2, [.long fd, .int ct, .ref aK, .ref aG, .ref aO])), (aO, .inl (cI, 320, .inl fO))]) (va_A [(aA, .inr (2, [.long fd, .int ct, .ref aK, .ref aG, .ref aO])), (aO, .inl (cI, 320, .inl fO))] sz)) 0 0 (va_A [(aA, .inr (2, [.long fd, .int ct, .ref aK, .ref aG, .ref aO])), (aO, .inl (cI, 320, .inl fO))] sz) := by
  refine Met.ofW (cc := b_Answers_loadOf) (maxL := 3) (ret := (some .int)) (by decide) rfl ?_
  intro p e s m args below meth c s₁ B hml hv
  obtain ⟨rfl, hsz, hP, hKN, hD0⟩ := hv
  obtain ⟨hK, hN⟩ := id hKN
  have hx := B.exec
  have hb := B.bytes
  have hr := B.returns
  have hts0 := atoms_spec (ws := w_Answers_loadOf) B.pre
  have hts : ∀ w ∈ lw_g, w.before _ s = true := fun w h => hts0 w (List.mem_cons_of_mem _ h)
  have hown : s.vm.findClass R_Answers = some m.cls := findClass_of_methodNamed B.named
  have hlocks := B.notSynchronized
  subst hsz
  have hD := hD0.self (sz := s.heap.size)
  generalize hAe : va_A [(aA, .inr (2, [.long fd, .int ct, .ref aK, .ref aG, .ref aO])), (aO, .inl (cI, 320, .inl fO))] s.heap.size = A at hD ⊢
  have hA : ∀ q : Nat, s.heap.size ≤ q → A q := fun q h => by rw [← hAe]; exact Or.inr h
  have hP : va_P (dC, dI) vw_cls [(aA, .inr (2, [.long fd, .int ct, .ref aK, .ref aG, .ref aO])), (aO, .inl (cI, 320, .inl fO))] s.heap := hP
  have hl := lv_entry ([.ref aA, .int v1, .int k1]) (n := 3) (Nat.le_of_ble_eq_true rfl)
  rw [lg_entry_eq]
  generalize (lg_sl ([.ref aA, .int v1, .int k1]) ++ List.replicate (3 - (lg_sl ([.ref aA, .int v1, .int k1])).length) Slot.unset).toArray = ls at hl ⊢
  have hl : lv_has ls 3 [(0, .ref aA), (1, .int v1), (2, .int k1)] := hl
  refine gw_start (fun H locs hH hlocs => ?_)
  rw [← hH] at hP
  have hS : va_S A s.heap H locs := by rw [hH, hlocs]; exact va_S.rf
  refine lv_iload_n hx hb d_Answers_loadOf_0 rfl (lv_at hl 1 rfl) ?_
  have hPc := hP.sub (ws' := []) [] rfl
  have hDc := hD.sub (ws' := []) [] (by decide) rfl
  have hFc := va_free (wc := []) hD hS hA [] rfl
  refine va_calli (va_runS (As := [.int v1]) (rest := []) ⟨hx, hb, hml, hown, hts⟩ (k_hr l dC dI H.size cI cZ cQ v1 ) ⟨(callB_of 1 hts (ga_all tw_279) rfl rfl rfl (hts _ tw_27) (hts _ tw_277) (by decide +kernel) ⟨Nat.le_of_ble_eq_true rfl, Nat.le_of_ble_eq_true rfl⟩), hts _ tw_278⟩ ⟨fun a U g mk q => by obtain ⟨q0, q1, qP, qK, qD⟩ := q; exact ⟨q0, q1, qP, g_K.same (u := U) (U := U.calling g mk a) rfl qK, qD⟩, fun U hU hW => ⟨rfl, by rw [hU], by rw [hU]; exact hPc, g_K.warm hW hKN, hDc.weaken (fun _ _ _ _ => trivial)⟩⟩ rfl rfl hl.1 rfl (lv_room (Nat.le_of_ble_eq_true rfl)) d_Answers_loadOf_1 ⟨Nat.le_of_ble_eq_true rfl, Nat.le_of_ble_eq_true rfl⟩) hS (fun q _ h => hFc q h) hFc (fun r_1 u t H1 locs htt hvm hw_2 hBB hzz hkk hS => ?_)
  have hw_2 : r_1 = q_hr v1 := hw_2
  obtain ⟨hPP, hDD⟩ := hBB
  rw [htt] at hPP
  have hPP : va_P (dC, dI) vw_cls [] H1 := hPP
  have hDD : va_D (va_A [] H.size) [] := hDD
  obtain ⟨hP, hD⟩ := va_join (wr := [(aA, .inr (2, [.long fd, .int ct, .ref aK, .ref aG, .ref aO])), (aO, .inl (cI, 320, .inl fO))]) (w1 := []) hP hD [] [0, 1] rfl rfl (by decide) (by decide) hkk hFc hPP hDD
  generalize H1 = H at hP hS ⊢
  have hP : va_P (dC, dI) vw_cls [(aA, .inr (2, [.long fd, .int ct, .ref aK, .ref aG, .ref aO])), (aO, .inl (cI, 320, .inl fO))] H := hP
  have hD : va_D A [(aA, .inr (2, [.long fd, .int ct, .ref aK, .ref aG, .ref aO])), (aO, .inl (cI, 320, .inl fO))] := hD
  refine lv_if_eq (tgt := 16) hx hb d_Answers_loadOf_4 (by decide) (fun c_3 => ?_) (fun c_3 => ?_)
  · skip
    exact absurd (c_3 : _ = _) (by rw [hw_2, q_hr_in hv1 hjv]; decide)
  · skip
    refine lv_iload_n hx hb d_Answers_loadOf_7 rfl (lv_at hl 2 rfl) ?_
    refine lv_if_lt (tgt := 16) hx hb d_Answers_loadOf_8 (by decide) (fun c_4 => ?_) (fun c_4 => ?_)
    · skip
      exact absurd c_4 (by rw [hk1]; exact nI_pos (by omega))
    · skip
      refine lv_iload_n hx hb d_Answers_loadOf_11 rfl (lv_at hl 2 rfl) ?_
      refine lv_iconst (v := 5) hx hb d_Answers_loadOf_12 (by decide) ?_
      refine lv_icmp_lt (tgt := 18) hx hb d_Answers_loadOf_13 (by decide) (fun c_5 => ?_) (fun c_5 => ?_)
      · skip
        refine lv_aload_n hx hb d_Answers_loadOf_18 rfl (lv_at hl 0 rfl) ?_
        refine va_get (D := (dC, dI)) (ci := 2) (v := .ref aO) (C := R_Answers) (T := T_Answers) (N := 5) hx hb hts in_Answers hown hK hP 0 rfl rfl 4 (by decide) (hts _ tw_115) (fun _ h9 => h9) rfl d_Answers_loadOf_19 ?_
        refine lv_iload_n hx hb d_Answers_loadOf_22 rfl (lv_at hl 1 rfl) ?_
        refine lv_iconst (v := 5) hx hb d_Answers_loadOf_23 (by decide) ?_
        refine lv_imul hx hb d_Answers_loadOf_24 ?_
        refine lv_topi (fun v_6 ev_6 => ?_)
        refine lv_iload_n hx hb d_Answers_loadOf_25 rfl (lv_at hl 2 rfl) ?_
        refine lv_iadd hx hb d_Answers_loadOf_26 ?_
        refine lv_topi (fun v_7 ev_7 => ?_)
        have eh_8 : v_7 = nI (jv * 5 + jk) := by simp only [ev_6, ev_7]; rw [hv1, hk1, ix_m5]
        have bh_8 : jv * 5 + jk < 320 := by omega
        have h_8 : vp_in v_7 320 := by rw [eh_8]; exact vp_in_nI bh_8 (by decide)
        have kh_8 : v_7.toNatClampNeg = jv * 5 + jk := by rw [eh_8]; exact nI_clamp (by omega)
        refine va_iald hx hb hK hP 1 0 rfl rfl h_8 d_Answers_loadOf_27 ?_
        rw [kh_8]
        refine lv_topi (fun v_9 ev_9 => ?_)
        have hP9 := hP.sub (ws' := [(aA, .inr (2, [.long fd, .int ct, .ref aK, .ref aG, .ref aO])), (aO, .inl (cI, 320, .inl fO))]) [0, 1] rfl
        have hD9 := hD.sub (ws' := [(aA, .inr (2, [.long fd, .int ct, .ref aK, .ref aG, .ref aO])), (aO, .inl (cI, 320, .inl fO))]) [0, 1] (by decide) rfl
        have hpost_10 : (v_9 : Int32) = fO (jv * 5 + jk) := by simp only [ev_6, ev_7, ev_9]
        exact W.iret (v := v_9) hx hb hr (fun t ht hW => ⟨⟨v_9, (), rfl, hpost_10, by rw [ht]; exact hP9, hD9⟩, hS.F ht⟩) hS.2.2 d_Answers_loadOf_28
      · skip
        exact absurd (by rw [hk1]; exact nI_lt hjk (by decide)) c_5
set_option maxHeartbeats 4000000 in
set_option maxRecDepth 100000 in
theorem L_wo {p : Program} {l : Launch} {e : Env} {s : State} {m : MethodId} {args : Array Value} {below : List Frame} {meth : Method} {c : Code} {Q : State → Prop} {A : Nat → Prop} (hx : p.tables.exec = Jvm.exec) (hb : c.code = b_Answers_worthBy) (hml : c.maxLocals = 6) (hown : s.vm.findClass R_Answers = some m.cls) (hts : ∀ w ∈ lw_g, w.before args s = true) (hA : ∀ q, s.heap.size ≤ q → A q) {dC : Nat → ClassId} {dI : Nat → Nat → Nat} (cI : ClassId) (cZ : ClassId) (cQ : ClassId) (aA : Nat) (aK : Nat) (aG : Nat) (aO : Nat) (fd : Int64) (ct : Int32) (aW : Nat) (fG : Nat → Int32) (fW : Nat → Int32) (v1 : Int32) (jv : Nat)  (hv1 : v1 = nI jv) (hjv : jv < 64)  (hKN : g_K dC dI [(cI, .int), (cZ, .boolean), (cQ, (.object "SettingSearch$Answers"))] s)
    (kx_42 : ∀ (i : Nat) (xi : Int32) (acc : Int64) (_ : i ≤ 9) (_ : xi = nI i) (_ : acc = q_wo fG fW jv i) (_ : i = 9) (H : Heap) (locs : List Loc), va_P (dC, dI) vw_cls [(aA, .inr (2, [.long fd, .int ct, .ref aK, .ref aG, .ref aO])), (aG, .inl (cI, 576, .inl fG)), (aW, .inl (cI, 9, .inl fW))] H → va_D A [(aA, .inr (2, [.long fd, .int ct, .ref aK, .ref aG, .ref aO])), (aG, .inl (cI, 576, .inl fG)), (aW, .inl (cI, 9, .inl fW))] → va_S A s.heap H locs → ∀ (ls : Array Slot), lv_has ls 6 [(0, .ref aA), (1, .int v1), (2, .ref aW), (3, .long acc), (5, .int xi)] → W p l e ({ frames := 2, cells := 0, slots := 0, locals := 42 } : Room) s m args below meth c H locs 0 0 Q (F0 m 42 ls [])) :
    ∀ (n : Nat) (i : Nat) (xi : Int32) (acc : Int64) (_ : i ≤ 9) (_ : xi = nI i) (_ : acc = q_wo fG fW jv i) (_ : 9 - i < n) (H : Heap) (locs : List Loc), va_P (dC, dI) vw_cls [(aA, .inr (2, [.long fd, .int ct, .ref aK, .ref aG, .ref aO])), (aG, .inl (cI, 576, .inl fG)), (aW, .inl (cI, 9, .inl fW))] H → va_D A [(aA, .inr (2, [.long fd, .int ct, .ref aK, .ref aG, .ref aO])), (aG, .inl (cI, 576, .inl fG)), (aW, .inl (cI, 9, .inl fW))] → va_S A s.heap H locs → ∀ (ls : Array Slot), lv_has ls 6 [(0, .ref aA), (1, .int v1), (2, .ref aW), (3, .long acc), (5, .int xi)] → W p l e ({ frames := 2, cells := 0, slots := 0, locals := 42 } : Room) s m args below meth c H locs 0 0 Q (F0 m 5 ls []) := by
  obtain ⟨hK, hN⟩ := id hKN
  intro n
  induction n with
  | zero =>
    intro i xi acc hi exi eacc hm
    exact absurd hm (Nat.not_lt_zero _)
  | succ n ih =>
    intro i xi acc hi exi eacc hm H locs hP hD hS ls hl
    refine lv_iload hx hb d_Answers_worthBy_5 (lv_at hl 4 rfl) ?_
    refine lv_bipush (v := 9) hx hb d_Answers_worthBy_7 (by decide) ?_
    refine lv_icmp_ge (tgt := 42) hx hb d_Answers_worthBy_9 (by decide) (fun c_1 => ?_) (fun c_1 => ?_)
    · skip
      have hendi := lp_ge (N := 9) c_1 exi rfl hi (by omega)
      exact kx_42 i xi acc hi exi eacc hendi H locs (hP.sub [0, 1, 2] rfl) (hD.sub [0, 1, 2] (by decide) rfl) hS ls (lv_sub hl [0, 1, 2, 3, 4] rfl)
    · skip
      have hlti := lp_lt (N := 9) c_1 exi rfl (by omega)
      refine lv_iload hx hb d_Answers_worthBy_12 (lv_at hl 4 rfl) ?_
      refine lv_aload_n hx hb d_Answers_worthBy_14 rfl (lv_at hl 2 rfl) ?_
      refine va_alen hx hb hK hP 2 0 rfl rfl (v := 9) rfl d_Answers_worthBy_15 ?_
      refine lv_icmp_ge (tgt := 42) hx hb d_Answers_worthBy_16 (by decide) (fun c_2 => ?_) (fun c_2 => ?_)
      · skip
        exact absurd (lp_ge (N := 9) c_2 exi rfl hi (by decide)) (by omega)
      · skip
        refine lv_lload_n hx hb d_Answers_worthBy_19 rfl (lv_at hl 3 rfl) ?_
        refine lv_aload_n hx hb d_Answers_worthBy_20 rfl (lv_at hl 0 rfl) ?_
        refine lv_iload_n hx hb d_Answers_worthBy_21 rfl (lv_at hl 1 rfl) ?_
        refine lv_iload hx hb d_Answers_worthBy_22 (lv_at hl 4 rfl) ?_
        have hPc := hP.sub (ws' := [(aA, .inr (2, [.long fd, .int ct, .ref aK, .ref aG, .ref aO])), (aG, .inl (cI, 576, .inl fG))]) [0, 1] rfl
        have hDc := hD.sub (ws' := [(aA, .inr (2, [.long fd, .int ct, .ref aK, .ref aG, .ref aO])), (aG, .inl (cI, 576, .inl fG))]) [0, 1] (by decide) rfl
        have hFc := va_free (wc := [(aA, .inr (2, [.long fd, .int ct, .ref aK, .ref aG, .ref aO])), (aG, .inl (cI, 576, .inl fG))]) hD hS hA [0, 1] rfl
        refine va_calli (va_runV (As := [.int v1, .int xi]) (rest := [.long acc]) ⟨hx, hb, hml, hown, hts⟩ (k_ga l dC dI H.size cI cZ cQ aA aK aG aO fd ct fG v1 jv xi i hv1 hjv exi hlti) ⟨(callB_of 2 hts (ga_all tw_315) rfl rfl rfl (hts _ tw_27) (hts _ tw_328) (by decide +kernel) ⟨Nat.le_of_ble_eq_true rfl, Nat.le_of_ble_eq_true rfl⟩), hts _ tw_313, hts _ tw_314⟩ ⟨fun a U g mk q => by obtain ⟨q0, q1, qP, qK, qD⟩ := q; exact ⟨q0, q1, qP, g_K.same (u := U) (U := U.calling g mk a) rfl qK, qD⟩, va_recv hK hPc (ci := 2) (q0 := 0) rfl rfl, fun U hU hW => ⟨rfl, by rw [hU], by rw [hU]; exact hPc, g_K.warm hW hKN, hDc.weaken (fun _ _ _ _ => trivial)⟩⟩ rfl rfl hl.1 rfl (lv_room (Nat.le_of_ble_eq_true rfl)) d_Answers_worthBy_24 ⟨Nat.le_of_ble_eq_true rfl, Nat.le_of_ble_eq_true rfl⟩) hS (fun q _ h => hFc q h) hFc (fun r_3 u t H1 locs htt hvm hw_4 hBB hzz hkk hS => ?_)
        have hw_4 : r_3 = fG (jv * 9 + i) := hw_4
        obtain ⟨hPP, hDD⟩ := hBB
        rw [htt] at hPP
        have hPP : va_P (dC, dI) vw_cls [(aA, .inr (2, [.long fd, .int ct, .ref aK, .ref aG, .ref aO])), (aG, .inl (cI, 576, .inl fG))] H1 := hPP
        have hDD : va_D (va_A [(aA, .inr (2, [.long fd, .int ct, .ref aK, .ref aG, .ref aO])), (aG, .inl (cI, 576, .inl fG))] H.size) [(aA, .inr (2, [.long fd, .int ct, .ref aK, .ref aG, .ref aO])), (aG, .inl (cI, 576, .inl fG))] := hDD
        obtain ⟨hP, hD⟩ := va_join (wr := [(aW, .inl (cI, 9, .inl fW))]) (w1 := [(aA, .inr (2, [.long fd, .int ct, .ref aK, .ref aG, .ref aO])), (aG, .inl (cI, 576, .inl fG))]) hP hD [0, 1] [2] rfl rfl (by decide) (by decide) hkk hFc hPP hDD
        generalize H1 = H at hP hS ⊢
        have hP : va_P (dC, dI) vw_cls [(aW, .inl (cI, 9, .inl fW)), (aA, .inr (2, [.long fd, .int ct, .ref aK, .ref aG, .ref aO])), (aG, .inl (cI, 576, .inl fG))] H := hP
        have hD : va_D A [(aW, .inl (cI, 9, .inl fW)), (aA, .inr (2, [.long fd, .int ct, .ref aK, .ref aG, .ref aO])), (aG, .inl (cI, 576, .inl fG))] := hD
        refine lv_i2l hx hb d_Answers_worthBy_27 rfl ?_
        refine lv_topl (fun v_5 ev_5 => ?_)
        refine lv_aload_n hx hb d_Answers_worthBy_28 rfl (lv_at hl 2 rfl) ?_
        refine lv_iload hx hb d_Answers_worthBy_29 (lv_at hl 4 rfl) ?_
        have eh_6 : xi = nI (i) := exi
        have bh_6 : i < 9 := by omega
        have h_6 : vp_in xi 9 := by rw [eh_6]; exact vp_in_nI bh_6 (by decide)
        have kh_6 : xi.toNatClampNeg = i := by rw [eh_6]; exact nI_clamp (by omega)
        refine va_iald hx hb hK hP 0 0 rfl rfl h_6 d_Answers_worthBy_31 ?_
        rw [kh_6]
        refine lv_topi (fun v_7 ev_7 => ?_)
        refine lv_i2l hx hb d_Answers_worthBy_32 rfl ?_
        refine lv_topl (fun v_8 ev_8 => ?_)
        refine lv_lmul hx hb d_Answers_worthBy_33 ?_
        refine lv_topl (fun v_9 ev_9 => ?_)
        refine lv_ladd hx hb d_Answers_worthBy_34 ?_
        refine lv_topl (fun v_10 ev_10 => ?_)
        refine lv_lstore_n (lv' := [(3, .long v_10), (0, .ref aA), (1, .int v1), (2, .ref aW), (5, .int xi)]) hx hb d_Answers_worthBy_35 rfl hl (by decide) rfl (fun ls hl => ?_)
        obtain ⟨v_11, ev_11⟩ : ∃ y : Int32, y = xi + 1 := ⟨_, rfl⟩
        refine lv_iinc (v := v_11) (lv' := [(5, .int v_11), (3, .long v_10), (0, .ref aA), (1, .int v1), (2, .ref aW)]) hx hb d_Answers_worthBy_36 hl (k := 4) rfl (by rw [ev_11]; rfl) (by decide) rfl (fun ls hl => ?_)
        refine lv_goto (tgt := 5) hx hb d_Answers_worthBy_39 (by decide) ?_
        exact ih (i + 1) v_11 v_10 hlti (by rw [ev_11, exi]; exact nI_1 i) (by simp only [ev_5, ev_7, ev_8, ev_9, ev_10, ev_11, hw_4, eacc]; rfl) (by omega) H locs (hP.sub [1, 2, 0] rfl) (hD.sub [1, 2, 0] (by decide) rfl) hS ls (lv_sub hl [2, 3, 4, 1, 0] rfl)
set_option maxHeartbeats 4000000 in
set_option maxRecDepth 100000 in
/-- worthBy -/
theorem k_wo (l : Launch) (dC : Nat → ClassId) (dI : Nat → Nat → Nat) (sz : Nat) (cI : ClassId) (cZ : ClassId) (cQ : ClassId) (aA : Nat) (aK : Nat) (aG : Nat) (aO : Nat) (fd : Int64) (ct : Int32) (aW : Nat) (fG : Nat → Int32) (fW : Nat → Int32) (v1 : Int32) (jv : Nat) (hv1 : v1 = nI jv) (hjv : jv < 64) : Met l y_Answers_worthBy w_Answers_worthBy ({ frames := 2, cells := 0, slots := 0, locals := 42 } : Room) (va_Pc [.ref aA, .int v1, .ref aW] (fun U => U.heap.size = sz ∧ va_P (dC, dI) vw_cls [(aA, .inr (2, [.long fd, .int ct, .ref aK, .ref aG, .ref aO])), (aG, .inl (cI, 576, .inl fG)), (aW, .inl (cI, 9, .inl fW))] U.heap ∧ g_K dC dI [(cI, .int), (cZ, .boolean), (cQ, (.object "SettingSearch$Answers"))] U ∧ va_D (fun _ => True) [(aA, .inr (2, [.long fd, .int ct, .ref aK, .ref aG, .ref aO])), (aG, .inl (cI, 576, .inl fG)), (aW, .inl (cI, 9, .inl fW))])) (va_Ql (fun (r : Int64) (u : Unit) => r = q_wo fG fW jv 9) (fun (u : Unit) (t : State) => va_P (dC, dI) vw_cls [(aA, .inr (2, [.long fd, .int ct, .ref aK, .ref aG, .ref aO])), (aG, .inl (cI, 576, .inl fG)), (aW, .inl (cI, 9, .inl fW))] t.heap ∧ va_D (va_A [(aA, .inr (2, [.long fd, .int ct, .ref aK, .ref aG, .ref aO])), (aG, .inl (cI, 576, .inl fG)), (aW, .inl (cI, 9, .inl fW))] sz) [(aA, .inr (2, [.long fd, .int ct, .ref aK, .ref aG, .ref aO])), (aG, .inl (cI, 576, .inl fG)), (aW, .inl (cI, 9, .inl fW))]) (va_A [(aA, .inr (2, [.long fd, .int ct, .ref aK, .ref aG, .ref aO])), (aG, .inl (cI, 576, .inl fG)), (aW, .inl (cI, 9, .inl fW))] sz)) 0 0 (va_A [(aA, .inr (2, [.long fd, .int ct, .ref aK, .ref aG, .ref aO])), (aG, .inl (cI, 576, .inl fG)), (aW, .inl (cI, 9, .inl fW))] sz) := by
  refine Met.ofW (cc := b_Answers_worthBy) (maxL := 6) (ret := (some .long)) (by decide) rfl ?_
  intro p e s m args below meth c s₁ B hml hv
  obtain ⟨rfl, hsz, hP, hKN, hD0⟩ := hv
  obtain ⟨hK, hN⟩ := id hKN
  have hx := B.exec
  have hb := B.bytes
  have hr := B.returns
  have hts0 := atoms_spec (ws := w_Answers_worthBy) B.pre
  have hts : ∀ w ∈ lw_g, w.before _ s = true := fun w h => hts0 w (List.mem_cons_of_mem _ h)
  have hown : s.vm.findClass R_Answers = some m.cls := findClass_of_methodNamed B.named
  have hlocks := B.notSynchronized
  subst hsz
  have hD := hD0.self (sz := s.heap.size)
  generalize hAe : va_A [(aA, .inr (2, [.long fd, .int ct, .ref aK, .ref aG, .ref aO])), (aG, .inl (cI, 576, .inl fG)), (aW, .inl (cI, 9, .inl fW))] s.heap.size = A at hD ⊢
  have hA : ∀ q : Nat, s.heap.size ≤ q → A q := fun q h => by rw [← hAe]; exact Or.inr h
  have hP : va_P (dC, dI) vw_cls [(aA, .inr (2, [.long fd, .int ct, .ref aK, .ref aG, .ref aO])), (aG, .inl (cI, 576, .inl fG)), (aW, .inl (cI, 9, .inl fW))] s.heap := hP
  have hl := lv_entry ([.ref aA, .int v1, .ref aW]) (n := 6) (Nat.le_of_ble_eq_true rfl)
  rw [lg_entry_eq]
  generalize (lg_sl ([.ref aA, .int v1, .ref aW]) ++ List.replicate (6 - (lg_sl ([.ref aA, .int v1, .ref aW])).length) Slot.unset).toArray = ls at hl ⊢
  have hl : lv_has ls 6 [(0, .ref aA), (1, .int v1), (2, .ref aW)] := hl
  refine gw_start (fun H locs hH hlocs => ?_)
  rw [← hH] at hP
  have hS : va_S A s.heap H locs := by rw [hH, hlocs]; exact va_S.rf
  refine lv_lconst (v := 0) hx hb d_Answers_worthBy_0 (by decide) ?_
  refine lv_lstore_n (lv' := [(3, .long 0), (0, .ref aA), (1, .int v1), (2, .ref aW)]) hx hb d_Answers_worthBy_1 rfl hl (by decide) rfl (fun ls hl => ?_)
  refine lv_iconst (v := 0) hx hb d_Answers_worthBy_2 (by decide) ?_
  refine lv_istore (lv' := [(5, .int 0), (3, .long 0), (0, .ref aA), (1, .int v1), (2, .ref aW)]) hx hb d_Answers_worthBy_3 hl (by decide) rfl (fun ls hl => ?_)
  refine L_wo hx hb hml hown hts hA cI cZ cQ aA aK aG aO fd ct aW fG fW v1 jv hv1 hjv hKN ?_ (9 - 0 + 1) 0 0 0 (Nat.zero_le _) rfl rfl (Nat.lt_succ_self _) H locs (hP.sub [0, 1, 2] rfl) (hD.sub [0, 1, 2] (by decide) rfl) hS ls (lv_sub hl [2, 3, 4, 1, 0] rfl)
  intro i xi acc hi exi eacc hendi H locs hP hD hS ls hl
  have hl : lv_has ls 6 [(0, .ref aA), (1, .int v1), (2, .ref aW), (3, .long acc), (5, .int xi)] := hl
  have hP : va_P (dC, dI) vw_cls [(aA, .inr (2, [.long fd, .int ct, .ref aK, .ref aG, .ref aO])), (aG, .inl (cI, 576, .inl fG)), (aW, .inl (cI, 9, .inl fW))] H := hP
  have hD : va_D A [(aA, .inr (2, [.long fd, .int ct, .ref aK, .ref aG, .ref aO])), (aG, .inl (cI, 576, .inl fG)), (aW, .inl (cI, 9, .inl fW))] := hD
  refine lv_lload_n hx hb d_Answers_worthBy_42 rfl (lv_at hl 3 rfl) ?_
  have hP9 := hP.sub (ws' := [(aA, .inr (2, [.long fd, .int ct, .ref aK, .ref aG, .ref aO])), (aG, .inl (cI, 576, .inl fG)), (aW, .inl (cI, 9, .inl fW))]) [0, 1, 2] rfl
  have hD9 := hD.sub (ws' := [(aA, .inr (2, [.long fd, .int ct, .ref aK, .ref aG, .ref aO])), (aG, .inl (cI, 576, .inl fG)), (aW, .inl (cI, 9, .inl fW))]) [0, 1, 2] (by decide) rfl
  have hpost_1 : (acc : Int64) = q_wo fG fW jv 9 := by rw [eacc, hendi]
  exact W.lret (v := acc) hx hb hr (fun t ht hW => ⟨⟨acc, (), rfl, hpost_1, by rw [ht]; exact hP9, hD9⟩, hS.F ht⟩) hS.2.2 d_Answers_worthBy_43
set_option maxHeartbeats 4000000 in
set_option maxRecDepth 100000 in
/-- tellLoad -/
theorem k_tl (l : Launch) (dC : Nat → ClassId) (dI : Nat → Nat → Nat) (sz : Nat) (cI : ClassId) (cZ : ClassId) (cQ : ClassId) (aA : Nat) (aK : Nat) (aG : Nat) (aO : Nat) (fd : Int64) (ct : Int32) (fO : Nat → Int32) (v1 : Int32) (jv : Nat) (k1 : Int32) (jk : Nat) (x1 : Int32) (hv1 : v1 = nI jv) (hjv : jv < 64) (hk1 : k1 = nI jk) (hjk : jk < 5) : Met l y_Answers_tellLoad w_Answers_tellLoad ({ frames := 1, cells := 0, slots := 0, locals := 20 } : Room) (va_Pc [.ref aA, .int v1, .int k1, .int x1] (fun U => U.heap.size = sz ∧ va_P (dC, dI) vw_cls [(aA, .inr (2, [.long fd, .int ct, .ref aK, .ref aG, .ref aO])), (aO, .inl (cI, 320, .inl fO))] U.heap ∧ g_K dC dI [(cI, .int), (cZ, .boolean), (cQ, (.object "SettingSearch$Answers"))] U ∧ va_D (fun _ => True) [(aA, .inr (2, [.long fd, .int ct, .ref aK, .ref aG, .ref aO])), (aO, .inl (cI, 320, .inl fO))])) (va_Qi (fun (r : Int32) (u : (Nat → Int32)) => ((¬ x1 < 0 ∧ x1 ≤ 1000000) ∧ r = 1 ∧ u = upd fO (jv * 5 + jk) x1) ∨ (¬ (¬ x1 < 0 ∧ x1 ≤ 1000000) ∧ r = 0 ∧ u = fO)) (fun (u : (Nat → Int32)) (t : State) => va_P (dC, dI) vw_cls [(aA, .inr (2, [.long fd, .int ct, .ref aK, .ref aG, .ref aO])), (aO, .inl (cI, 320, .inl u))] t.heap ∧ va_D (va_A [(aA, .inr (2, [.long fd, .int ct, .ref aK, .ref aG, .ref aO])), (aO, .inl (cI, 320, .inl fO))] sz) [(aA, .inr (2, [.long fd, .int ct, .ref aK, .ref aG, .ref aO])), (aO, .inl (cI, 320, .inl u))]) (va_A [(aA, .inr (2, [.long fd, .int ct, .ref aK, .ref aG, .ref aO])), (aO, .inl (cI, 320, .inl fO))] sz)) 0 0 (va_A [(aA, .inr (2, [.long fd, .int ct, .ref aK, .ref aG, .ref aO])), (aO, .inl (cI, 320, .inl fO))] sz) := by
  refine Met.ofW (cc := b_Answers_tellLoad) (maxL := 4) (ret := (some .boolean)) (by decide) rfl ?_
  intro p e s m args below meth c s₁ B hml hv
  obtain ⟨rfl, hsz, hP, hKN, hD0⟩ := hv
  obtain ⟨hK, hN⟩ := id hKN
  have hx := B.exec
  have hb := B.bytes
  have hr := B.returns
  have hts0 := atoms_spec (ws := w_Answers_tellLoad) B.pre
  have hts : ∀ w ∈ lw_g, w.before _ s = true := fun w h => hts0 w (List.mem_cons_of_mem _ h)
  have hown : s.vm.findClass R_Answers = some m.cls := findClass_of_methodNamed B.named
  have hlocks := B.notSynchronized
  subst hsz
  have hD := hD0.self (sz := s.heap.size)
  generalize hAe : va_A [(aA, .inr (2, [.long fd, .int ct, .ref aK, .ref aG, .ref aO])), (aO, .inl (cI, 320, .inl fO))] s.heap.size = A at hD ⊢
  have hA : ∀ q : Nat, s.heap.size ≤ q → A q := fun q h => by rw [← hAe]; exact Or.inr h
  have hP : va_P (dC, dI) vw_cls [(aA, .inr (2, [.long fd, .int ct, .ref aK, .ref aG, .ref aO])), (aO, .inl (cI, 320, .inl fO))] s.heap := hP
  have hl := lv_entry ([.ref aA, .int v1, .int k1, .int x1]) (n := 4) (Nat.le_of_ble_eq_true rfl)
  rw [lg_entry_eq]
  generalize (lg_sl ([.ref aA, .int v1, .int k1, .int x1]) ++ List.replicate (4 - (lg_sl ([.ref aA, .int v1, .int k1, .int x1])).length) Slot.unset).toArray = ls at hl ⊢
  have hl : lv_has ls 4 [(0, .ref aA), (1, .int v1), (2, .int k1), (3, .int x1)] := hl
  refine gw_start (fun H locs hH hlocs => ?_)
  rw [← hH] at hP
  have hS : va_S A s.heap H locs := by rw [hH, hlocs]; exact va_S.rf
  refine lv_iload_n hx hb d_Answers_tellLoad_0 rfl (lv_at hl 1 rfl) ?_
  have hPc := hP.sub (ws' := []) [] rfl
  have hDc := hD.sub (ws' := []) [] (by decide) rfl
  have hFc := va_free (wc := []) hD hS hA [] rfl
  refine va_calli (va_runS (As := [.int v1]) (rest := []) ⟨hx, hb, hml, hown, hts⟩ (k_hr l dC dI H.size cI cZ cQ v1 ) ⟨(callB_of 1 hts (ga_all tw_279) rfl rfl rfl (hts _ tw_27) (hts _ tw_277) (by decide +kernel) ⟨Nat.le_of_ble_eq_true rfl, Nat.le_of_ble_eq_true rfl⟩), hts _ tw_278⟩ ⟨fun a U g mk q => by obtain ⟨q0, q1, qP, qK, qD⟩ := q; exact ⟨q0, q1, qP, g_K.same (u := U) (U := U.calling g mk a) rfl qK, qD⟩, fun U hU hW => ⟨rfl, by rw [hU], by rw [hU]; exact hPc, g_K.warm hW hKN, hDc.weaken (fun _ _ _ _ => trivial)⟩⟩ rfl rfl hl.1 rfl (lv_room (Nat.le_of_ble_eq_true rfl)) d_Answers_tellLoad_1 ⟨Nat.le_of_ble_eq_true rfl, Nat.le_of_ble_eq_true rfl⟩) hS (fun q _ h => hFc q h) hFc (fun r_1 u t H1 locs htt hvm hw_2 hBB hzz hkk hS => ?_)
  have hw_2 : r_1 = q_hr v1 := hw_2
  obtain ⟨hPP, hDD⟩ := hBB
  rw [htt] at hPP
  have hPP : va_P (dC, dI) vw_cls [] H1 := hPP
  have hDD : va_D (va_A [] H.size) [] := hDD
  obtain ⟨hP, hD⟩ := va_join (wr := [(aA, .inr (2, [.long fd, .int ct, .ref aK, .ref aG, .ref aO])), (aO, .inl (cI, 320, .inl fO))]) (w1 := []) hP hD [] [0, 1] rfl rfl (by decide) (by decide) hkk hFc hPP hDD
  generalize H1 = H at hP hS ⊢
  have hP : va_P (dC, dI) vw_cls [(aA, .inr (2, [.long fd, .int ct, .ref aK, .ref aG, .ref aO])), (aO, .inl (cI, 320, .inl fO))] H := hP
  have hD : va_D A [(aA, .inr (2, [.long fd, .int ct, .ref aK, .ref aG, .ref aO])), (aO, .inl (cI, 320, .inl fO))] := hD
  refine lv_if_eq (tgt := 26) hx hb d_Answers_tellLoad_4 (by decide) (fun c_3 => ?_) (fun c_3 => ?_)
  · skip
    exact absurd (c_3 : _ = _) (by rw [hw_2, q_hr_in hv1 hjv]; decide)
  · skip
    refine lv_iload_n hx hb d_Answers_tellLoad_7 rfl (lv_at hl 2 rfl) ?_
    refine lv_if_lt (tgt := 26) hx hb d_Answers_tellLoad_8 (by decide) (fun c_4 => ?_) (fun c_4 => ?_)
    · skip
      exact absurd c_4 (by rw [hk1]; exact nI_pos (by omega))
    · skip
      refine lv_iload_n hx hb d_Answers_tellLoad_11 rfl (lv_at hl 2 rfl) ?_
      refine lv_iconst (v := 5) hx hb d_Answers_tellLoad_12 (by decide) ?_
      refine lv_icmp_ge (tgt := 26) hx hb d_Answers_tellLoad_13 (by decide) (fun c_5 => ?_) (fun c_5 => ?_)
      · skip
        exact absurd (lp_ge (N := 5) c_5 hk1 rfl (by omega) (by decide)) (by omega)
      · skip
        refine lv_iload_n hx hb d_Answers_tellLoad_16 rfl (lv_at hl 3 rfl) ?_
        refine lv_if_lt (tgt := 26) hx hb d_Answers_tellLoad_17 (by decide) (fun c_6 => ?_) (fun c_6 => ?_)
        · skip
          have hbad : ¬ (¬ x1 < 0 ∧ x1 ≤ 1000000) := fun q => q.1 c_6
          refine lv_iconst (v := 0) hx hb d_Answers_tellLoad_26 (by decide) ?_
          have hP9 := hP.sub (ws' := [(aA, .inr (2, [.long fd, .int ct, .ref aK, .ref aG, .ref aO])), (aO, .inl (cI, 320, .inl fO))]) [0, 1] rfl
          have hD9 := hD.sub (ws' := [(aA, .inr (2, [.long fd, .int ct, .ref aK, .ref aG, .ref aO])), (aO, .inl (cI, 320, .inl fO))]) [0, 1] (by decide) rfl
          have hpost_7 : ((¬ x1 < 0 ∧ x1 ≤ 1000000) ∧ (0 : Int32) = 1 ∧ fO = upd fO (jv * 5 + jk) x1) ∨ (¬ (¬ x1 < 0 ∧ x1 ≤ 1000000) ∧ (0 : Int32) = 0 ∧ fO = fO) := Or.inr ⟨hbad, rfl, rfl⟩
          exact W.zret (v := 0) hx hb hr (rfl) (fun t ht hW => ⟨⟨0, fO, rfl, hpost_7, by rw [ht]; exact hP9, hD9⟩, hS.F ht⟩) hS.2.2 d_Answers_tellLoad_27
        · skip
          have cx := c_6
          refine lv_iload_n hx hb d_Answers_tellLoad_20 rfl (lv_at hl 3 rfl) ?_
          refine lv_ldc (v := 1000000) hx hb hown (hts _ tw_350) d_Answers_tellLoad_21 ?_
          refine lv_icmp_le (tgt := 28) hx hb d_Answers_tellLoad_23 (by decide) (fun c_8 => ?_) (fun c_8 => ?_)
          · skip
            have hok : ¬ x1 < 0 ∧ x1 ≤ 1000000 := ⟨cx, c_8⟩
            refine lv_aload_n hx hb d_Answers_tellLoad_28 rfl (lv_at hl 0 rfl) ?_
            refine va_get (D := (dC, dI)) (ci := 2) (v := .ref aO) (C := R_Answers) (T := T_Answers) (N := 5) hx hb hts in_Answers hown hK hP 0 rfl rfl 4 (by decide) (hts _ tw_115) (fun _ h9 => h9) rfl d_Answers_tellLoad_29 ?_
            refine lv_iload_n hx hb d_Answers_tellLoad_32 rfl (lv_at hl 1 rfl) ?_
            refine lv_iconst (v := 5) hx hb d_Answers_tellLoad_33 (by decide) ?_
            refine lv_imul hx hb d_Answers_tellLoad_34 ?_
            refine lv_topi (fun v_9 ev_9 => ?_)
            refine lv_iload_n hx hb d_Answers_tellLoad_35 rfl (lv_at hl 2 rfl) ?_
            refine lv_iadd hx hb d_Answers_tellLoad_36 ?_
            refine lv_topi (fun v_10 ev_10 => ?_)
            refine lv_iload_n hx hb d_Answers_tellLoad_37 rfl (lv_at hl 3 rfl) ?_
            have eh_11 : v_10 = nI (jv * 5 + jk) := by simp only [ev_9, ev_10]; rw [hv1, hk1, ix_m5]
            have bh_11 : jv * 5 + jk < 320 := by omega
            have h_11 : vp_in v_10 320 := by rw [eh_11]; exact vp_in_nI bh_11 (by decide)
            have kh_11 : v_10.toNatClampNeg = jv * 5 + jk := by rw [eh_11]; exact nI_clamp (by omega)
            refine va_iast hx hb hK hP hD hS 1 0 rfl rfl h_11 d_Answers_tellLoad_38 (fun H locs hP hD hS => ?_)
            rw [kh_11] at hP hD
            obtain ⟨fO2, efO2⟩ : ∃ y : Nat → Int32, y = upd fO (jv * 5 + jk) x1 := ⟨_, rfl⟩
            rw [← efO2] at hP hD
            have hP : va_P (dC, dI) vw_cls [(aA, .inr (2, [.long fd, .int ct, .ref aK, .ref aG, .ref aO])), (aO, .inl (cI, 320, .inl fO2))] H := hP
            have hD : va_D A [(aA, .inr (2, [.long fd, .int ct, .ref aK, .ref aG, .ref aO])), (aO, .inl (cI, 320, .inl fO2))] := hD
            refine lv_iconst (v := 1) hx hb d_Answers_tellLoad_39 (by decide) ?_
            have hP9 := hP.sub (ws' := [(aA, .inr (2, [.long fd, .int ct, .ref aK, .ref aG, .ref aO])), (aO, .inl (cI, 320, .inl fO2))]) [0, 1] rfl
            have hD9 := hD.sub (ws' := [(aA, .inr (2, [.long fd, .int ct, .ref aK, .ref aG, .ref aO])), (aO, .inl (cI, 320, .inl fO2))]) [0, 1] (by decide) rfl
            have hpost_12 : ((¬ x1 < 0 ∧ x1 ≤ 1000000) ∧ (1 : Int32) = 1 ∧ fO2 = upd fO (jv * 5 + jk) x1) ∨ (¬ (¬ x1 < 0 ∧ x1 ≤ 1000000) ∧ (1 : Int32) = 0 ∧ fO2 = fO) := Or.inl ⟨hok, rfl, efO2⟩
            exact W.zret (v := 1) hx hb hr (rfl) (fun t ht hW => ⟨⟨1, fO2, rfl, hpost_12, by rw [ht]; exact hP9, hD9⟩, hS.F ht⟩) hS.2.2 d_Answers_tellLoad_40
          · skip
            have hbad : ¬ (¬ x1 < 0 ∧ x1 ≤ 1000000) := fun q => c_8 q.2
            refine lv_iconst (v := 0) hx hb d_Answers_tellLoad_26 (by decide) ?_
            have hP9 := hP.sub (ws' := [(aA, .inr (2, [.long fd, .int ct, .ref aK, .ref aG, .ref aO])), (aO, .inl (cI, 320, .inl fO))]) [0, 1] rfl
            have hD9 := hD.sub (ws' := [(aA, .inr (2, [.long fd, .int ct, .ref aK, .ref aG, .ref aO])), (aO, .inl (cI, 320, .inl fO))]) [0, 1] (by decide) rfl
            have hpost_13 : ((¬ x1 < 0 ∧ x1 ≤ 1000000) ∧ (0 : Int32) = 1 ∧ fO = upd fO (jv * 5 + jk) x1) ∨ (¬ (¬ x1 < 0 ∧ x1 ≤ 1000000) ∧ (0 : Int32) = 0 ∧ fO = fO) := Or.inr ⟨hbad, rfl, rfl⟩
            exact W.zret (v := 0) hx hb hr (rfl) (fun t ht hW => ⟨⟨0, fO, rfl, hpost_13, by rw [ht]; exact hP9, hD9⟩, hS.F ht⟩) hS.2.2 d_Answers_tellLoad_27
set_option maxHeartbeats 4000000 in
set_option maxRecDepth 100000 in
theorem L_tg {p : Program} {l : Launch} {e : Env} {s : State} {m : MethodId} {args : Array Value} {below : List Frame} {meth : Method} {c : Code} {Q : State → Prop} {A : Nat → Prop} (hx : p.tables.exec = Jvm.exec) (hb : c.code = b_Answers_tellGrams) (hml : c.maxLocals = 8) (hown : s.vm.findClass R_Answers = some m.cls) (hts : ∀ w ∈ lw_g, w.before args s = true) (hA : ∀ q, s.heap.size ≤ q → A q) {dC : Nat → ClassId} {dI : Nat → Nat → Nat} (cI : ClassId) (cZ : ClassId) (cQ : ClassId) (aA : Nat) (aK : Nat) (aG : Nat) (aO : Nat) (fd : Int64) (ct : Int32) (fG : Nat → Int32) (v1 : Int32) (jv : Nat) (k1 : Int32) (jk : Nat) (a1 : Int64)  (hv1 : v1 = nI jv) (hjv : jv < 64) (hk1 : k1 = nI jk) (hjk : jk < 9)  (hKN : g_K dC dI [(cI, .int), (cZ, .boolean), (cQ, (.object "SettingSearch$Answers"))] s)
    (kx_77 : ∀ (i : Nat) (xi : Int32) (acc : Int64) (_ : i ≤ 9) (_ : xi = nI i) (_ : acc = q_oth fG jv jk i) (_ : i = 9) (H : Heap) (locs : List Loc), va_P (dC, dI) vw_cls [(aA, .inr (2, [.long fd, .int ct, .ref aK, .ref aG, .ref aO])), (aG, .inl (cI, 576, .inl fG))] H → va_D A [(aA, .inr (2, [.long fd, .int ct, .ref aK, .ref aG, .ref aO])), (aG, .inl (cI, 576, .inl fG))] → va_S A s.heap H locs → ∀ (ls : Array Slot), lv_has ls 8 [(0, .ref aA), (1, .int v1), (2, .int k1), (3, .long a1), (5, .long acc), (7, .int xi)] → W p l e ({ frames := 1, cells := 0, slots := 0, locals := 20 } : Room) s m args below meth c H locs 0 0 Q (F0 m 77 ls [])) :
    ∀ (n : Nat) (i : Nat) (xi : Int32) (acc : Int64) (_ : i ≤ 9) (_ : xi = nI i) (_ : acc = q_oth fG jv jk i) (_ : 9 - i < n) (H : Heap) (locs : List Loc), va_P (dC, dI) vw_cls [(aA, .inr (2, [.long fd, .int ct, .ref aK, .ref aG, .ref aO])), (aG, .inl (cI, 576, .inl fG))] H → va_D A [(aA, .inr (2, [.long fd, .int ct, .ref aK, .ref aG, .ref aO])), (aG, .inl (cI, 576, .inl fG))] → va_S A s.heap H locs → ∀ (ls : Array Slot), lv_has ls 8 [(0, .ref aA), (1, .int v1), (2, .int k1), (3, .long a1), (5, .long acc), (7, .int xi)] → W p l e ({ frames := 1, cells := 0, slots := 0, locals := 20 } : Room) s m args below meth c H locs 0 0 Q (F0 m 40 ls []) := by
  obtain ⟨hK, hN⟩ := id hKN
  intro n
  induction n with
  | zero =>
    intro i xi acc hi exi eacc hm
    exact absurd hm (Nat.not_lt_zero _)
  | succ n ih =>
    intro i xi acc hi exi eacc hm H locs hP hD hS ls hl
    refine lv_iload hx hb d_Answers_tellGrams_40 (lv_at hl 5 rfl) ?_
    refine lv_bipush (v := 9) hx hb d_Answers_tellGrams_42 (by decide) ?_
    refine lv_icmp_ge (tgt := 77) hx hb d_Answers_tellGrams_44 (by decide) (fun c_1 => ?_) (fun c_1 => ?_)
    · skip
      have hendi := lp_ge (N := 9) c_1 exi rfl hi (by omega)
      exact kx_77 i xi acc hi exi eacc hendi H locs (hP.sub [0, 1] rfl) (hD.sub [0, 1] (by decide) rfl) hS ls (lv_sub hl [0, 1, 2, 3, 4, 5] rfl)
    · skip
      have hlti := lp_lt (N := 9) c_1 exi rfl (by omega)
      refine lv_iload hx hb d_Answers_tellGrams_47 (lv_at hl 5 rfl) ?_
      refine lv_iload_n hx hb d_Answers_tellGrams_49 rfl (lv_at hl 2 rfl) ?_
      refine lv_icmp_eq (tgt := 71) hx hb d_Answers_tellGrams_50 (by decide) (fun c_2 => ?_) (fun c_2 => ?_)
      · skip
        have cq : i = jk := by rw [exi, hk1] at c_2; exact (nI_eq (by omega) (by omega)).mp c_2
        obtain ⟨v_3, ev_3⟩ : ∃ y : Int32, y = xi + 1 := ⟨_, rfl⟩
        refine lv_iinc (v := v_3) (lv' := [(7, .int v_3), (0, .ref aA), (1, .int v1), (2, .int k1), (3, .long a1), (5, .long acc)]) hx hb d_Answers_tellGrams_71 hl (k := 5) rfl (by rw [ev_3]; rfl) (by decide) rfl (fun ls hl => ?_)
        refine lv_goto (tgt := 40) hx hb d_Answers_tellGrams_74 (by decide) ?_
        exact ih (i + 1) v_3 acc hlti (by rw [ev_3, exi]; exact nI_1 i) (by simp [q_oth, cq, ev_3, eacc]) (by omega) H locs (hP.sub [0, 1] rfl) (hD.sub [0, 1] (by decide) rfl) hS ls (lv_sub hl [1, 2, 3, 4, 5, 0] rfl)
      · skip
        have cq : ¬ i = jk := fun q => c_2 (by rw [exi, hk1, q])
        refine lv_lload hx hb d_Answers_tellGrams_53 (lv_at hl 4 rfl) ?_
        refine lv_aload_n hx hb d_Answers_tellGrams_55 rfl (lv_at hl 0 rfl) ?_
        refine va_get (D := (dC, dI)) (ci := 2) (v := .ref aG) (C := R_Answers) (T := T_Answers) (N := 5) hx hb hts in_Answers hown hK hP 0 rfl rfl 3 (by decide) (hts _ tw_114) (fun _ h9 => h9) rfl d_Answers_tellGrams_56 ?_
        refine lv_iload_n hx hb d_Answers_tellGrams_59 rfl (lv_at hl 1 rfl) ?_
        refine lv_bipush (v := 9) hx hb d_Answers_tellGrams_60 (by decide) ?_
        refine lv_imul hx hb d_Answers_tellGrams_62 ?_
        refine lv_topi (fun v_4 ev_4 => ?_)
        refine lv_iload hx hb d_Answers_tellGrams_63 (lv_at hl 5 rfl) ?_
        refine lv_iadd hx hb d_Answers_tellGrams_65 ?_
        refine lv_topi (fun v_5 ev_5 => ?_)
        have eh_6 : v_5 = nI (jv * 9 + i) := by simp only [ev_4, ev_5]; rw [hv1, exi, ix_m9]
        have bh_6 : jv * 9 + i < 576 := by omega
        have h_6 : vp_in v_5 576 := by rw [eh_6]; exact vp_in_nI bh_6 (by decide)
        have kh_6 : v_5.toNatClampNeg = jv * 9 + i := by rw [eh_6]; exact nI_clamp (by omega)
        refine va_iald hx hb hK hP 1 0 rfl rfl h_6 d_Answers_tellGrams_66 ?_
        rw [kh_6]
        refine lv_topi (fun v_7 ev_7 => ?_)
        refine lv_i2l hx hb d_Answers_tellGrams_67 rfl ?_
        refine lv_topl (fun v_8 ev_8 => ?_)
        refine lv_ladd hx hb d_Answers_tellGrams_68 ?_
        refine lv_topl (fun v_9 ev_9 => ?_)
        refine lv_lstore (lv' := [(5, .long v_9), (0, .ref aA), (1, .int v1), (2, .int k1), (3, .long a1), (7, .int xi)]) hx hb d_Answers_tellGrams_69 hl (by decide) rfl (fun ls hl => ?_)
        obtain ⟨v_10, ev_10⟩ : ∃ y : Int32, y = xi + 1 := ⟨_, rfl⟩
        refine lv_iinc (v := v_10) (lv' := [(7, .int v_10), (5, .long v_9), (0, .ref aA), (1, .int v1), (2, .int k1), (3, .long a1)]) hx hb d_Answers_tellGrams_71 hl (k := 5) rfl (by rw [ev_10]; rfl) (by decide) rfl (fun ls hl => ?_)
        refine lv_goto (tgt := 40) hx hb d_Answers_tellGrams_74 (by decide) ?_
        exact ih (i + 1) v_10 v_9 hlti (by rw [ev_10, exi]; exact nI_1 i) (by simp [q_oth, cq, ev_4, ev_5, ev_7, ev_8, ev_9, ev_10, eacc]) (by omega) H locs (hP.sub [0, 1] rfl) (hD.sub [0, 1] (by decide) rfl) hS ls (lv_sub hl [2, 3, 4, 5, 1, 0] rfl)
set_option maxHeartbeats 4000000 in
set_option maxRecDepth 100000 in
/-- tellGrams -/
theorem k_tg (l : Launch) (dC : Nat → ClassId) (dI : Nat → Nat → Nat) (sz : Nat) (cI : ClassId) (cZ : ClassId) (cQ : ClassId) (aA : Nat) (aK : Nat) (aG : Nat) (aO : Nat) (fd : Int64) (ct : Int32) (fG : Nat → Int32) (v1 : Int32) (jv : Nat) (k1 : Int32) (jk : Nat) (a1 : Int64) (hv1 : v1 = nI jv) (hjv : jv < 64) (hk1 : k1 = nI jk) (hjk : jk < 9) : Met l y_Answers_tellGrams w_Answers_tellGrams ({ frames := 1, cells := 0, slots := 0, locals := 20 } : Room) (va_Pc [.ref aA, .int v1, .int k1, .long a1] (fun U => U.heap.size = sz ∧ va_P (dC, dI) vw_cls [(aA, .inr (2, [.long fd, .int ct, .ref aK, .ref aG, .ref aO])), (aG, .inl (cI, 576, .inl fG))] U.heap ∧ g_K dC dI [(cI, .int), (cZ, .boolean), (cQ, (.object "SettingSearch$Answers"))] U ∧ va_D (fun _ => True) [(aA, .inr (2, [.long fd, .int ct, .ref aK, .ref aG, .ref aO])), (aG, .inl (cI, 576, .inl fG))])) (va_Qi (fun (r : Int32) (u : (Nat → Int32)) => (q_tgOk fd fG jv jk a1 ∧ r = 1 ∧ u = upd fG (jv * 9 + jk) a1.toInt32) ∨ (¬ q_tgOk fd fG jv jk a1 ∧ r = 0 ∧ u = fG)) (fun (u : (Nat → Int32)) (t : State) => va_P (dC, dI) vw_cls [(aA, .inr (2, [.long fd, .int ct, .ref aK, .ref aG, .ref aO])), (aG, .inl (cI, 576, .inl u))] t.heap ∧ va_D (va_A [(aA, .inr (2, [.long fd, .int ct, .ref aK, .ref aG, .ref aO])), (aG, .inl (cI, 576, .inl fG))] sz) [(aA, .inr (2, [.long fd, .int ct, .ref aK, .ref aG, .ref aO])), (aG, .inl (cI, 576, .inl u))]) (va_A [(aA, .inr (2, [.long fd, .int ct, .ref aK, .ref aG, .ref aO])), (aG, .inl (cI, 576, .inl fG))] sz)) 0 0 (va_A [(aA, .inr (2, [.long fd, .int ct, .ref aK, .ref aG, .ref aO])), (aG, .inl (cI, 576, .inl fG))] sz) := by
  refine Met.ofW (cc := b_Answers_tellGrams) (maxL := 8) (ret := (some .boolean)) (by decide) rfl ?_
  intro p e s m args below meth c s₁ B hml hv
  obtain ⟨rfl, hsz, hP, hKN, hD0⟩ := hv
  obtain ⟨hK, hN⟩ := id hKN
  have hx := B.exec
  have hb := B.bytes
  have hr := B.returns
  have hts0 := atoms_spec (ws := w_Answers_tellGrams) B.pre
  have hts : ∀ w ∈ lw_g, w.before _ s = true := fun w h => hts0 w (List.mem_cons_of_mem _ h)
  have hown : s.vm.findClass R_Answers = some m.cls := findClass_of_methodNamed B.named
  have hlocks := B.notSynchronized
  subst hsz
  have hD := hD0.self (sz := s.heap.size)
  generalize hAe : va_A [(aA, .inr (2, [.long fd, .int ct, .ref aK, .ref aG, .ref aO])), (aG, .inl (cI, 576, .inl fG))] s.heap.size = A at hD ⊢
  have hA : ∀ q : Nat, s.heap.size ≤ q → A q := fun q h => by rw [← hAe]; exact Or.inr h
  have hP : va_P (dC, dI) vw_cls [(aA, .inr (2, [.long fd, .int ct, .ref aK, .ref aG, .ref aO])), (aG, .inl (cI, 576, .inl fG))] s.heap := hP
  have hl := lv_entry ([.ref aA, .int v1, .int k1, .long a1]) (n := 8) (Nat.le_of_ble_eq_true rfl)
  rw [lg_entry_eq]
  generalize (lg_sl ([.ref aA, .int v1, .int k1, .long a1]) ++ List.replicate (8 - (lg_sl ([.ref aA, .int v1, .int k1, .long a1])).length) Slot.unset).toArray = ls at hl ⊢
  have hl : lv_has ls 8 [(0, .ref aA), (1, .int v1), (2, .int k1), (3, .long a1)] := hl
  refine gw_start (fun H locs hH hlocs => ?_)
  rw [← hH] at hP
  have hS : va_S A s.heap H locs := by rw [hH, hlocs]; exact va_S.rf
  refine lv_iload_n hx hb d_Answers_tellGrams_0 rfl (lv_at hl 1 rfl) ?_
  have hPc := hP.sub (ws' := []) [] rfl
  have hDc := hD.sub (ws' := []) [] (by decide) rfl
  have hFc := va_free (wc := []) hD hS hA [] rfl
  refine va_calli (va_runS (As := [.int v1]) (rest := []) ⟨hx, hb, hml, hown, hts⟩ (k_hr l dC dI H.size cI cZ cQ v1 ) ⟨(callB_of 1 hts (ga_all tw_279) rfl rfl rfl (hts _ tw_27) (hts _ tw_277) (by decide +kernel) ⟨Nat.le_of_ble_eq_true rfl, Nat.le_of_ble_eq_true rfl⟩), hts _ tw_278⟩ ⟨fun a U g mk q => by obtain ⟨q0, q1, qP, qK, qD⟩ := q; exact ⟨q0, q1, qP, g_K.same (u := U) (U := U.calling g mk a) rfl qK, qD⟩, fun U hU hW => ⟨rfl, by rw [hU], by rw [hU]; exact hPc, g_K.warm hW hKN, hDc.weaken (fun _ _ _ _ => trivial)⟩⟩ rfl rfl hl.1 rfl (lv_room (Nat.le_of_ble_eq_true rfl)) d_Answers_tellGrams_1 ⟨Nat.le_of_ble_eq_true rfl, Nat.le_of_ble_eq_true rfl⟩) hS (fun q _ h => hFc q h) hFc (fun r_1 u t H1 locs htt hvm hw_2 hBB hzz hkk hS => ?_)
  have hw_2 : r_1 = q_hr v1 := hw_2
  obtain ⟨hPP, hDD⟩ := hBB
  rw [htt] at hPP
  have hPP : va_P (dC, dI) vw_cls [] H1 := hPP
  have hDD : va_D (va_A [] H.size) [] := hDD
  obtain ⟨hP, hD⟩ := va_join (wr := [(aA, .inr (2, [.long fd, .int ct, .ref aK, .ref aG, .ref aO])), (aG, .inl (cI, 576, .inl fG))]) (w1 := []) hP hD [] [0, 1] rfl rfl (by decide) (by decide) hkk hFc hPP hDD
  generalize H1 = H at hP hS ⊢
  have hP : va_P (dC, dI) vw_cls [(aA, .inr (2, [.long fd, .int ct, .ref aK, .ref aG, .ref aO])), (aG, .inl (cI, 576, .inl fG))] H := hP
  have hD : va_D A [(aA, .inr (2, [.long fd, .int ct, .ref aK, .ref aG, .ref aO])), (aG, .inl (cI, 576, .inl fG))] := hD
  refine lv_if_eq (tgt := 32) hx hb d_Answers_tellGrams_4 (by decide) (fun c_3 => ?_) (fun c_3 => ?_)
  · skip
    exact absurd (c_3 : _ = _) (by rw [hw_2, q_hr_in hv1 hjv]; decide)
  · skip
    refine lv_iload_n hx hb d_Answers_tellGrams_7 rfl (lv_at hl 2 rfl) ?_
    refine lv_if_lt (tgt := 32) hx hb d_Answers_tellGrams_8 (by decide) (fun c_4 => ?_) (fun c_4 => ?_)
    · skip
      exact absurd c_4 (by rw [hk1]; exact nI_pos (by omega))
    · skip
      refine lv_iload_n hx hb d_Answers_tellGrams_11 rfl (lv_at hl 2 rfl) ?_
      refine lv_bipush (v := 9) hx hb d_Answers_tellGrams_12 (by decide) ?_
      refine lv_icmp_ge (tgt := 32) hx hb d_Answers_tellGrams_14 (by decide) (fun c_5 => ?_) (fun c_5 => ?_)
      · skip
        exact absurd (lp_ge (N := 9) c_5 hk1 rfl (by omega) (by decide)) (by omega)
      · skip
        refine lv_lload_n hx hb d_Answers_tellGrams_17 rfl (lv_at hl 3 rfl) ?_
        refine lv_lconst (v := 0) hx hb d_Answers_tellGrams_18 (by decide) ?_
        refine W.lcmp hx hb d_Answers_tellGrams_19 ?_
        refine lv_if_lt (tgt := 32) hx hb d_Answers_tellGrams_20 (by decide) (fun c_6 => ?_) (fun c_6 => ?_)
        · skip
          have c_6 : a1 < (0 : Int64) := (lg_cmp_lt _ _).mp c_6
          have hbad : ¬ q_tgOk fd fG jv jk a1 := fun q => q.1 c_6
          refine lv_iconst (v := 0) hx hb d_Answers_tellGrams_32 (by decide) ?_
          have hP9 := hP.sub (ws' := [(aA, .inr (2, [.long fd, .int ct, .ref aK, .ref aG, .ref aO])), (aG, .inl (cI, 576, .inl fG))]) [0, 1] rfl
          have hD9 := hD.sub (ws' := [(aA, .inr (2, [.long fd, .int ct, .ref aK, .ref aG, .ref aO])), (aG, .inl (cI, 576, .inl fG))]) [0, 1] (by decide) rfl
          have hpost_7 : (q_tgOk fd fG jv jk a1 ∧ (0 : Int32) = 1 ∧ fG = upd fG (jv * 9 + jk) a1.toInt32) ∨ (¬ q_tgOk fd fG jv jk a1 ∧ (0 : Int32) = 0 ∧ fG = fG) := Or.inr ⟨hbad, rfl, rfl⟩
          exact W.zret (v := 0) hx hb hr (rfl) (fun t ht hW => ⟨⟨0, fG, rfl, hpost_7, by rw [ht]; exact hP9, hD9⟩, hS.F ht⟩) hS.2.2 d_Answers_tellGrams_33
        · skip
          have c_6 : ¬ a1 < (0 : Int64) := fun h => c_6 ((lg_cmp_lt _ _).mpr h)
          have ca := c_6
          refine lv_lload_n hx hb d_Answers_tellGrams_23 rfl (lv_at hl 3 rfl) ?_
          refine lv_aload_n hx hb d_Answers_tellGrams_24 rfl (lv_at hl 0 rfl) ?_
          refine va_get (D := (dC, dI)) (ci := 2) (v := .long fd) (C := R_Answers) (T := T_Answers) (N := 5) hx hb hts in_Answers hown hK hP 0 rfl rfl 0 (by decide) (hts _ tw_108) (fun _ h9 => h9) rfl d_Answers_tellGrams_25 ?_
          refine W.lcmp hx hb d_Answers_tellGrams_28 ?_
          refine lv_if_le (tgt := 34) hx hb d_Answers_tellGrams_29 (by decide) (fun c_8 => ?_) (fun c_8 => ?_)
          · skip
            have c_8 : a1 ≤ fd := (lg_cmp_le _ _).mp c_8
            have cb := c_8
            refine lv_lconst (v := 0) hx hb d_Answers_tellGrams_34 (by decide) ?_
            refine lv_lstore (lv' := [(5, .long 0), (0, .ref aA), (1, .int v1), (2, .int k1), (3, .long a1)]) hx hb d_Answers_tellGrams_35 hl (by decide) rfl (fun ls hl => ?_)
            refine lv_iconst (v := 0) hx hb d_Answers_tellGrams_37 (by decide) ?_
            refine lv_istore (lv' := [(7, .int 0), (5, .long 0), (0, .ref aA), (1, .int v1), (2, .int k1), (3, .long a1)]) hx hb d_Answers_tellGrams_38 hl (by decide) rfl (fun ls hl => ?_)
            refine L_tg hx hb hml hown hts hA cI cZ cQ aA aK aG aO fd ct fG v1 jv k1 jk a1 hv1 hjv hk1 hjk hKN ?_ (9 - 0 + 1) 0 0 0 (Nat.zero_le _) rfl rfl (Nat.lt_succ_self _) H locs (hP.sub [0, 1] rfl) (hD.sub [0, 1] (by decide) rfl) hS ls (lv_sub hl [2, 3, 4, 5, 1, 0] rfl)
            intro i xi acc hi exi eacc hendi H locs hP hD hS ls hl
            have hl : lv_has ls 8 [(0, .ref aA), (1, .int v1), (2, .int k1), (3, .long a1), (5, .long acc), (7, .int xi)] := hl
            have hP : va_P (dC, dI) vw_cls [(aA, .inr (2, [.long fd, .int ct, .ref aK, .ref aG, .ref aO])), (aG, .inl (cI, 576, .inl fG))] H := hP
            have hD : va_D A [(aA, .inr (2, [.long fd, .int ct, .ref aK, .ref aG, .ref aO])), (aG, .inl (cI, 576, .inl fG))] := hD
            refine lv_lload hx hb d_Answers_tellGrams_77 (lv_at hl 4 rfl) ?_
            refine lv_lload_n hx hb d_Answers_tellGrams_79 rfl (lv_at hl 3 rfl) ?_
            refine lv_ladd hx hb d_Answers_tellGrams_80 ?_
            refine lv_topl (fun v_9 ev_9 => ?_)
            refine lv_aload_n hx hb d_Answers_tellGrams_81 rfl (lv_at hl 0 rfl) ?_
            refine va_get (D := (dC, dI)) (ci := 2) (v := .long fd) (C := R_Answers) (T := T_Answers) (N := 5) hx hb hts in_Answers hown hK hP 0 rfl rfl 0 (by decide) (hts _ tw_108) (fun _ h9 => h9) rfl d_Answers_tellGrams_82 ?_
            refine W.lcmp hx hb d_Answers_tellGrams_85 ?_
            refine lv_if_le (tgt := 91) hx hb d_Answers_tellGrams_86 (by decide) (fun c_10 => ?_) (fun c_10 => ?_)
            · skip
              have c_10 : v_9 ≤ fd := (lg_cmp_le _ _).mp c_10
              have hok : q_tgOk fd fG jv jk a1 := ⟨ca, cb, by have q := c_10; rw [ev_9, eacc, hendi] at q; exact q⟩
              refine lv_aload_n hx hb d_Answers_tellGrams_91 rfl (lv_at hl 0 rfl) ?_
              refine va_get (D := (dC, dI)) (ci := 2) (v := .ref aG) (C := R_Answers) (T := T_Answers) (N := 5) hx hb hts in_Answers hown hK hP 0 rfl rfl 3 (by decide) (hts _ tw_114) (fun _ h9 => h9) rfl d_Answers_tellGrams_92 ?_
              refine lv_iload_n hx hb d_Answers_tellGrams_95 rfl (lv_at hl 1 rfl) ?_
              refine lv_bipush (v := 9) hx hb d_Answers_tellGrams_96 (by decide) ?_
              refine lv_imul hx hb d_Answers_tellGrams_98 ?_
              refine lv_topi (fun v_11 ev_11 => ?_)
              refine lv_iload_n hx hb d_Answers_tellGrams_99 rfl (lv_at hl 2 rfl) ?_
              refine lv_iadd hx hb d_Answers_tellGrams_100 ?_
              refine lv_topi (fun v_12 ev_12 => ?_)
              refine lv_lload_n hx hb d_Answers_tellGrams_101 rfl (lv_at hl 3 rfl) ?_
              refine lv_l2i hx hb d_Answers_tellGrams_102 rfl ?_
              refine lv_topi (fun v_13 ev_13 => ?_)
              have eh_14 : v_12 = nI (jv * 9 + jk) := by simp only [ev_9, ev_11, ev_12, ev_13]; rw [hv1, hk1, ix_m9]
              have bh_14 : jv * 9 + jk < 576 := by omega
              have h_14 : vp_in v_12 576 := by rw [eh_14]; exact vp_in_nI bh_14 (by decide)
              have kh_14 : v_12.toNatClampNeg = jv * 9 + jk := by rw [eh_14]; exact nI_clamp (by omega)
              refine va_iast hx hb hK hP hD hS 1 0 rfl rfl h_14 d_Answers_tellGrams_103 (fun H locs hP hD hS => ?_)
              rw [kh_14] at hP hD
              obtain ⟨fG2, efG2⟩ : ∃ y : Nat → Int32, y = upd fG (jv * 9 + jk) v_13 := ⟨_, rfl⟩
              rw [← efG2] at hP hD
              have hP : va_P (dC, dI) vw_cls [(aA, .inr (2, [.long fd, .int ct, .ref aK, .ref aG, .ref aO])), (aG, .inl (cI, 576, .inl fG2))] H := hP
              have hD : va_D A [(aA, .inr (2, [.long fd, .int ct, .ref aK, .ref aG, .ref aO])), (aG, .inl (cI, 576, .inl fG2))] := hD
              refine lv_iconst (v := 1) hx hb d_Answers_tellGrams_104 (by decide) ?_
              have hP9 := hP.sub (ws' := [(aA, .inr (2, [.long fd, .int ct, .ref aK, .ref aG, .ref aO])), (aG, .inl (cI, 576, .inl fG2))]) [0, 1] rfl
              have hD9 := hD.sub (ws' := [(aA, .inr (2, [.long fd, .int ct, .ref aK, .ref aG, .ref aO])), (aG, .inl (cI, 576, .inl fG2))]) [0, 1] (by decide) rfl
              have hpost_15 : (q_tgOk fd fG jv jk a1 ∧ (1 : Int32) = 1 ∧ fG2 = upd fG (jv * 9 + jk) a1.toInt32) ∨ (¬ q_tgOk fd fG jv jk a1 ∧ (1 : Int32) = 0 ∧ fG2 = fG) := Or.inl ⟨hok, rfl, by rw [efG2]; simp only [ev_9, ev_11, ev_12, ev_13]⟩
              exact W.zret (v := 1) hx hb hr (rfl) (fun t ht hW => ⟨⟨1, fG2, rfl, hpost_15, by rw [ht]; exact hP9, hD9⟩, hS.F ht⟩) hS.2.2 d_Answers_tellGrams_105
            · skip
              have c_10 : ¬ v_9 ≤ fd := fun h => c_10 ((lg_cmp_le _ _).mpr h)
              have hbad : ¬ q_tgOk fd fG jv jk a1 := fun q => c_10 (by rw [ev_9, eacc, hendi]; exact q.2.2)
              refine lv_iconst (v := 0) hx hb d_Answers_tellGrams_89 (by decide) ?_
              have hP9 := hP.sub (ws' := [(aA, .inr (2, [.long fd, .int ct, .ref aK, .ref aG, .ref aO])), (aG, .inl (cI, 576, .inl fG))]) [0, 1] rfl
              have hD9 := hD.sub (ws' := [(aA, .inr (2, [.long fd, .int ct, .ref aK, .ref aG, .ref aO])), (aG, .inl (cI, 576, .inl fG))]) [0, 1] (by decide) rfl
              have hpost_16 : (q_tgOk fd fG jv jk a1 ∧ (0 : Int32) = 1 ∧ fG = upd fG (jv * 9 + jk) a1.toInt32) ∨ (¬ q_tgOk fd fG jv jk a1 ∧ (0 : Int32) = 0 ∧ fG = fG) := Or.inr ⟨hbad, rfl, rfl⟩
              exact W.zret (v := 0) hx hb hr (rfl) (fun t ht hW => ⟨⟨0, fG, rfl, hpost_16, by rw [ht]; exact hP9, hD9⟩, hS.F ht⟩) hS.2.2 d_Answers_tellGrams_90
          · skip
            have c_8 : ¬ a1 ≤ fd := fun h => c_8 ((lg_cmp_le _ _).mpr h)
            have hbad : ¬ q_tgOk fd fG jv jk a1 := fun q => c_8 q.2.1
            refine lv_iconst (v := 0) hx hb d_Answers_tellGrams_32 (by decide) ?_
            have hP9 := hP.sub (ws' := [(aA, .inr (2, [.long fd, .int ct, .ref aK, .ref aG, .ref aO])), (aG, .inl (cI, 576, .inl fG))]) [0, 1] rfl
            have hD9 := hD.sub (ws' := [(aA, .inr (2, [.long fd, .int ct, .ref aK, .ref aG, .ref aO])), (aG, .inl (cI, 576, .inl fG))]) [0, 1] (by decide) rfl
            have hpost_17 : (q_tgOk fd fG jv jk a1 ∧ (0 : Int32) = 1 ∧ fG = upd fG (jv * 9 + jk) a1.toInt32) ∨ (¬ q_tgOk fd fG jv jk a1 ∧ (0 : Int32) = 0 ∧ fG = fG) := Or.inr ⟨hbad, rfl, rfl⟩
            exact W.zret (v := 0) hx hb hr (rfl) (fun t ht hW => ⟨⟨0, fG, rfl, hpost_17, by rw [ht]; exact hP9, hD9⟩, hS.F ht⟩) hS.2.2 d_Answers_tellGrams_33
set_option maxHeartbeats 4000000 in
set_option maxRecDepth 100000 in
/-- keep -/
theorem k_ke (l : Launch) (dC : Nat → ClassId) (dI : Nat → Nat → Nat) (sz : Nat) (cI : ClassId) (cZ : ClassId) (cQ : ClassId) (aA : Nat) (aK : Nat) (aG : Nat) (aO : Nat) (fd : Int64) (ct : Int32) (fK : Nat → Int32) (v1 : Int32) (jv : Nat) (hv1 : v1 = nI jv) (hjv : jv < 64) : Met l y_Answers_keep w_Answers_keep ({ frames := 1, cells := 0, slots := 0, locals := 20 } : Room) (va_Pc [.ref aA, .int v1] (fun U => U.heap.size = sz ∧ va_P (dC, dI) vw_cls [(aA, .inr (2, [.long fd, .int ct, .ref aK, .ref aG, .ref aO])), (aK, .inl (cZ, 64, .inl fK))] U.heap ∧ g_K dC dI [(cI, .int), (cZ, .boolean), (cQ, (.object "SettingSearch$Answers"))] U ∧ va_D (fun _ => True) [(aA, .inr (2, [.long fd, .int ct, .ref aK, .ref aG, .ref aO])), (aK, .inl (cZ, 64, .inl fK))])) (va_Qv (fun (u : (Nat → Int32) × Int32) => (fK jv = 0 ∧ u.1 = upd fK jv 1 ∧ u.2 = ct + 1) ∨ (¬ fK jv = 0 ∧ u.1 = fK ∧ u.2 = ct)) (fun (u : (Nat → Int32) × Int32) (t : State) => va_P (dC, dI) vw_cls [(aA, .inr (2, [.long fd, .int u.2, .ref aK, .ref aG, .ref aO])), (aK, .inl (cZ, 64, .inl u.1))] t.heap ∧ va_D (va_A [(aA, .inr (2, [.long fd, .int ct, .ref aK, .ref aG, .ref aO])), (aK, .inl (cZ, 64, .inl fK))] sz) [(aA, .inr (2, [.long fd, .int u.2, .ref aK, .ref aG, .ref aO])), (aK, .inl (cZ, 64, .inl u.1))]) (va_A [(aA, .inr (2, [.long fd, .int ct, .ref aK, .ref aG, .ref aO])), (aK, .inl (cZ, 64, .inl fK))] sz)) 0 0 (va_A [(aA, .inr (2, [.long fd, .int ct, .ref aK, .ref aG, .ref aO])), (aK, .inl (cZ, 64, .inl fK))] sz) := by
  refine Met.ofW (cc := b_Answers_keep) (maxL := 2) (ret := none) (by decide) rfl ?_
  intro p e s m args below meth c s₁ B hml hv
  obtain ⟨rfl, hsz, hP, hKN, hD0⟩ := hv
  obtain ⟨hK, hN⟩ := id hKN
  have hx := B.exec
  have hb := B.bytes
  have hr := B.returns
  have hts0 := atoms_spec (ws := w_Answers_keep) B.pre
  have hts : ∀ w ∈ lw_g, w.before _ s = true := fun w h => hts0 w (List.mem_cons_of_mem _ h)
  have hown : s.vm.findClass R_Answers = some m.cls := findClass_of_methodNamed B.named
  have hlocks := B.notSynchronized
  subst hsz
  have hD := hD0.self (sz := s.heap.size)
  generalize hAe : va_A [(aA, .inr (2, [.long fd, .int ct, .ref aK, .ref aG, .ref aO])), (aK, .inl (cZ, 64, .inl fK))] s.heap.size = A at hD ⊢
  have hA : ∀ q : Nat, s.heap.size ≤ q → A q := fun q h => by rw [← hAe]; exact Or.inr h
  have hP : va_P (dC, dI) vw_cls [(aA, .inr (2, [.long fd, .int ct, .ref aK, .ref aG, .ref aO])), (aK, .inl (cZ, 64, .inl fK))] s.heap := hP
  have hl := lv_entry ([.ref aA, .int v1]) (n := 2) (Nat.le_of_ble_eq_true rfl)
  rw [lg_entry_eq]
  generalize (lg_sl ([.ref aA, .int v1]) ++ List.replicate (2 - (lg_sl ([.ref aA, .int v1])).length) Slot.unset).toArray = ls at hl ⊢
  have hl : lv_has ls 2 [(0, .ref aA), (1, .int v1)] := hl
  refine gw_start (fun H locs hH hlocs => ?_)
  rw [← hH] at hP
  have hS : va_S A s.heap H locs := by rw [hH, hlocs]; exact va_S.rf
  refine lv_iload_n hx hb d_Answers_keep_0 rfl (lv_at hl 1 rfl) ?_
  have hPc := hP.sub (ws' := []) [] rfl
  have hDc := hD.sub (ws' := []) [] (by decide) rfl
  have hFc := va_free (wc := []) hD hS hA [] rfl
  refine va_calli (va_runS (As := [.int v1]) (rest := []) ⟨hx, hb, hml, hown, hts⟩ (k_hr l dC dI H.size cI cZ cQ v1 ) ⟨(callB_of 1 hts (ga_all tw_279) rfl rfl rfl (hts _ tw_27) (hts _ tw_277) (by decide +kernel) ⟨Nat.le_of_ble_eq_true rfl, Nat.le_of_ble_eq_true rfl⟩), hts _ tw_278⟩ ⟨fun a U g mk q => by obtain ⟨q0, q1, qP, qK, qD⟩ := q; exact ⟨q0, q1, qP, g_K.same (u := U) (U := U.calling g mk a) rfl qK, qD⟩, fun U hU hW => ⟨rfl, by rw [hU], by rw [hU]; exact hPc, g_K.warm hW hKN, hDc.weaken (fun _ _ _ _ => trivial)⟩⟩ rfl rfl hl.1 rfl (lv_room (Nat.le_of_ble_eq_true rfl)) d_Answers_keep_1 ⟨Nat.le_of_ble_eq_true rfl, Nat.le_of_ble_eq_true rfl⟩) hS (fun q _ h => hFc q h) hFc (fun r_1 u t H1 locs htt hvm hw_2 hBB hzz hkk hS => ?_)
  have hw_2 : r_1 = q_hr v1 := hw_2
  obtain ⟨hPP, hDD⟩ := hBB
  rw [htt] at hPP
  have hPP : va_P (dC, dI) vw_cls [] H1 := hPP
  have hDD : va_D (va_A [] H.size) [] := hDD
  obtain ⟨hP, hD⟩ := va_join (wr := [(aA, .inr (2, [.long fd, .int ct, .ref aK, .ref aG, .ref aO])), (aK, .inl (cZ, 64, .inl fK))]) (w1 := []) hP hD [] [0, 1] rfl rfl (by decide) (by decide) hkk hFc hPP hDD
  generalize H1 = H at hP hS ⊢
  have hP : va_P (dC, dI) vw_cls [(aA, .inr (2, [.long fd, .int ct, .ref aK, .ref aG, .ref aO])), (aK, .inl (cZ, 64, .inl fK))] H := hP
  have hD : va_D A [(aA, .inr (2, [.long fd, .int ct, .ref aK, .ref aG, .ref aO])), (aK, .inl (cZ, 64, .inl fK))] := hD
  refine lv_if_eq (tgt := 33) hx hb d_Answers_keep_4 (by decide) (fun c_3 => ?_) (fun c_3 => ?_)
  · skip
    exact absurd (c_3 : _ = _) (by rw [hw_2, q_hr_in hv1 hjv]; decide)
  · skip
    refine lv_aload_n hx hb d_Answers_keep_7 rfl (lv_at hl 0 rfl) ?_
    refine va_get (D := (dC, dI)) (ci := 2) (v := .ref aK) (C := R_Answers) (T := T_Answers) (N := 5) hx hb hts in_Answers hown hK hP 0 rfl rfl 2 (by decide) (hts _ tw_113) (fun _ h9 => h9) rfl d_Answers_keep_8 ?_
    refine lv_iload_n hx hb d_Answers_keep_11 rfl (lv_at hl 1 rfl) ?_
    have eh_4 : v1 = nI (jv) := hv1
    have bh_4 : jv < 64 := hjv
    have h_4 : vp_in v1 64 := by rw [eh_4]; exact vp_in_nI bh_4 (by decide)
    have kh_4 : v1.toNatClampNeg = jv := by rw [eh_4]; exact nI_clamp (by omega)
    refine va_zald hx hb hK hP 1 1 rfl rfl h_4 d_Answers_keep_12 ?_
    rw [kh_4]
    refine lv_topi (fun v_5 ev_5 => ?_)
    refine lv_if_ne (tgt := 33) hx hb d_Answers_keep_13 (by decide) (fun c_6 => ?_) (fun c_6 => ?_)
    · skip
      have cq : ¬ fK jv = 0 := by rw [← ev_5]; exact c_6
      have hP9 := hP.sub (ws' := [(aA, .inr (2, [.long fd, .int ct, .ref aK, .ref aG, .ref aO])), (aK, .inl (cZ, 64, .inl fK))]) [0, 1] rfl
      have hD9 := hD.sub (ws' := [(aA, .inr (2, [.long fd, .int ct, .ref aK, .ref aG, .ref aO])), (aK, .inl (cZ, 64, .inl fK))]) [0, 1] (by decide) rfl
      have hpost_7 : (fK jv = 0 ∧ fK = upd fK jv 1 ∧ ct = ct + 1) ∨ (¬ fK jv = 0 ∧ fK = fK ∧ ct = ct) := Or.inr ⟨cq, rfl, rfl⟩
      exact W.vret hx hb hr (fun t ht hW => ⟨⟨(fK, ct), rfl, hpost_7, by rw [ht]; exact hP9, hD9⟩, hS.F ht⟩) hS.2.2 d_Answers_keep_33
    · skip
      have cq : fK jv = 0 := by rw [← ev_5]; exact c_6
      refine lv_aload_n hx hb d_Answers_keep_16 rfl (lv_at hl 0 rfl) ?_
      refine va_get (D := (dC, dI)) (ci := 2) (v := .ref aK) (C := R_Answers) (T := T_Answers) (N := 5) hx hb hts in_Answers hown hK hP 0 rfl rfl 2 (by decide) (hts _ tw_113) (fun _ h9 => h9) rfl d_Answers_keep_17 ?_
      refine lv_iload_n hx hb d_Answers_keep_20 rfl (lv_at hl 1 rfl) ?_
      refine lv_iconst (v := 1) hx hb d_Answers_keep_21 (by decide) ?_
      have eh_8 : v1 = nI (jv) := hv1
      have bh_8 : jv < 64 := hjv
      have h_8 : vp_in v1 64 := by rw [eh_8]; exact vp_in_nI bh_8 (by decide)
      have kh_8 : v1.toNatClampNeg = jv := by rw [eh_8]; exact nI_clamp (by omega)
      refine va_zast hx hb hK hP hD hS 1 1 rfl rfl h_8 d_Answers_keep_22 (fun H locs hP hD hS => ?_)
      rw [kh_8] at hP hD
      rw [show vp_nar .boolean 1 = 1 from rfl] at hP hD
      obtain ⟨fK2, efK2⟩ : ∃ y : Nat → Int32, y = upd fK (jv) 1 := ⟨_, rfl⟩
      rw [← efK2] at hP hD
      have hP : va_P (dC, dI) vw_cls [(aA, .inr (2, [.long fd, .int ct, .ref aK, .ref aG, .ref aO])), (aK, .inl (cZ, 64, .inl fK2))] H := hP
      have hD : va_D A [(aA, .inr (2, [.long fd, .int ct, .ref aK, .ref aG, .ref aO])), (aK, .inl (cZ, 64, .inl fK2))] := hD
      refine lv_aload_n hx hb d_Answers_keep_23 rfl (lv_at hl 0 rfl) ?_
      refine lv_dup hx hb d_Answers_keep_24 rfl ?_
      refine va_get (D := (dC, dI)) (ci := 2) (v := .int ct) (C := R_Answers) (T := T_Answers) (N := 5) hx hb hts in_Answers hown hK hP 0 rfl rfl 1 (by decide) (hts _ tw_111) (fun _ h9 => h9) rfl d_Answers_keep_25 ?_
      refine lv_iconst (v := 1) hx hb d_Answers_keep_28 (by decide) ?_
      refine lv_iadd hx hb d_Answers_keep_29 ?_
      refine lv_topi (fun v_9 ev_9 => ?_)
      refine va_put (D := (dC, dI)) (ci := 2) (v := .int v_9) (ty := .int) (C := R_Answers) (T := T_Answers) (N := 5) hx hb hts in_Answers ty_Answers ty_Answers_ok nm_Answers hown hK hP hD hS 0 rfl rfl 1 (by decide) (hts _ tw_111) (fun _ h9 => h9) rfl (by decide +kernel) rfl rfl (Nat.le_of_ble_eq_true rfl) d_Answers_keep_30 (fun H locs hP hD hS => ?_)
      have hP : va_P (dC, dI) vw_cls [(aA, .inr (2, [.long fd, .int v_9, .ref aK, .ref aG, .ref aO])), (aK, .inl (cZ, 64, .inl fK2))] H := hP
      have hD : va_D A [(aA, .inr (2, [.long fd, .int v_9, .ref aK, .ref aG, .ref aO])), (aK, .inl (cZ, 64, .inl fK2))] := hD
      have hP9 := hP.sub (ws' := [(aA, .inr (2, [.long fd, .int v_9, .ref aK, .ref aG, .ref aO])), (aK, .inl (cZ, 64, .inl fK2))]) [0, 1] rfl
      have hD9 := hD.sub (ws' := [(aA, .inr (2, [.long fd, .int v_9, .ref aK, .ref aG, .ref aO])), (aK, .inl (cZ, 64, .inl fK2))]) [0, 1] (by decide) rfl
      have hpost_10 : (fK jv = 0 ∧ fK2 = upd fK jv 1 ∧ v_9 = ct + 1) ∨ (¬ fK jv = 0 ∧ fK2 = fK ∧ v_9 = ct) := Or.inl ⟨cq, efK2, ev_9⟩
      exact W.vret hx hb hr (fun t ht hW => ⟨⟨(fK2, v_9), rfl, hpost_10, by rw [ht]; exact hP9, hD9⟩, hS.F ht⟩) hS.2.2 d_Answers_keep_33
theorem q_kn_eq {r x : Int32} (h : r = if x = 0 then 0 else 1) (h0 : r = 0) : x = 0 := by
  by_cases c : x = 0
  · exact c
  · rw [if_neg c] at h; rw [h] at h0; exact absurd h0 (by decide)
theorem q_kn_ne {r x : Int32} (h : r = if x = 0 then 0 else 1) (h0 : ¬ r = 0) : ¬ x = 0 := fun c => h0 (by rw [h, if_pos c])
set_option maxHeartbeats 4000000 in
set_option maxRecDepth 100000 in
/-- knows -/
theorem k_kn (l : Launch) (dC : Nat → ClassId) (dI : Nat → Nat → Nat) (sz : Nat) (cI : ClassId) (cZ : ClassId) (cQ : ClassId) (aA : Nat) (aK : Nat) (aG : Nat) (aO : Nat) (fd : Int64) (ct : Int32) (fK : Nat → Int32) (v1 : Int32) (jv : Nat) (hv1 : v1 = nI jv) (hjv : jv < 64) : Met l y_Answers_knows w_Answers_knows ({ frames := 1, cells := 0, slots := 0, locals := 20 } : Room) (va_Pc [.ref aA, .int v1] (fun U => U.heap.size = sz ∧ va_P (dC, dI) vw_cls [(aA, .inr (2, [.long fd, .int ct, .ref aK, .ref aG, .ref aO])), (aK, .inl (cZ, 64, .inl fK))] U.heap ∧ g_K dC dI [(cI, .int), (cZ, .boolean), (cQ, (.object "SettingSearch$Answers"))] U ∧ va_D (fun _ => True) [(aA, .inr (2, [.long fd, .int ct, .ref aK, .ref aG, .ref aO])), (aK, .inl (cZ, 64, .inl fK))])) (va_Qi (fun (r : Int32) (u : Unit) => r = if fK jv = 0 then 0 else 1) (fun (u : Unit) (t : State) => va_P (dC, dI) vw_cls [(aA, .inr (2, [.long fd, .int ct, .ref aK, .ref aG, .ref aO])), (aK, .inl (cZ, 64, .inl fK))] t.heap ∧ va_D (va_A [(aA, .inr (2, [.long fd, .int ct, .ref aK, .ref aG, .ref aO])), (aK, .inl (cZ, 64, .inl fK))] sz) [(aA, .inr (2, [.long fd, .int ct, .ref aK, .ref aG, .ref aO])), (aK, .inl (cZ, 64, .inl fK))]) (va_A [(aA, .inr (2, [.long fd, .int ct, .ref aK, .ref aG, .ref aO])), (aK, .inl (cZ, 64, .inl fK))] sz)) 0 0 (va_A [(aA, .inr (2, [.long fd, .int ct, .ref aK, .ref aG, .ref aO])), (aK, .inl (cZ, 64, .inl fK))] sz) := by
  refine Met.ofW (cc := b_Answers_knows) (maxL := 2) (ret := (some .boolean)) (by decide) rfl ?_
  intro p e s m args below meth c s₁ B hml hv
  obtain ⟨rfl, hsz, hP, hKN, hD0⟩ := hv
  obtain ⟨hK, hN⟩ := id hKN
  have hx := B.exec
  have hb := B.bytes
  have hr := B.returns
  have hts0 := atoms_spec (ws := w_Answers_knows) B.pre
  have hts : ∀ w ∈ lw_g, w.before _ s = true := fun w h => hts0 w (List.mem_cons_of_mem _ h)
  have hown : s.vm.findClass R_Answers = some m.cls := findClass_of_methodNamed B.named
  have hlocks := B.notSynchronized
  subst hsz
  have hD := hD0.self (sz := s.heap.size)
  generalize hAe : va_A [(aA, .inr (2, [.long fd, .int ct, .ref aK, .ref aG, .ref aO])), (aK, .inl (cZ, 64, .inl fK))] s.heap.size = A at hD ⊢
  have hA : ∀ q : Nat, s.heap.size ≤ q → A q := fun q h => by rw [← hAe]; exact Or.inr h
  have hP : va_P (dC, dI) vw_cls [(aA, .inr (2, [.long fd, .int ct, .ref aK, .ref aG, .ref aO])), (aK, .inl (cZ, 64, .inl fK))] s.heap := hP
  have hl := lv_entry ([.ref aA, .int v1]) (n := 2) (Nat.le_of_ble_eq_true rfl)
  rw [lg_entry_eq]
  generalize (lg_sl ([.ref aA, .int v1]) ++ List.replicate (2 - (lg_sl ([.ref aA, .int v1])).length) Slot.unset).toArray = ls at hl ⊢
  have hl : lv_has ls 2 [(0, .ref aA), (1, .int v1)] := hl
  refine gw_start (fun H locs hH hlocs => ?_)
  rw [← hH] at hP
  have hS : va_S A s.heap H locs := by rw [hH, hlocs]; exact va_S.rf
  refine lv_iload_n hx hb d_Answers_knows_0 rfl (lv_at hl 1 rfl) ?_
  have hPc := hP.sub (ws' := []) [] rfl
  have hDc := hD.sub (ws' := []) [] (by decide) rfl
  have hFc := va_free (wc := []) hD hS hA [] rfl
  refine va_calli (va_runS (As := [.int v1]) (rest := []) ⟨hx, hb, hml, hown, hts⟩ (k_hr l dC dI H.size cI cZ cQ v1 ) ⟨(callB_of 1 hts (ga_all tw_279) rfl rfl rfl (hts _ tw_27) (hts _ tw_277) (by decide +kernel) ⟨Nat.le_of_ble_eq_true rfl, Nat.le_of_ble_eq_true rfl⟩), hts _ tw_278⟩ ⟨fun a U g mk q => by obtain ⟨q0, q1, qP, qK, qD⟩ := q; exact ⟨q0, q1, qP, g_K.same (u := U) (U := U.calling g mk a) rfl qK, qD⟩, fun U hU hW => ⟨rfl, by rw [hU], by rw [hU]; exact hPc, g_K.warm hW hKN, hDc.weaken (fun _ _ _ _ => trivial)⟩⟩ rfl rfl hl.1 rfl (lv_room (Nat.le_of_ble_eq_true rfl)) d_Answers_knows_1 ⟨Nat.le_of_ble_eq_true rfl, Nat.le_of_ble_eq_true rfl⟩) hS (fun q _ h => hFc q h) hFc (fun r_1 u t H1 locs htt hvm hw_2 hBB hzz hkk hS => ?_)
  have hw_2 : r_1 = q_hr v1 := hw_2
  obtain ⟨hPP, hDD⟩ := hBB
  rw [htt] at hPP
  have hPP : va_P (dC, dI) vw_cls [] H1 := hPP
  have hDD : va_D (va_A [] H.size) [] := hDD
  obtain ⟨hP, hD⟩ := va_join (wr := [(aA, .inr (2, [.long fd, .int ct, .ref aK, .ref aG, .ref aO])), (aK, .inl (cZ, 64, .inl fK))]) (w1 := []) hP hD [] [0, 1] rfl rfl (by decide) (by decide) hkk hFc hPP hDD
  generalize H1 = H at hP hS ⊢
  have hP : va_P (dC, dI) vw_cls [(aA, .inr (2, [.long fd, .int ct, .ref aK, .ref aG, .ref aO])), (aK, .inl (cZ, 64, .inl fK))] H := hP
  have hD : va_D A [(aA, .inr (2, [.long fd, .int ct, .ref aK, .ref aG, .ref aO])), (aK, .inl (cZ, 64, .inl fK))] := hD
  refine lv_if_eq (tgt := 20) hx hb d_Answers_knows_4 (by decide) (fun c_3 => ?_) (fun c_3 => ?_)
  · skip
    exact absurd (c_3 : _ = _) (by rw [hw_2, q_hr_in hv1 hjv]; decide)
  · skip
    refine lv_aload_n hx hb d_Answers_knows_7 rfl (lv_at hl 0 rfl) ?_
    refine va_get (D := (dC, dI)) (ci := 2) (v := .ref aK) (C := R_Answers) (T := T_Answers) (N := 5) hx hb hts in_Answers hown hK hP 0 rfl rfl 2 (by decide) (hts _ tw_113) (fun _ h9 => h9) rfl d_Answers_knows_8 ?_
    refine lv_iload_n hx hb d_Answers_knows_11 rfl (lv_at hl 1 rfl) ?_
    have eh_4 : v1 = nI (jv) := hv1
    have bh_4 : jv < 64 := hjv
    have h_4 : vp_in v1 64 := by rw [eh_4]; exact vp_in_nI bh_4 (by decide)
    have kh_4 : v1.toNatClampNeg = jv := by rw [eh_4]; exact nI_clamp (by omega)
    refine va_zald hx hb hK hP 1 1 rfl rfl h_4 d_Answers_knows_12 ?_
    rw [kh_4]
    refine lv_topi (fun v_5 ev_5 => ?_)
    refine lv_if_eq (tgt := 20) hx hb d_Answers_knows_13 (by decide) (fun c_6 => ?_) (fun c_6 => ?_)
    · skip
      have cq : fK jv = 0 := by rw [← ev_5]; exact c_6
      refine lv_iconst (v := 0) hx hb d_Answers_knows_20 (by decide) ?_
      have hP9 := hP.sub (ws' := [(aA, .inr (2, [.long fd, .int ct, .ref aK, .ref aG, .ref aO])), (aK, .inl (cZ, 64, .inl fK))]) [0, 1] rfl
      have hD9 := hD.sub (ws' := [(aA, .inr (2, [.long fd, .int ct, .ref aK, .ref aG, .ref aO])), (aK, .inl (cZ, 64, .inl fK))]) [0, 1] (by decide) rfl
      have hpost_7 : (0 : Int32) = if fK jv = 0 then 0 else 1 := by first | exact (if_pos cq).symm | exact (if_neg cq).symm
      exact W.zret (v := 0) hx hb hr (rfl) (fun t ht hW => ⟨⟨0, (), rfl, hpost_7, by rw [ht]; exact hP9, hD9⟩, hS.F ht⟩) hS.2.2 d_Answers_knows_21
    · skip
      have cq : ¬ fK jv = 0 := by rw [← ev_5]; exact c_6
      refine lv_iconst (v := 1) hx hb d_Answers_knows_16 (by decide) ?_
      refine lv_goto (tgt := 21) hx hb d_Answers_knows_17 (by decide) ?_
      have hP9 := hP.sub (ws' := [(aA, .inr (2, [.long fd, .int ct, .ref aK, .ref aG, .ref aO])), (aK, .inl (cZ, 64, .inl fK))]) [0, 1] rfl
      have hD9 := hD.sub (ws' := [(aA, .inr (2, [.long fd, .int ct, .ref aK, .ref aG, .ref aO])), (aK, .inl (cZ, 64, .inl fK))]) [0, 1] (by decide) rfl
      have hpost_8 : (1 : Int32) = if fK jv = 0 then 0 else 1 := by first | exact (if_pos cq).symm | exact (if_neg cq).symm
      exact W.zret (v := 1) hx hb hr (rfl) (fun t ht hW => ⟨⟨1, (), rfl, hpost_8, by rw [ht]; exact hP9, hD9⟩, hS.F ht⟩) hS.2.2 d_Answers_knows_21
set_option maxHeartbeats 4000000 in
set_option maxRecDepth 100000 in
theorem L_op {p : Program} {l : Launch} {e : Env} {s : State} {m : MethodId} {args : Array Value} {below : List Frame} {meth : Method} {c : Code} {Q : State → Prop} {A : Nat → Prop} (hx : p.tables.exec = Jvm.exec) (hb : c.code = b_Answers_open) (hml : c.maxLocals = 4) (hown : s.vm.findClass R_Answers = some m.cls) (hts : ∀ w ∈ lw_g, w.before args s = true) (hA : ∀ q, s.heap.size ≤ q → A q) {dC : Nat → ClassId} {dI : Nat → Nat → Nat} (cI : ClassId) (cZ : ClassId) (cQ : ClassId) (aA : Nat) (aK : Nat) (aG : Nat) (aO : Nat) (fd : Int64) (ct : Int32) (fK : Nat → Int32) (a1 : Int64)    (hKN : g_K dC dI [(cI, .int), (cZ, .boolean), (cQ, (.object "SettingSearch$Answers"))] s)
    (kx_31 : ∀ (i : Nat) (xi : Int32) (g : Nat → Int32) (_ : i ≤ 64) (_ : xi = nI i) (_ : g = q_z fK 0 i) (_ : i = 64) (H : Heap) (locs : List Loc), va_P (dC, dI) vw_cls [(aA, .inr (2, [.long a1, .int 0, .ref aK, .ref aG, .ref aO])), (aK, .inl (cZ, 64, .inl g))] H → va_D A [(aA, .inr (2, [.long a1, .int 0, .ref aK, .ref aG, .ref aO])), (aK, .inl (cZ, 64, .inl g))] → va_S A s.heap H locs → ∀ (ls : Array Slot), lv_has ls 4 [(0, .ref aA), (1, .long a1), (3, .int xi)] → W p l e ({ frames := 0, cells := 0, slots := 0, locals := 0 } : Room) s m args below meth c H locs 0 0 Q (F0 m 31 ls [])) :
    ∀ (n : Nat) (i : Nat) (xi : Int32) (g : Nat → Int32) (_ : i ≤ 64) (_ : xi = nI i) (_ : g = q_z fK 0 i) (_ : 64 - i < n) (H : Heap) (locs : List Loc), va_P (dC, dI) vw_cls [(aA, .inr (2, [.long a1, .int 0, .ref aK, .ref aG, .ref aO])), (aK, .inl (cZ, 64, .inl g))] H → va_D A [(aA, .inr (2, [.long a1, .int 0, .ref aK, .ref aG, .ref aO])), (aK, .inl (cZ, 64, .inl g))] → va_S A s.heap H locs → ∀ (ls : Array Slot), lv_has ls 4 [(0, .ref aA), (1, .long a1), (3, .int xi)] → W p l e ({ frames := 0, cells := 0, slots := 0, locals := 0 } : Room) s m args below meth c H locs 0 0 Q (F0 m 12 ls []) := by
  obtain ⟨hK, hN⟩ := id hKN
  intro n
  induction n with
  | zero =>
    intro i xi g hi exi eg hm
    exact absurd hm (Nat.not_lt_zero _)
  | succ n ih =>
    intro i xi g hi exi eg hm H locs hP hD hS ls hl
    refine lv_iload_n hx hb d_Answers_open_12 rfl (lv_at hl 2 rfl) ?_
    refine lv_bipush (v := 64) hx hb d_Answers_open_13 (by decide) ?_
    refine lv_icmp_ge (tgt := 31) hx hb d_Answers_open_15 (by decide) (fun c_1 => ?_) (fun c_1 => ?_)
    · skip
      have hendi := lp_ge (N := 64) c_1 exi rfl hi (by omega)
      exact kx_31 i xi g hi exi eg hendi H locs (hP.sub [0, 1] rfl) (hD.sub [0, 1] (by decide) rfl) hS ls (lv_sub hl [0, 1, 2] rfl)
    · skip
      have hlti := lp_lt (N := 64) c_1 exi rfl (by omega)
      refine lv_aload_n hx hb d_Answers_open_18 rfl (lv_at hl 0 rfl) ?_
      refine va_get (D := (dC, dI)) (ci := 2) (v := .ref aK) (C := R_Answers) (T := T_Answers) (N := 5) hx hb hts in_Answers hown hK hP 0 rfl rfl 2 (by decide) (hts _ tw_113) (fun _ h9 => h9) rfl d_Answers_open_19 ?_
      refine lv_iload_n hx hb d_Answers_open_22 rfl (lv_at hl 2 rfl) ?_
      refine lv_iconst (v := 0) hx hb d_Answers_open_23 (by decide) ?_
      have eh_2 : xi = nI (i) := exi
      have bh_2 : i < 64 := by omega
      have h_2 : vp_in xi 64 := by rw [eh_2]; exact vp_in_nI bh_2 (by decide)
      have kh_2 : xi.toNatClampNeg = i := by rw [eh_2]; exact nI_clamp (by omega)
      refine va_zast hx hb hK hP hD hS 1 1 rfl rfl h_2 d_Answers_open_24 (fun H locs hP hD hS => ?_)
      rw [kh_2] at hP hD
      rw [show vp_nar .boolean 0 = 0 from rfl] at hP hD
      obtain ⟨g2, eg2⟩ : ∃ y : Nat → Int32, y = upd g (i) 0 := ⟨_, rfl⟩
      rw [← eg2] at hP hD
      have hP : va_P (dC, dI) vw_cls [(aA, .inr (2, [.long a1, .int 0, .ref aK, .ref aG, .ref aO])), (aK, .inl (cZ, 64, .inl g2))] H := hP
      have hD : va_D A [(aA, .inr (2, [.long a1, .int 0, .ref aK, .ref aG, .ref aO])), (aK, .inl (cZ, 64, .inl g2))] := hD
      obtain ⟨v_3, ev_3⟩ : ∃ y : Int32, y = xi + 1 := ⟨_, rfl⟩
      refine lv_iinc (v := v_3) (lv' := [(3, .int v_3), (0, .ref aA), (1, .long a1)]) hx hb d_Answers_open_25 hl (k := 2) rfl (by rw [ev_3]; rfl) (by decide) rfl (fun ls hl => ?_)
      refine lv_goto (tgt := 12) hx hb d_Answers_open_28 (by decide) ?_
      exact ih (i + 1) v_3 g2 hlti (by rw [ev_3, exi]; exact nI_1 i) (by rw [eg2, eg]; show _ = upd _ (0 + i) 0; rw [Nat.zero_add]) (by omega) H locs (hP.sub [0, 1] rfl) (hD.sub [0, 1] (by decide) rfl) hS ls (lv_sub hl [1, 2, 0] rfl)
set_option maxHeartbeats 4000000 in
set_option maxRecDepth 100000 in
/-- open -/
theorem k_op (l : Launch) (dC : Nat → ClassId) (dI : Nat → Nat → Nat) (sz : Nat) (cI : ClassId) (cZ : ClassId) (cQ : ClassId) (aA : Nat) (aK : Nat) (aG : Nat) (aO : Nat) (fd : Int64) (ct : Int32) (fK : Nat → Int32) (a1 : Int64)  : Met l y_Answers_open w_Answers_open ({ frames := 0, cells := 0, slots := 0, locals := 0 } : Room) (va_Pc [.ref aA, .long a1] (fun U => U.heap.size = sz ∧ va_P (dC, dI) vw_cls [(aA, .inr (2, [.long fd, .int ct, .ref aK, .ref aG, .ref aO])), (aK, .inl (cZ, 64, .inl fK))] U.heap ∧ g_K dC dI [(cI, .int), (cZ, .boolean), (cQ, (.object "SettingSearch$Answers"))] U ∧ va_D (fun _ => True) [(aA, .inr (2, [.long fd, .int ct, .ref aK, .ref aG, .ref aO])), (aK, .inl (cZ, 64, .inl fK))])) (va_Qv (fun (u : Int64 × Int32 × (Nat → Int32)) => u.1 = a1 ∧ u.2.1 = 0 ∧ u.2.2 = q_z fK 0 64) (fun (u : Int64 × Int32 × (Nat → Int32)) (t : State) => va_P (dC, dI) vw_cls [(aA, .inr (2, [.long u.1, .int u.2.1, .ref aK, .ref aG, .ref aO])), (aK, .inl (cZ, 64, .inl u.2.2))] t.heap ∧ va_D (va_A [(aA, .inr (2, [.long fd, .int ct, .ref aK, .ref aG, .ref aO])), (aK, .inl (cZ, 64, .inl fK))] sz) [(aA, .inr (2, [.long u.1, .int u.2.1, .ref aK, .ref aG, .ref aO])), (aK, .inl (cZ, 64, .inl u.2.2))]) (va_A [(aA, .inr (2, [.long fd, .int ct, .ref aK, .ref aG, .ref aO])), (aK, .inl (cZ, 64, .inl fK))] sz)) 0 0 (va_A [(aA, .inr (2, [.long fd, .int ct, .ref aK, .ref aG, .ref aO])), (aK, .inl (cZ, 64, .inl fK))] sz) := by
  refine Met.ofW (cc := b_Answers_open) (maxL := 4) (ret := none) (by decide) rfl ?_
  intro p e s m args below meth c s₁ B hml hv
  obtain ⟨rfl, hsz, hP, hKN, hD0⟩ := hv
  obtain ⟨hK, hN⟩ := id hKN
  have hx := B.exec
  have hb := B.bytes
  have hr := B.returns
  have hts0 := atoms_spec (ws := w_Answers_open) B.pre
  have hts : ∀ w ∈ lw_g, w.before _ s = true := fun w h => hts0 w (List.mem_cons_of_mem _ h)
  have hown : s.vm.findClass R_Answers = some m.cls := findClass_of_methodNamed B.named
  have hlocks := B.notSynchronized
  subst hsz
  have hD := hD0.self (sz := s.heap.size)
  generalize hAe : va_A [(aA, .inr (2, [.long fd, .int ct, .ref aK, .ref aG, .ref aO])), (aK, .inl (cZ, 64, .inl fK))] s.heap.size = A at hD ⊢
  have hA : ∀ q : Nat, s.heap.size ≤ q → A q := fun q h => by rw [← hAe]; exact Or.inr h
  have hP : va_P (dC, dI) vw_cls [(aA, .inr (2, [.long fd, .int ct, .ref aK, .ref aG, .ref aO])), (aK, .inl (cZ, 64, .inl fK))] s.heap := hP
  have hl := lv_entry ([.ref aA, .long a1]) (n := 4) (Nat.le_of_ble_eq_true rfl)
  rw [lg_entry_eq]
  generalize (lg_sl ([.ref aA, .long a1]) ++ List.replicate (4 - (lg_sl ([.ref aA, .long a1])).length) Slot.unset).toArray = ls at hl ⊢
  have hl : lv_has ls 4 [(0, .ref aA), (1, .long a1)] := hl
  refine gw_start (fun H locs hH hlocs => ?_)
  rw [← hH] at hP
  have hS : va_S A s.heap H locs := by rw [hH, hlocs]; exact va_S.rf
  refine lv_aload_n hx hb d_Answers_open_0 rfl (lv_at hl 0 rfl) ?_
  refine lv_lload_n hx hb d_Answers_open_1 rfl (lv_at hl 1 rfl) ?_
  refine va_put (D := (dC, dI)) (ci := 2) (v := .long a1) (ty := .long) (C := R_Answers) (T := T_Answers) (N := 5) hx hb hts in_Answers ty_Answers ty_Answers_ok nm_Answers hown hK hP hD hS 0 rfl rfl 0 (by decide) (hts _ tw_108) (fun _ h9 => h9) rfl (by decide +kernel) rfl rfl (Nat.le_of_ble_eq_true rfl) d_Answers_open_2 (fun H locs hP hD hS => ?_)
  have hP : va_P (dC, dI) vw_cls [(aA, .inr (2, [.long a1, .int ct, .ref aK, .ref aG, .ref aO])), (aK, .inl (cZ, 64, .inl fK))] H := hP
  have hD : va_D A [(aA, .inr (2, [.long a1, .int ct, .ref aK, .ref aG, .ref aO])), (aK, .inl (cZ, 64, .inl fK))] := hD
  refine lv_aload_n hx hb d_Answers_open_5 rfl (lv_at hl 0 rfl) ?_
  refine lv_iconst (v := 0) hx hb d_Answers_open_6 (by decide) ?_
  refine va_put (D := (dC, dI)) (ci := 2) (v := .int 0) (ty := .int) (C := R_Answers) (T := T_Answers) (N := 5) hx hb hts in_Answers ty_Answers ty_Answers_ok nm_Answers hown hK hP hD hS 0 rfl rfl 1 (by decide) (hts _ tw_111) (fun _ h9 => h9) rfl (by decide +kernel) rfl rfl (Nat.le_of_ble_eq_true rfl) d_Answers_open_7 (fun H locs hP hD hS => ?_)
  have hP : va_P (dC, dI) vw_cls [(aA, .inr (2, [.long a1, .int 0, .ref aK, .ref aG, .ref aO])), (aK, .inl (cZ, 64, .inl fK))] H := hP
  have hD : va_D A [(aA, .inr (2, [.long a1, .int 0, .ref aK, .ref aG, .ref aO])), (aK, .inl (cZ, 64, .inl fK))] := hD
  refine lv_iconst (v := 0) hx hb d_Answers_open_10 (by decide) ?_
  refine lv_istore_n (lv' := [(3, .int 0), (0, .ref aA), (1, .long a1)]) hx hb d_Answers_open_11 rfl hl (by decide) rfl (fun ls hl => ?_)
  refine L_op hx hb hml hown hts hA cI cZ cQ aA aK aG aO fd ct fK a1 hKN ?_ (64 - 0 + 1) 0 0 fK (Nat.zero_le _) rfl rfl (Nat.lt_succ_self _) H locs (hP.sub [0, 1] rfl) (hD.sub [0, 1] (by decide) rfl) hS ls (lv_sub hl [1, 2, 0] rfl)
  intro i xi g hi exi eg hendi H locs hP hD hS ls hl
  have hl : lv_has ls 4 [(0, .ref aA), (1, .long a1), (3, .int xi)] := hl
  have hP : va_P (dC, dI) vw_cls [(aA, .inr (2, [.long a1, .int 0, .ref aK, .ref aG, .ref aO])), (aK, .inl (cZ, 64, .inl g))] H := hP
  have hD : va_D A [(aA, .inr (2, [.long a1, .int 0, .ref aK, .ref aG, .ref aO])), (aK, .inl (cZ, 64, .inl g))] := hD
  have hP9 := hP.sub (ws' := [(aA, .inr (2, [.long a1, .int 0, .ref aK, .ref aG, .ref aO])), (aK, .inl (cZ, 64, .inl g))]) [0, 1] rfl
  have hD9 := hD.sub (ws' := [(aA, .inr (2, [.long a1, .int 0, .ref aK, .ref aG, .ref aO])), (aK, .inl (cZ, 64, .inl g))]) [0, 1] (by decide) rfl
  have hpost_1 : a1 = a1 ∧ (0 : Int32) = 0 ∧ g = q_z fK 0 64 := ⟨rfl, rfl, by rw [eg, hendi]⟩
  exact W.vret hx hb hr (fun t ht hW => ⟨⟨(a1, 0, g), rfl, hpost_1, by rw [ht]; exact hP9, hD9⟩, hS.F ht⟩) hS.2.2 d_Answers_open_31
set_option maxHeartbeats 4000000 in
set_option maxRecDepth 100000 in
theorem L_cr1 {p : Program} {l : Launch} {e : Env} {s : State} {m : MethodId} {args : Array Value} {below : List Frame} {meth : Method} {c : Code} {Q : State → Prop} {A : Nat → Prop} (hx : p.tables.exec = Jvm.exec) (hb : c.code = b_Answers_clearRow) (hml : c.maxLocals = 3) (hown : s.vm.findClass R_Answers = some m.cls) (hts : ∀ w ∈ lw_g, w.before args s = true) (hA : ∀ q, s.heap.size ≤ q → A q) {dC : Nat → ClassId} {dI : Nat → Nat → Nat} (cI : ClassId) (cZ : ClassId) (cQ : ClassId) (aA : Nat) (aK : Nat) (aG : Nat) (aO : Nat) (fd : Int64) (ct : Int32) (fG : Nat → Int32) (fO : Nat → Int32) (v1 : Int32) (jv : Nat)  (hv1 : v1 = nI jv) (hjv : jv < 64)  (hKN : g_K dC dI [(cI, .int), (cZ, .boolean), (cQ, (.object "SettingSearch$Answers"))] s)
    (kx_34 : ∀ (i : Nat) (xi : Int32) (g : Nat → Int32) (_ : i ≤ 9) (_ : xi = nI i) (_ : g = q_z fG (jv * 9) i) (_ : i = 9) (H : Heap) (locs : List Loc), va_P (dC, dI) vw_cls [(aA, .inr (2, [.long fd, .int ct, .ref aK, .ref aG, .ref aO])), (aG, .inl (cI, 576, .inl g)), (aO, .inl (cI, 320, .inl fO))] H → va_D A [(aA, .inr (2, [.long fd, .int ct, .ref aK, .ref aG, .ref aO])), (aG, .inl (cI, 576, .inl g)), (aO, .inl (cI, 320, .inl fO))] → va_S A s.heap H locs → ∀ (ls : Array Slot), lv_has ls 3 [(0, .ref aA), (1, .int v1), (2, .int xi)] → W p l e ({ frames := 1, cells := 0, slots := 0, locals := 20 } : Room) s m args below meth c H locs 0 0 Q (F0 m 34 ls [])) :
    ∀ (n : Nat) (i : Nat) (xi : Int32) (g : Nat → Int32) (_ : i ≤ 9) (_ : xi = nI i) (_ : g = q_z fG (jv * 9) i) (_ : 9 - i < n) (H : Heap) (locs : List Loc), va_P (dC, dI) vw_cls [(aA, .inr (2, [.long fd, .int ct, .ref aK, .ref aG, .ref aO])), (aG, .inl (cI, 576, .inl g)), (aO, .inl (cI, 320, .inl fO))] H → va_D A [(aA, .inr (2, [.long fd, .int ct, .ref aK, .ref aG, .ref aO])), (aG, .inl (cI, 576, .inl g)), (aO, .inl (cI, 320, .inl fO))] → va_S A s.heap H locs → ∀ (ls : Array Slot), lv_has ls 3 [(0, .ref aA), (1, .int v1), (2, .int xi)] → W p l e ({ frames := 1, cells := 0, slots := 0, locals := 20 } : Room) s m args below meth c H locs 0 0 Q (F0 m 10 ls []) := by
  obtain ⟨hK, hN⟩ := id hKN
  intro n
  induction n with
  | zero =>
    intro i xi g hi exi eg hm
    exact absurd hm (Nat.not_lt_zero _)
  | succ n ih =>
    intro i xi g hi exi eg hm H locs hP hD hS ls hl
    refine lv_iload_n hx hb d_Answers_clearRow_10 rfl (lv_at hl 2 rfl) ?_
    refine lv_bipush (v := 9) hx hb d_Answers_clearRow_11 (by decide) ?_
    refine lv_icmp_ge (tgt := 34) hx hb d_Answers_clearRow_13 (by decide) (fun c_1 => ?_) (fun c_1 => ?_)
    · skip
      have hendi := lp_ge (N := 9) c_1 exi rfl hi (by omega)
      exact kx_34 i xi g hi exi eg hendi H locs (hP.sub [0, 1, 2] rfl) (hD.sub [0, 1, 2] (by decide) rfl) hS ls (lv_sub hl [0, 1, 2] rfl)
    · skip
      have hlti := lp_lt (N := 9) c_1 exi rfl (by omega)
      refine lv_aload_n hx hb d_Answers_clearRow_16 rfl (lv_at hl 0 rfl) ?_
      refine va_get (D := (dC, dI)) (ci := 2) (v := .ref aG) (C := R_Answers) (T := T_Answers) (N := 5) hx hb hts in_Answers hown hK hP 0 rfl rfl 3 (by decide) (hts _ tw_114) (fun _ h9 => h9) rfl d_Answers_clearRow_17 ?_
      refine lv_iload_n hx hb d_Answers_clearRow_20 rfl (lv_at hl 1 rfl) ?_
      refine lv_bipush (v := 9) hx hb d_Answers_clearRow_21 (by decide) ?_
      refine lv_imul hx hb d_Answers_clearRow_23 ?_
      refine lv_topi (fun v_2 ev_2 => ?_)
      refine lv_iload_n hx hb d_Answers_clearRow_24 rfl (lv_at hl 2 rfl) ?_
      refine lv_iadd hx hb d_Answers_clearRow_25 ?_
      refine lv_topi (fun v_3 ev_3 => ?_)
      refine lv_iconst (v := 0) hx hb d_Answers_clearRow_26 (by decide) ?_
      have eh_4 : v_3 = nI (jv * 9 + i) := by simp only [ev_2, ev_3]; rw [hv1, exi, ix_m9]
      have bh_4 : jv * 9 + i < 576 := by omega
      have h_4 : vp_in v_3 576 := by rw [eh_4]; exact vp_in_nI bh_4 (by decide)
      have kh_4 : v_3.toNatClampNeg = jv * 9 + i := by rw [eh_4]; exact nI_clamp (by omega)
      refine va_iast hx hb hK hP hD hS 1 0 rfl rfl h_4 d_Answers_clearRow_27 (fun H locs hP hD hS => ?_)
      rw [kh_4] at hP hD
      obtain ⟨g2, eg2⟩ : ∃ y : Nat → Int32, y = upd g (jv * 9 + i) 0 := ⟨_, rfl⟩
      rw [← eg2] at hP hD
      have hP : va_P (dC, dI) vw_cls [(aA, .inr (2, [.long fd, .int ct, .ref aK, .ref aG, .ref aO])), (aG, .inl (cI, 576, .inl g2)), (aO, .inl (cI, 320, .inl fO))] H := hP
      have hD : va_D A [(aA, .inr (2, [.long fd, .int ct, .ref aK, .ref aG, .ref aO])), (aG, .inl (cI, 576, .inl g2)), (aO, .inl (cI, 320, .inl fO))] := hD
      obtain ⟨v_5, ev_5⟩ : ∃ y : Int32, y = xi + 1 := ⟨_, rfl⟩
      refine lv_iinc (v := v_5) (lv' := [(2, .int v_5), (0, .ref aA), (1, .int v1)]) hx hb d_Answers_clearRow_28 hl (k := 2) rfl (by rw [ev_5]; rfl) (by decide) rfl (fun ls hl => ?_)
      refine lv_goto (tgt := 10) hx hb d_Answers_clearRow_31 (by decide) ?_
      exact ih (i + 1) v_5 g2 hlti (by rw [ev_5, exi]; exact nI_1 i) (by rw [eg2, eg]; rfl) (by omega) H locs (hP.sub [0, 1, 2] rfl) (hD.sub [0, 1, 2] (by decide) rfl) hS ls (lv_sub hl [1, 2, 0] rfl)
set_option maxHeartbeats 4000000 in
set_option maxRecDepth 100000 in
theorem L_cr2 {p : Program} {l : Launch} {e : Env} {s : State} {m : MethodId} {args : Array Value} {below : List Frame} {meth : Method} {c : Code} {Q : State → Prop} {A : Nat → Prop} (hx : p.tables.exec = Jvm.exec) (hb : c.code = b_Answers_clearRow) (hml : c.maxLocals = 3) (hown : s.vm.findClass R_Answers = some m.cls) (hts : ∀ w ∈ lw_g, w.before args s = true) (hA : ∀ q, s.heap.size ≤ q → A q) {dC : Nat → ClassId} {dI : Nat → Nat → Nat} (cI : ClassId) (cZ : ClassId) (cQ : ClassId) (aA : Nat) (aK : Nat) (aG : Nat) (aO : Nat) (fd : Int64) (ct : Int32) (fG : Nat → Int32) (fO : Nat → Int32) (v1 : Int32) (jv : Nat) (g : Nat → Int32) (hv1 : v1 = nI jv) (hjv : jv < 64)  (hKN : g_K dC dI [(cI, .int), (cZ, .boolean), (cQ, (.object "SettingSearch$Answers"))] s)
    (kx_58 : ∀ (i : Nat) (xi : Int32) (o : Nat → Int32) (_ : i ≤ 5) (_ : xi = nI i) (_ : o = q_z fO (jv * 5) i) (_ : i = 5) (H : Heap) (locs : List Loc), va_P (dC, dI) vw_cls [(aA, .inr (2, [.long fd, .int ct, .ref aK, .ref aG, .ref aO])), (aG, .inl (cI, 576, .inl g)), (aO, .inl (cI, 320, .inl o))] H → va_D A [(aA, .inr (2, [.long fd, .int ct, .ref aK, .ref aG, .ref aO])), (aG, .inl (cI, 576, .inl g)), (aO, .inl (cI, 320, .inl o))] → va_S A s.heap H locs → ∀ (ls : Array Slot), lv_has ls 3 [(0, .ref aA), (1, .int v1), (2, .int xi)] → W p l e ({ frames := 1, cells := 0, slots := 0, locals := 20 } : Room) s m args below meth c H locs 0 0 Q (F0 m 58 ls [])) :
    ∀ (n : Nat) (i : Nat) (xi : Int32) (o : Nat → Int32) (_ : i ≤ 5) (_ : xi = nI i) (_ : o = q_z fO (jv * 5) i) (_ : 5 - i < n) (H : Heap) (locs : List Loc), va_P (dC, dI) vw_cls [(aA, .inr (2, [.long fd, .int ct, .ref aK, .ref aG, .ref aO])), (aG, .inl (cI, 576, .inl g)), (aO, .inl (cI, 320, .inl o))] H → va_D A [(aA, .inr (2, [.long fd, .int ct, .ref aK, .ref aG, .ref aO])), (aG, .inl (cI, 576, .inl g)), (aO, .inl (cI, 320, .inl o))] → va_S A s.heap H locs → ∀ (ls : Array Slot), lv_has ls 3 [(0, .ref aA), (1, .int v1), (2, .int xi)] → W p l e ({ frames := 1, cells := 0, slots := 0, locals := 20 } : Room) s m args below meth c H locs 0 0 Q (F0 m 36 ls []) := by
  obtain ⟨hK, hN⟩ := id hKN
  intro n
  induction n with
  | zero =>
    intro i xi o hi exi eo hm
    exact absurd hm (Nat.not_lt_zero _)
  | succ n ih =>
    intro i xi o hi exi eo hm H locs hP hD hS ls hl
    refine lv_iload_n hx hb d_Answers_clearRow_36 rfl (lv_at hl 2 rfl) ?_
    refine lv_iconst (v := 5) hx hb d_Answers_clearRow_37 (by decide) ?_
    refine lv_icmp_ge (tgt := 58) hx hb d_Answers_clearRow_38 (by decide) (fun c_1 => ?_) (fun c_1 => ?_)
    · skip
      have hendi := lp_ge (N := 5) c_1 exi rfl hi (by omega)
      exact kx_58 i xi o hi exi eo hendi H locs (hP.sub [0, 1, 2] rfl) (hD.sub [0, 1, 2] (by decide) rfl) hS ls (lv_sub hl [0, 1, 2] rfl)
    · skip
      have hlti := lp_lt (N := 5) c_1 exi rfl (by omega)
      refine lv_aload_n hx hb d_Answers_clearRow_41 rfl (lv_at hl 0 rfl) ?_
      refine va_get (D := (dC, dI)) (ci := 2) (v := .ref aO) (C := R_Answers) (T := T_Answers) (N := 5) hx hb hts in_Answers hown hK hP 0 rfl rfl 4 (by decide) (hts _ tw_115) (fun _ h9 => h9) rfl d_Answers_clearRow_42 ?_
      refine lv_iload_n hx hb d_Answers_clearRow_45 rfl (lv_at hl 1 rfl) ?_
      refine lv_iconst (v := 5) hx hb d_Answers_clearRow_46 (by decide) ?_
      refine lv_imul hx hb d_Answers_clearRow_47 ?_
      refine lv_topi (fun v_2 ev_2 => ?_)
      refine lv_iload_n hx hb d_Answers_clearRow_48 rfl (lv_at hl 2 rfl) ?_
      refine lv_iadd hx hb d_Answers_clearRow_49 ?_
      refine lv_topi (fun v_3 ev_3 => ?_)
      refine lv_iconst (v := 0) hx hb d_Answers_clearRow_50 (by decide) ?_
      have eh_4 : v_3 = nI (jv * 5 + i) := by simp only [ev_2, ev_3]; rw [hv1, exi, ix_m5]
      have bh_4 : jv * 5 + i < 320 := by omega
      have h_4 : vp_in v_3 320 := by rw [eh_4]; exact vp_in_nI bh_4 (by decide)
      have kh_4 : v_3.toNatClampNeg = jv * 5 + i := by rw [eh_4]; exact nI_clamp (by omega)
      refine va_iast hx hb hK hP hD hS 2 0 rfl rfl h_4 d_Answers_clearRow_51 (fun H locs hP hD hS => ?_)
      rw [kh_4] at hP hD
      obtain ⟨o2, eo2⟩ : ∃ y : Nat → Int32, y = upd o (jv * 5 + i) 0 := ⟨_, rfl⟩
      rw [← eo2] at hP hD
      have hP : va_P (dC, dI) vw_cls [(aA, .inr (2, [.long fd, .int ct, .ref aK, .ref aG, .ref aO])), (aG, .inl (cI, 576, .inl g)), (aO, .inl (cI, 320, .inl o2))] H := hP
      have hD : va_D A [(aA, .inr (2, [.long fd, .int ct, .ref aK, .ref aG, .ref aO])), (aG, .inl (cI, 576, .inl g)), (aO, .inl (cI, 320, .inl o2))] := hD
      obtain ⟨v_5, ev_5⟩ : ∃ y : Int32, y = xi + 1 := ⟨_, rfl⟩
      refine lv_iinc (v := v_5) (lv' := [(2, .int v_5), (0, .ref aA), (1, .int v1)]) hx hb d_Answers_clearRow_52 hl (k := 2) rfl (by rw [ev_5]; rfl) (by decide) rfl (fun ls hl => ?_)
      refine lv_goto (tgt := 36) hx hb d_Answers_clearRow_55 (by decide) ?_
      exact ih (i + 1) v_5 o2 hlti (by rw [ev_5, exi]; exact nI_1 i) (by rw [eo2, eo]; rfl) (by omega) H locs (hP.sub [0, 1, 2] rfl) (hD.sub [0, 1, 2] (by decide) rfl) hS ls (lv_sub hl [1, 2, 0] rfl)
set_option maxHeartbeats 4000000 in
set_option maxRecDepth 100000 in
/-- clearRow -/
theorem k_cr (l : Launch) (dC : Nat → ClassId) (dI : Nat → Nat → Nat) (sz : Nat) (cI : ClassId) (cZ : ClassId) (cQ : ClassId) (aA : Nat) (aK : Nat) (aG : Nat) (aO : Nat) (fd : Int64) (ct : Int32) (fG : Nat → Int32) (fO : Nat → Int32) (v1 : Int32) (jv : Nat) (hv1 : v1 = nI jv) (hjv : jv < 64) : Met l y_Answers_clearRow w_Answers_clearRow ({ frames := 1, cells := 0, slots := 0, locals := 20 } : Room) (va_Pc [.ref aA, .int v1] (fun U => U.heap.size = sz ∧ va_P (dC, dI) vw_cls [(aA, .inr (2, [.long fd, .int ct, .ref aK, .ref aG, .ref aO])), (aG, .inl (cI, 576, .inl fG)), (aO, .inl (cI, 320, .inl fO))] U.heap ∧ g_K dC dI [(cI, .int), (cZ, .boolean), (cQ, (.object "SettingSearch$Answers"))] U ∧ va_D (fun _ => True) [(aA, .inr (2, [.long fd, .int ct, .ref aK, .ref aG, .ref aO])), (aG, .inl (cI, 576, .inl fG)), (aO, .inl (cI, 320, .inl fO))])) (va_Qv (fun (u : (Nat → Int32) × (Nat → Int32)) => u.1 = q_z fG (jv * 9) 9 ∧ u.2 = q_z fO (jv * 5) 5) (fun (u : (Nat → Int32) × (Nat → Int32)) (t : State) => va_P (dC, dI) vw_cls [(aA, .inr (2, [.long fd, .int ct, .ref aK, .ref aG, .ref aO])), (aG, .inl (cI, 576, .inl u.1)), (aO, .inl (cI, 320, .inl u.2))] t.heap ∧ va_D (va_A [(aA, .inr (2, [.long fd, .int ct, .ref aK, .ref aG, .ref aO])), (aG, .inl (cI, 576, .inl fG)), (aO, .inl (cI, 320, .inl fO))] sz) [(aA, .inr (2, [.long fd, .int ct, .ref aK, .ref aG, .ref aO])), (aG, .inl (cI, 576, .inl u.1)), (aO, .inl (cI, 320, .inl u.2))]) (va_A [(aA, .inr (2, [.long fd, .int ct, .ref aK, .ref aG, .ref aO])), (aG, .inl (cI, 576, .inl fG)), (aO, .inl (cI, 320, .inl fO))] sz)) 0 0 (va_A [(aA, .inr (2, [.long fd, .int ct, .ref aK, .ref aG, .ref aO])), (aG, .inl (cI, 576, .inl fG)), (aO, .inl (cI, 320, .inl fO))] sz) := by
  refine Met.ofW (cc := b_Answers_clearRow) (maxL := 3) (ret := none) (by decide) rfl ?_
  intro p e s m args below meth c s₁ B hml hv
  obtain ⟨rfl, hsz, hP, hKN, hD0⟩ := hv
  obtain ⟨hK, hN⟩ := id hKN
  have hx := B.exec
  have hb := B.bytes
  have hr := B.returns
  have hts0 := atoms_spec (ws := w_Answers_clearRow) B.pre
  have hts : ∀ w ∈ lw_g, w.before _ s = true := fun w h => hts0 w (List.mem_cons_of_mem _ h)
  have hown : s.vm.findClass R_Answers = some m.cls := findClass_of_methodNamed B.named
  have hlocks := B.notSynchronized
  subst hsz
  have hD := hD0.self (sz := s.heap.size)
  generalize hAe : va_A [(aA, .inr (2, [.long fd, .int ct, .ref aK, .ref aG, .ref aO])), (aG, .inl (cI, 576, .inl fG)), (aO, .inl (cI, 320, .inl fO))] s.heap.size = A at hD ⊢
  have hA : ∀ q : Nat, s.heap.size ≤ q → A q := fun q h => by rw [← hAe]; exact Or.inr h
  have hP : va_P (dC, dI) vw_cls [(aA, .inr (2, [.long fd, .int ct, .ref aK, .ref aG, .ref aO])), (aG, .inl (cI, 576, .inl fG)), (aO, .inl (cI, 320, .inl fO))] s.heap := hP
  have hl := lv_entry ([.ref aA, .int v1]) (n := 3) (Nat.le_of_ble_eq_true rfl)
  rw [lg_entry_eq]
  generalize (lg_sl ([.ref aA, .int v1]) ++ List.replicate (3 - (lg_sl ([.ref aA, .int v1])).length) Slot.unset).toArray = ls at hl ⊢
  have hl : lv_has ls 3 [(0, .ref aA), (1, .int v1)] := hl
  refine gw_start (fun H locs hH hlocs => ?_)
  rw [← hH] at hP
  have hS : va_S A s.heap H locs := by rw [hH, hlocs]; exact va_S.rf
  refine lv_iload_n hx hb d_Answers_clearRow_0 rfl (lv_at hl 1 rfl) ?_
  have hPc := hP.sub (ws' := []) [] rfl
  have hDc := hD.sub (ws' := []) [] (by decide) rfl
  have hFc := va_free (wc := []) hD hS hA [] rfl
  refine va_calli (va_runS (As := [.int v1]) (rest := []) ⟨hx, hb, hml, hown, hts⟩ (k_hr l dC dI H.size cI cZ cQ v1 ) ⟨(callB_of 1 hts (ga_all tw_279) rfl rfl rfl (hts _ tw_27) (hts _ tw_277) (by decide +kernel) ⟨Nat.le_of_ble_eq_true rfl, Nat.le_of_ble_eq_true rfl⟩), hts _ tw_278⟩ ⟨fun a U g mk q => by obtain ⟨q0, q1, qP, qK, qD⟩ := q; exact ⟨q0, q1, qP, g_K.same (u := U) (U := U.calling g mk a) rfl qK, qD⟩, fun U hU hW => ⟨rfl, by rw [hU], by rw [hU]; exact hPc, g_K.warm hW hKN, hDc.weaken (fun _ _ _ _ => trivial)⟩⟩ rfl rfl hl.1 rfl (lv_room (Nat.le_of_ble_eq_true rfl)) d_Answers_clearRow_1 ⟨Nat.le_of_ble_eq_true rfl, Nat.le_of_ble_eq_true rfl⟩) hS (fun q _ h => hFc q h) hFc (fun r_1 u t H1 locs htt hvm hw_2 hBB hzz hkk hS => ?_)
  have hw_2 : r_1 = q_hr v1 := hw_2
  obtain ⟨hPP, hDD⟩ := hBB
  rw [htt] at hPP
  have hPP : va_P (dC, dI) vw_cls [] H1 := hPP
  have hDD : va_D (va_A [] H.size) [] := hDD
  obtain ⟨hP, hD⟩ := va_join (wr := [(aA, .inr (2, [.long fd, .int ct, .ref aK, .ref aG, .ref aO])), (aG, .inl (cI, 576, .inl fG)), (aO, .inl (cI, 320, .inl fO))]) (w1 := []) hP hD [] [0, 1, 2] rfl rfl (by decide) (by decide) hkk hFc hPP hDD
  generalize H1 = H at hP hS ⊢
  have hP : va_P (dC, dI) vw_cls [(aA, .inr (2, [.long fd, .int ct, .ref aK, .ref aG, .ref aO])), (aG, .inl (cI, 576, .inl fG)), (aO, .inl (cI, 320, .inl fO))] H := hP
  have hD : va_D A [(aA, .inr (2, [.long fd, .int ct, .ref aK, .ref aG, .ref aO])), (aG, .inl (cI, 576, .inl fG)), (aO, .inl (cI, 320, .inl fO))] := hD
  refine lv_if_ne (tgt := 8) hx hb d_Answers_clearRow_4 (by decide) (fun c_3 => ?_) (fun c_3 => ?_)
  · skip
    refine lv_iconst (v := 0) hx hb d_Answers_clearRow_8 (by decide) ?_
    refine lv_istore_n (lv' := [(2, .int 0), (0, .ref aA), (1, .int v1)]) hx hb d_Answers_clearRow_9 rfl hl (by decide) rfl (fun ls hl => ?_)
    refine L_cr1 hx hb hml hown hts hA cI cZ cQ aA aK aG aO fd ct fG fO v1 jv hv1 hjv hKN ?_ (9 - 0 + 1) 0 0 fG (Nat.zero_le _) rfl rfl (Nat.lt_succ_self _) H locs (hP.sub [0, 1, 2] rfl) (hD.sub [0, 1, 2] (by decide) rfl) hS ls (lv_sub hl [1, 2, 0] rfl)
    intro i xi g hi exi eg hendi H locs hP hD hS ls hl
    have hl : lv_has ls 3 [(0, .ref aA), (1, .int v1), (2, .int xi)] := hl
    have hP : va_P (dC, dI) vw_cls [(aA, .inr (2, [.long fd, .int ct, .ref aK, .ref aG, .ref aO])), (aG, .inl (cI, 576, .inl g)), (aO, .inl (cI, 320, .inl fO))] H := hP
    have hD : va_D A [(aA, .inr (2, [.long fd, .int ct, .ref aK, .ref aG, .ref aO])), (aG, .inl (cI, 576, .inl g)), (aO, .inl (cI, 320, .inl fO))] := hD
    have hg9 : g = q_z fG (jv * 9) 9 := by rw [eg, hendi]
    refine lv_iconst (v := 0) hx hb d_Answers_clearRow_34 (by decide) ?_
    refine lv_istore_n (lv' := [(2, .int 0), (0, .ref aA), (1, .int v1)]) hx hb d_Answers_clearRow_35 rfl hl (by decide) rfl (fun ls hl => ?_)
    refine L_cr2 hx hb hml hown hts hA cI cZ cQ aA aK aG aO fd ct fG fO v1 jv g hv1 hjv hKN ?_ (5 - 0 + 1) 0 0 fO (Nat.zero_le _) rfl rfl (Nat.lt_succ_self _) H locs (hP.sub [0, 1, 2] rfl) (hD.sub [0, 1, 2] (by decide) rfl) hS ls (lv_sub hl [1, 2, 0] rfl)
    intro i xi o hi exi eo hendi H locs hP hD hS ls hl
    have hl : lv_has ls 3 [(0, .ref aA), (1, .int v1), (2, .int xi)] := hl
    have hP : va_P (dC, dI) vw_cls [(aA, .inr (2, [.long fd, .int ct, .ref aK, .ref aG, .ref aO])), (aG, .inl (cI, 576, .inl g)), (aO, .inl (cI, 320, .inl o))] H := hP
    have hD : va_D A [(aA, .inr (2, [.long fd, .int ct, .ref aK, .ref aG, .ref aO])), (aG, .inl (cI, 576, .inl g)), (aO, .inl (cI, 320, .inl o))] := hD
    have hP9 := hP.sub (ws' := [(aA, .inr (2, [.long fd, .int ct, .ref aK, .ref aG, .ref aO])), (aG, .inl (cI, 576, .inl g)), (aO, .inl (cI, 320, .inl o))]) [0, 1, 2] rfl
    have hD9 := hD.sub (ws' := [(aA, .inr (2, [.long fd, .int ct, .ref aK, .ref aG, .ref aO])), (aG, .inl (cI, 576, .inl g)), (aO, .inl (cI, 320, .inl o))]) [0, 1, 2] (by decide) rfl
    have hpost_4 : g = q_z fG (jv * 9) 9 ∧ o = q_z fO (jv * 5) 5 := ⟨hg9, by rw [eo, hendi]⟩
    exact W.vret hx hb hr (fun t ht hW => ⟨⟨(g, o), rfl, hpost_4, by rw [ht]; exact hP9, hD9⟩, hS.F ht⟩) hS.2.2 d_Answers_clearRow_58
  · skip
    exact absurd (c_3 : _ = _) (by rw [hw_2, q_hr_in hv1 hjv]; decide)
