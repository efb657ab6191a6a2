set_option maxHeartbeats 4000000 in
set_option maxRecDepth 100000 in
/-- has -/
theorem k_has (l : Launch) (dC : Nat → ClassId) (dI : Nat → Nat → Nat) (sz : Nat) (cI : ClassId) (cZ : ClassId) (cQ : ClassId) (aM : Nat) (aMS : Nat) (aMC : Nat) (aMT : Nat) (cnt : Int32) (vec : Int32) (k1 : Int32)  : Met l y_Machines_has w_Machines_has ({ frames := 0, cells := 0, slots := 0, locals := 0 } : Room) (va_Pc [.ref aM, .int k1] (fun U => U.heap.size = sz ∧ va_P (dC, dI) vw_cls [(aM, .inr (4, [.int cnt, .int vec, .ref aMS, .ref aMC, .ref aMT]))] U.heap ∧ g_K dC dI [(cI, .int), (cZ, .boolean), (cQ, (.object "SettingSearch$Answers"))] U ∧ va_D (fun _ => True) [(aM, .inr (4, [.int cnt, .int vec, .ref aMS, .ref aMC, .ref aMT]))])) (va_Qi (fun (r : Int32) (u : Unit) => r = q_has cnt k1) (fun (u : Unit) (t : State) => va_P (dC, dI) vw_cls [(aM, .inr (4, [.int cnt, .int vec, .ref aMS, .ref aMC, .ref aMT]))] t.heap ∧ va_D (va_A [(aM, .inr (4, [.int cnt, .int vec, .ref aMS, .ref aMC, .ref aMT]))] sz) [(aM, .inr (4, [.int cnt, .int vec, .ref aMS, .ref aMC, .ref aMT]))]) (va_A [(aM, .inr (4, [.int cnt, .int vec, .ref aMS, .ref aMC, .ref aMT]))] sz)) 0 0 (va_A [(aM, .inr (4, [.int cnt, .int vec, .ref aMS, .ref aMC, .ref aMT]))] sz) := by
  refine Met.ofW (cc := b_Machines_has) (maxL := 2) (ret := (some .boolean)) (by decide) rfl ?_
  intro p e s m args below meth c s₁ B hml hv
  obtain ⟨rfl, hsz, hP, hKN, hD0⟩ := hv
  obtain ⟨hK, hN⟩ := id hKN
  have hx := B.exec
  have hb := B.bytes
  have hr := B.returns
  have hts0 := atoms_spec (ws := w_Machines_has) B.pre
  have hts : ∀ w ∈ lw_g, w.before _ s = true := fun w h => hts0 w (List.mem_cons_of_mem _ h)
  have hown : s.vm.findClass R_Machines = some m.cls := findClass_of_methodNamed B.named
  have hlocks := B.notSynchronized
  subst hsz
  have hD := hD0.self (sz := s.heap.size)
  generalize hAe : va_A [(aM, .inr (4, [.int cnt, .int vec, .ref aMS, .ref aMC, .ref aMT]))] s.heap.size = A at hD ⊢
  have hA : ∀ q : Nat, s.heap.size ≤ q → A q := fun q h => by rw [← hAe]; exact Or.inr h
  have hP : va_P (dC, dI) vw_cls [(aM, .inr (4, [.int cnt, .int vec, .ref aMS, .ref aMC, .ref aMT]))] s.heap := hP
  have hl := lv_entry ([.ref aM, .int k1]) (n := 2) (Nat.le_of_ble_eq_true rfl)
  rw [lg_entry_eq]
  generalize (lg_sl ([.ref aM, .int k1]) ++ List.replicate (2 - (lg_sl ([.ref aM, .int k1])).length) Slot.unset).toArray = ls at hl ⊢
  have hl : lv_has ls 2 [(0, .ref aM), (1, .int k1)] := hl
  refine gw_start (fun H locs hH hlocs => ?_)
  rw [← hH] at hP
  have hS : va_S A s.heap H locs := by rw [hH, hlocs]; exact va_S.rf
  refine lv_iload_n hx hb d_Machines_has_0 rfl (lv_at hl 1 rfl) ?_
  refine lv_if_lt (tgt := 16) hx hb d_Machines_has_1 (by decide) (fun c_1 => ?_) (fun c_1 => ?_)
  · skip
    refine lv_iconst (v := 0) hx hb d_Machines_has_16 (by decide) ?_
    have hP9 := hP.sub (ws' := [(aM, .inr (4, [.int cnt, .int vec, .ref aMS, .ref aMC, .ref aMT]))]) [0] rfl
    have hD9 := hD.sub (ws' := [(aM, .inr (4, [.int cnt, .int vec, .ref aMS, .ref aMC, .ref aMT]))]) [0] (by decide) rfl
    have hpost_2 : 0 = q_has cnt k1 := by simp [q_has, c_1]
    exact W.zret (v := 0) hx hb hr (rfl) (fun t ht hW => ⟨⟨0, (), rfl, hpost_2, by rw [ht]; exact hP9, hD9⟩, hS.F ht⟩) hS.2.2 d_Machines_has_17
  · skip
    refine lv_iload_n hx hb d_Machines_has_4 rfl (lv_at hl 1 rfl) ?_
    refine lv_aload_n hx hb d_Machines_has_5 rfl (lv_at hl 0 rfl) ?_
    refine va_get (D := (dC, dI)) (ci := 4) (v := .int cnt) (C := R_Machines) (T := T_Machines) (N := 5) hx hb hts in_Machines hown hK hP 0 rfl rfl 0 (by decide) (hts _ tw_46) (fun _ h9 => h9) rfl d_Machines_has_6 ?_
    refine lv_icmp_ge (tgt := 16) hx hb d_Machines_has_9 (by decide) (fun c_3 => ?_) (fun c_3 => ?_)
    · skip
      refine lv_iconst (v := 0) hx hb d_Machines_has_16 (by decide) ?_
      have hP9 := hP.sub (ws' := [(aM, .inr (4, [.int cnt, .int vec, .ref aMS, .ref aMC, .ref aMT]))]) [0] rfl
      have hD9 := hD.sub (ws' := [(aM, .inr (4, [.int cnt, .int vec, .ref aMS, .ref aMC, .ref aMT]))]) [0] (by decide) rfl
      have hpost_4 : 0 = q_has cnt k1 := by simp [q_has, c_1, c_3]
      exact W.zret (v := 0) hx hb hr (rfl) (fun t ht hW => ⟨⟨0, (), rfl, hpost_4, by rw [ht]; exact hP9, hD9⟩, hS.F ht⟩) hS.2.2 d_Machines_has_17
    · skip
      refine lv_iconst (v := 1) hx hb d_Machines_has_12 (by decide) ?_
      refine lv_goto (tgt := 17) hx hb d_Machines_has_13 (by decide) ?_
      have hP9 := hP.sub (ws' := [(aM, .inr (4, [.int cnt, .int vec, .ref aMS, .ref aMC, .ref aMT]))]) [0] rfl
      have hD9 := hD.sub (ws' := [(aM, .inr (4, [.int cnt, .int vec, .ref aMS, .ref aMC, .ref aMT]))]) [0] (by decide) rfl
      have hpost_5 : 1 = q_has cnt k1 := by simp [q_has, c_1, c_3]
      exact W.zret (v := 1) hx hb hr (rfl) (fun t ht hW => ⟨⟨1, (), rfl, hpost_5, by rw [ht]; exact hP9, hD9⟩, hS.F ht⟩) hS.2.2 d_Machines_has_17
theorem q_has_ne {r cnt k : Int32} (h : r = q_has cnt k) (h0 : ¬ r = 0) : ¬ k < 0 ∧ ¬ cnt ≤ k := by
  unfold q_has at h
  by_cases h1 : k < 0
  · simp [h1] at h; exact absurd h h0
  · by_cases h2 : cnt ≤ k
    · simp [h1, h2] at h; exact absurd h h0
    · exact ⟨h1, h2⟩
theorem q_has_eq {r cnt k : Int32} (h : r = q_has cnt k) (h0 : r = 0) : k < 0 ∨ cnt ≤ k := by
  unfold q_has at h
  by_cases h1 : k < 0
  · exact Or.inl h1
  · by_cases h2 : cnt ≤ k
    · exact Or.inr h2
    · simp [h1, h2] at h; rw [h] at h0; exact absurd h0 (by decide)
theorem q_sin_k {cnt vec v k : Int32} {fT : Nat → Int32} (h0 : ¬ v < 0) (h1 : ¬ vec ≤ v) (hk : k < 0 ∨ cnt ≤ k) : q_sin cnt vec fT v k = -1 := by
  by_cases h2 : k < 0
  · simp [q_sin, h0, h1, h2]
  · rcases hk with h | h
    · exact absurd h h2
    · simp [q_sin, h0, h1, h2, h]
set_option maxHeartbeats 4000000 in
set_option maxRecDepth 100000 in
/-- settingIn -/
theorem k_sin (l : Launch) (dC : Nat → ClassId) (dI : Nat → Nat → Nat) (sz : Nat) (cI : ClassId) (cZ : ClassId) (cQ : ClassId) (aM : Nat) (aMS : Nat) (aMC : Nat) (aMT : Nat) (cnt : Int32) (vec : Int32) (fT : Nat → Int32) (v1 : Int32) (k1 : Int32) (nc : Nat) (nv : Nat) (hcnt : cnt = nI nc) (hvec : vec = nI nv) (hnc : nc ≤ 5) (hnv : nv ≤ 64) : Met l y_Machines_settingIn w_Machines_settingIn ({ frames := 1, cells := 0, slots := 0, locals := 21 } : Room) (va_Pc [.ref aM, .int v1, .int k1] (fun U => U.heap.size = sz ∧ va_P (dC, dI) vw_cls [(aM, .inr (4, [.int cnt, .int vec, .ref aMS, .ref aMC, .ref aMT])), (aMT, .inl (cI, 320, .inl fT))] U.heap ∧ g_K dC dI [(cI, .int), (cZ, .boolean), (cQ, (.object "SettingSearch$Answers"))] U ∧ va_D (fun _ => True) [(aM, .inr (4, [.int cnt, .int vec, .ref aMS, .ref aMC, .ref aMT])), (aMT, .inl (cI, 320, .inl fT))])) (va_Qi (fun (r : Int32) (u : Unit) => r = q_sin cnt vec fT v1 k1) (fun (u : Unit) (t : State) => va_P (dC, dI) vw_cls [(aM, .inr (4, [.int cnt, .int vec, .ref aMS, .ref aMC, .ref aMT])), (aMT, .inl (cI, 320, .inl fT))] t.heap ∧ va_D (va_A [(aM, .inr (4, [.int cnt, .int vec, .ref aMS, .ref aMC, .ref aMT])), (aMT, .inl (cI, 320, .inl fT))] sz) [(aM, .inr (4, [.int cnt, .int vec, .ref aMS, .ref aMC, .ref aMT])), (aMT, .inl (cI, 320, .inl fT))]) (va_A [(aM, .inr (4, [.int cnt, .int vec, .ref aMS, .ref aMC, .ref aMT])), (aMT, .inl (cI, 320, .inl fT))] sz)) 0 0 (va_A [(aM, .inr (4, [.int cnt, .int vec, .ref aMS, .ref aMC, .ref aMT])), (aMT, .inl (cI, 320, .inl fT))] sz) := by
  refine Met.ofW (cc := b_Machines_settingIn) (maxL := 3) (ret := (some .int)) (by decide) rfl ?_
  intro p e s m args below meth c s₁ B hml hv
  obtain ⟨rfl, hsz, hP, hKN, hD0⟩ := hv
  obtain ⟨hK, hN⟩ := id hKN
  have hx := B.exec
  have hb := B.bytes
  have hr := B.returns
  have hts0 := atoms_spec (ws := w_Machines_settingIn) B.pre
  have hts : ∀ w ∈ lw_g, w.before _ s = true := fun w h => hts0 w (List.mem_cons_of_mem _ h)
  have hown : s.vm.findClass R_Machines = some m.cls := findClass_of_methodNamed B.named
  have hlocks := B.notSynchronized
  subst hsz
  have hD := hD0.self (sz := s.heap.size)
  generalize hAe : va_A [(aM, .inr (4, [.int cnt, .int vec, .ref aMS, .ref aMC, .ref aMT])), (aMT, .inl (cI, 320, .inl fT))] s.heap.size = A at hD ⊢
  have hA : ∀ q : Nat, s.heap.size ≤ q → A q := fun q h => by rw [← hAe]; exact Or.inr h
  have hP : va_P (dC, dI) vw_cls [(aM, .inr (4, [.int cnt, .int vec, .ref aMS, .ref aMC, .ref aMT])), (aMT, .inl (cI, 320, .inl fT))] s.heap := hP
  have hl := lv_entry ([.ref aM, .int v1, .int k1]) (n := 3) (Nat.le_of_ble_eq_true rfl)
  rw [lg_entry_eq]
  generalize (lg_sl ([.ref aM, .int v1, .int k1]) ++ List.replicate (3 - (lg_sl ([.ref aM, .int v1, .int k1])).length) Slot.unset).toArray = ls at hl ⊢
  have hl : lv_has ls 3 [(0, .ref aM), (1, .int v1), (2, .int k1)] := hl
  refine gw_start (fun H locs hH hlocs => ?_)
  rw [← hH] at hP
  have hS : va_S A s.heap H locs := by rw [hH, hlocs]; exact va_S.rf
  refine lv_iload_n hx hb d_Machines_settingIn_0 rfl (lv_at hl 1 rfl) ?_
  refine lv_if_lt (tgt := 20) hx hb d_Machines_settingIn_1 (by decide) (fun c_1 => ?_) (fun c_1 => ?_)
  · skip
    refine lv_iconst (v := (-1)) hx hb d_Machines_settingIn_20 (by decide) ?_
    have hP9 := hP.sub (ws' := [(aM, .inr (4, [.int cnt, .int vec, .ref aMS, .ref aMC, .ref aMT])), (aMT, .inl (cI, 320, .inl fT))]) [0, 1] rfl
    have hD9 := hD.sub (ws' := [(aM, .inr (4, [.int cnt, .int vec, .ref aMS, .ref aMC, .ref aMT])), (aMT, .inl (cI, 320, .inl fT))]) [0, 1] (by decide) rfl
    have hpost_2 : (-1) = q_sin cnt vec fT v1 k1 := by first | (rw [q_sin_k cv0 cv1 ck]) | simp [q_sin, c_1]
    exact W.iret (v := (-1)) hx hb hr (fun t ht hW => ⟨⟨(-1), (), rfl, hpost_2, by rw [ht]; exact hP9, hD9⟩, hS.F ht⟩) hS.2.2 d_Machines_settingIn_21
  · skip
    have cv0 := c_1
    refine lv_iload_n hx hb d_Machines_settingIn_4 rfl (lv_at hl 1 rfl) ?_
    refine lv_aload_n hx hb d_Machines_settingIn_5 rfl (lv_at hl 0 rfl) ?_
    refine va_get (D := (dC, dI)) (ci := 4) (v := .int vec) (C := R_Machines) (T := T_Machines) (N := 5) hx hb hts in_Machines hown hK hP 0 rfl rfl 1 (by decide) (hts _ tw_49) (fun _ h9 => h9) rfl d_Machines_settingIn_6 ?_
    refine lv_icmp_ge (tgt := 20) hx hb d_Machines_settingIn_9 (by decide) (fun c_3 => ?_) (fun c_3 => ?_)
    · skip
      refine lv_iconst (v := (-1)) hx hb d_Machines_settingIn_20 (by decide) ?_
      have hP9 := hP.sub (ws' := [(aM, .inr (4, [.int cnt, .int vec, .ref aMS, .ref aMC, .ref aMT])), (aMT, .inl (cI, 320, .inl fT))]) [0, 1] rfl
      have hD9 := hD.sub (ws' := [(aM, .inr (4, [.int cnt, .int vec, .ref aMS, .ref aMC, .ref aMT])), (aMT, .inl (cI, 320, .inl fT))]) [0, 1] (by decide) rfl
      have hpost_4 : (-1) = q_sin cnt vec fT v1 k1 := by first | (rw [q_sin_k cv0 cv1 ck]) | simp [q_sin, c_1, c_3]
      exact W.iret (v := (-1)) hx hb hr (fun t ht hW => ⟨⟨(-1), (), rfl, hpost_4, by rw [ht]; exact hP9, hD9⟩, hS.F ht⟩) hS.2.2 d_Machines_settingIn_21
    · skip
      have cv1 := c_3
      refine lv_aload_n hx hb d_Machines_settingIn_12 rfl (lv_at hl 0 rfl) ?_
      refine lv_iload_n hx hb d_Machines_settingIn_13 rfl (lv_at hl 2 rfl) ?_
      have hPc := hP.sub (ws' := [(aM, .inr (4, [.int cnt, .int vec, .ref aMS, .ref aMC, .ref aMT]))]) [0] rfl
      have hDc := hD.sub (ws' := [(aM, .inr (4, [.int cnt, .int vec, .ref aMS, .ref aMC, .ref aMT]))]) [0] (by decide) rfl
      have hFc := va_free (wc := [(aM, .inr (4, [.int cnt, .int vec, .ref aMS, .ref aMC, .ref aMT]))]) hD hS hA [0] rfl
      refine va_calli (va_runV (As := [.int k1]) (rest := []) ⟨hx, hb, hml, hown, hts⟩ (k_has l dC dI H.size cI cZ cQ aM aMS aMC aMT cnt vec k1 ) ⟨(callB_of 1 hts (ga_all tw_238) rfl rfl rfl (hts _ tw_23) (hts _ tw_269) (by decide +kernel) ⟨Nat.le_of_ble_eq_true rfl, Nat.le_of_ble_eq_true rfl⟩), hts _ tw_236, hts _ tw_237⟩ ⟨fun a U g mk q => by obtain ⟨q0, q1, qP, qK, qD⟩ := q; exact ⟨q0, q1, qP, g_K.same (u := U) (U := U.calling g mk a) rfl qK, qD⟩, va_recv hK hPc (ci := 4) (q0 := 0) rfl rfl, fun U hU hW => ⟨rfl, by rw [hU], by rw [hU]; exact hPc, g_K.warm hW hKN, hDc.weaken (fun _ _ _ _ => trivial)⟩⟩ rfl rfl hl.1 rfl (lv_room (Nat.le_of_ble_eq_true rfl)) d_Machines_settingIn_14 ⟨Nat.le_of_ble_eq_true rfl, Nat.le_of_ble_eq_true rfl⟩) hS (fun q _ h => hFc q h) hFc (fun r_5 u t H1 locs ht hvm hw_6 hB hz1 hk1 hS => ?_)
      have hw_6 : r_5 = q_has cnt k1 := hw_6
      obtain ⟨hP1, hD1⟩ := hB
      rw [ht] at hP1
      have hP1 : va_P (dC, dI) vw_cls [(aM, .inr (4, [.int cnt, .int vec, .ref aMS, .ref aMC, .ref aMT]))] H1 := hP1
      have hD1 : va_D (va_A [(aM, .inr (4, [.int cnt, .int vec, .ref aMS, .ref aMC, .ref aMT]))] H.size) [(aM, .inr (4, [.int cnt, .int vec, .ref aMS, .ref aMC, .ref aMT]))] := hD1
      obtain ⟨hP, hD⟩ := va_join (wr := [(aMT, .inl (cI, 320, .inl fT))]) (w1 := [(aM, .inr (4, [.int cnt, .int vec, .ref aMS, .ref aMC, .ref aMT]))]) hP hD [0] [1] rfl rfl (by decide) (by decide) hk1 hFc hP1 hD1
      generalize H1 = H at hP hS ⊢
      have hP : va_P (dC, dI) vw_cls [(aMT, .inl (cI, 320, .inl fT)), (aM, .inr (4, [.int cnt, .int vec, .ref aMS, .ref aMC, .ref aMT]))] H := hP
      have hD : va_D A [(aMT, .inl (cI, 320, .inl fT)), (aM, .inr (4, [.int cnt, .int vec, .ref aMS, .ref aMC, .ref aMT]))] := hD
      refine lv_if_ne (tgt := 22) hx hb d_Machines_settingIn_17 (by decide) (fun c_7 => ?_) (fun c_7 => ?_)
      · skip
        have ck := q_has_ne hw_6 c_7
        refine lv_aload_n hx hb d_Machines_settingIn_22 rfl (lv_at hl 0 rfl) ?_
        refine va_get (D := (dC, dI)) (ci := 4) (v := .ref aMT) (C := R_Machines) (T := T_Machines) (N := 5) hx hb hts in_Machines hown hK hP 1 rfl rfl 4 (by decide) (hts _ tw_53) (fun _ h9 => h9) rfl d_Machines_settingIn_23 ?_
        refine lv_iload_n hx hb d_Machines_settingIn_26 rfl (lv_at hl 1 rfl) ?_
        refine lv_iconst (v := 5) hx hb d_Machines_settingIn_27 (by decide) ?_
        refine lv_imul hx hb d_Machines_settingIn_28 ?_
        refine lv_topi (fun v_8 ev_8 => ?_)
        refine lv_iload_n hx hb d_Machines_settingIn_29 rfl (lv_at hl 2 rfl) ?_
        refine lv_iadd hx hb d_Machines_settingIn_30 ?_
        refine lv_topi (fun v_9 ev_9 => ?_)
        have eh_10 : v_9 = nI (v1.toNatClampNeg * 5 + k1.toNatClampNeg) := by simp only [ev_8, ev_9]; exact ix_5 cv0 ck.1
        have bh_10 : v1.toNatClampNeg * 5 + k1.toNatClampNeg < 320 := by have h1 := ix_lt cv0 cv1 hvec (by omega); have h2 := ix_lt ck.1 ck.2 hcnt (by omega); omega
        have h_10 : vp_in v_9 320 := by rw [eh_10]; exact vp_in_nI bh_10 (by decide)
        have kh_10 : v_9.toNatClampNeg = v1.toNatClampNeg * 5 + k1.toNatClampNeg := by rw [eh_10]; exact nI_clamp (by omega)
        refine va_iald hx hb hK hP 0 0 rfl rfl h_10 d_Machines_settingIn_31 ?_
        rw [kh_10]
        refine lv_topi (fun v_11 ev_11 => ?_)
        have hP9 := hP.sub (ws' := [(aM, .inr (4, [.int cnt, .int vec, .ref aMS, .ref aMC, .ref aMT])), (aMT, .inl (cI, 320, .inl fT))]) [1, 0] rfl
        have hD9 := hD.sub (ws' := [(aM, .inr (4, [.int cnt, .int vec, .ref aMS, .ref aMC, .ref aMT])), (aMT, .inl (cI, 320, .inl fT))]) [1, 0] (by decide) rfl
        have hpost_12 : v_11 = q_sin cnt vec fT v1 k1 := by simp [q_sin, cv0, cv1, ck.1, ck.2, c_1, c_3, hw_6, c_7, ev_8, ev_9, ev_11]
        exact W.iret (v := v_11) hx hb hr (fun t ht hW => ⟨⟨v_11, (), rfl, hpost_12, by rw [ht]; exact hP9, hD9⟩, hS.F ht⟩) hS.2.2 d_Machines_settingIn_32
      · skip
        have ck := q_has_eq hw_6 c_7
        refine lv_iconst (v := (-1)) hx hb d_Machines_settingIn_20 (by decide) ?_
        have hP9 := hP.sub (ws' := [(aM, .inr (4, [.int cnt, .int vec, .ref aMS, .ref aMC, .ref aMT])), (aMT, .inl (cI, 320, .inl fT))]) [1, 0] rfl
        have hD9 := hD.sub (ws' := [(aM, .inr (4, [.int cnt, .int vec, .ref aMS, .ref aMC, .ref aMT])), (aMT, .inl (cI, 320, .inl fT))]) [1, 0] (by decide) rfl
        have hpost_13 : (-1) = q_sin cnt vec fT v1 k1 := by first | (rw [q_sin_k cv0 cv1 ck]) | simp [q_sin, c_1, c_3, hw_6, c_7]
        exact W.iret (v := (-1)) hx hb hr (fun t ht hW => ⟨⟨(-1), (), rfl, hpost_13, by rw [ht]; exact hP9, hD9⟩, hS.F ht⟩) hS.2.2 d_Machines_settingIn_21
set_option maxHeartbeats 4000000 in
set_option maxRecDepth 100000 in
theorem L_chg {p : Program} {l : Launch} {e : Env} {s : State} {m : MethodId} {args : Array Value} {below : List Frame} {meth : Method} {c : Code} {Q : State → Prop} {A : Nat → Prop} (hx : p.tables.exec = Jvm.exec) (hb : c.code = b_Machines_changesOf) (hml : c.maxLocals = 4) (hown : s.vm.findClass R_Machines = some m.cls) (hts : ∀ w ∈ lw_g, w.before args s = true) (hA : ∀ q, s.heap.size ≤ q → A q) {dC : Nat → ClassId} {dI : Nat → Nat → Nat} (cI : ClassId) (cZ : ClassId) (cQ : ClassId) (aM : Nat) (aMS : Nat) (aMC : Nat) (aMT : Nat) (cnt : Int32) (vec : Int32) (fC : Nat → Int32) (fT : Nat → Int32) (v1 : Int32) (nc : Nat) (nv : Nat)  (hcnt : cnt = nI nc) (hvec : vec = nI nv) (hnc : nc ≤ 5) (hnv : nv ≤ 64)  (hKN : g_K dC dI [(cI, .int), (cZ, .boolean), (cQ, (.object "SettingSearch$Answers"))] s)
    (kx_36 : ∀ (i : Nat) (xi : Int32) (acc : Int32) (_ : i ≤ nc) (_ : xi = nI i) (_ : acc = q_chg cnt vec fT fC v1 i) (_ : i = nc) (H : Heap) (locs : List Loc), va_P (dC, dI) vw_cls [(aM, .inr (4, [.int cnt, .int vec, .ref aMS, .ref aMC, .ref aMT])), (aMC, .inl (cI, 5, .inl fC)), (aMT, .inl (cI, 320, .inl fT))] H → va_D A [(aM, .inr (4, [.int cnt, .int vec, .ref aMS, .ref aMC, .ref aMT])), (aMC, .inl (cI, 5, .inl fC)), (aMT, .inl (cI, 320, .inl fT))] → va_S A s.heap H locs → ∀ (ls : Array Slot), lv_has ls 4 [(0, .ref aM), (1, .int v1), (2, .int acc), (3, .int xi)] → W p l e ({ frames := 2, cells := 0, slots := 0, locals := 43 } : Room) s m args below meth c H locs 0 0 Q (F0 m 36 ls [])) :
    ∀ (n : Nat) (i : Nat) (xi : Int32) (acc : Int32) (_ : i ≤ nc) (_ : xi = nI i) (_ : acc = q_chg cnt vec fT fC v1 i) (_ : nc - i < n) (H : Heap) (locs : List Loc), va_P (dC, dI) vw_cls [(aM, .inr (4, [.int cnt, .int vec, .ref aMS, .ref aMC, .ref aMT])), (aMC, .inl (cI, 5, .inl fC)), (aMT, .inl (cI, 320, .inl fT))] H → va_D A [(aM, .inr (4, [.int cnt, .int vec, .ref aMS, .ref aMC, .ref aMT])), (aMC, .inl (cI, 5, .inl fC)), (aMT, .inl (cI, 320, .inl fT))] → va_S A s.heap H locs → ∀ (ls : Array Slot), lv_has ls 4 [(0, .ref aM), (1, .int v1), (2, .int acc), (3, .int xi)] → W p l e ({ frames := 2, cells := 0, slots := 0, locals := 43 } : Room) s m args below meth c H locs 0 0 Q (F0 m 4 ls []) := by
  obtain ⟨hK, hN⟩ := id hKN
  intro n
  induction n with
  | zero =>
    intro i xi acc hi exi eacc hm
    exact absurd hm (Nat.not_lt_zero _)
  | succ n ih =>
    intro i xi acc hi exi eacc hm H locs hP hD hS ls hl
    refine lv_iload_n hx hb d_Machines_changesOf_4 rfl (lv_at hl 3 rfl) ?_
    refine lv_aload_n hx hb d_Machines_changesOf_5 rfl (lv_at hl 0 rfl) ?_
    refine va_get (D := (dC, dI)) (ci := 4) (v := .int cnt) (C := R_Machines) (T := T_Machines) (N := 5) hx hb hts in_Machines hown hK hP 0 rfl rfl 0 (by decide) (hts _ tw_46) (fun _ h9 => h9) rfl d_Machines_changesOf_6 ?_
    refine lv_icmp_ge (tgt := 36) hx hb d_Machines_changesOf_9 (by decide) (fun c_1 => ?_) (fun c_1 => ?_)
    · skip
      have hin : i = nc := by
        rcases Nat.lt_or_ge i nc with q | q
        · rw [hcnt, exi] at c_1; exact absurd c_1 (nI_ge q (by omega))
        · omega
      exact kx_36 i xi acc hi exi eacc (by omega) H locs (hP.sub [0, 1, 2] rfl) (hD.sub [0, 1, 2] (by decide) rfl) hS ls (lv_sub hl [0, 1, 2, 3] rfl)
    · skip
      have hlt : i < nc := by
        rcases Nat.lt_or_ge i nc with q | q
        · exact q
        · exact absurd (by rw [hcnt, exi]; exact nI_le q (by omega)) c_1
      refine lv_aload_n hx hb d_Machines_changesOf_12 rfl (lv_at hl 0 rfl) ?_
      refine lv_iload_n hx hb d_Machines_changesOf_13 rfl (lv_at hl 1 rfl) ?_
      refine lv_iload_n hx hb d_Machines_changesOf_14 rfl (lv_at hl 3 rfl) ?_
      have hPc := hP.sub (ws' := [(aM, .inr (4, [.int cnt, .int vec, .ref aMS, .ref aMC, .ref aMT])), (aMT, .inl (cI, 320, .inl fT))]) [0, 2] rfl
      have hDc := hD.sub (ws' := [(aM, .inr (4, [.int cnt, .int vec, .ref aMS, .ref aMC, .ref aMT])), (aMT, .inl (cI, 320, .inl fT))]) [0, 2] (by decide) rfl
      have hFc := va_free (wc := [(aM, .inr (4, [.int cnt, .int vec, .ref aMS, .ref aMC, .ref aMT])), (aMT, .inl (cI, 320, .inl fT))]) hD hS hA [0, 2] rfl
      refine va_calli (va_runV (As := [.int v1, .int xi]) (rest := []) ⟨hx, hb, hml, hown, hts⟩ (k_sin l dC dI H.size cI cZ cQ aM aMS aMC aMT cnt vec fT v1 xi nc nv hcnt hvec hnc hnv) ⟨(callB_of 2 hts (ga_all tw_268) rfl rfl rfl (hts _ tw_23) (hts _ tw_265) (by decide +kernel) ⟨Nat.le_of_ble_eq_true rfl, Nat.le_of_ble_eq_true rfl⟩), hts _ tw_266, hts _ tw_267⟩ ⟨fun a U g mk q => by obtain ⟨q0, q1, qP, qK, qD⟩ := q; exact ⟨q0, q1, qP, g_K.same (u := U) (U := U.calling g mk a) rfl qK, qD⟩, va_recv hK hPc (ci := 4) (q0 := 0) rfl rfl, fun U hU hW => ⟨rfl, by rw [hU], by rw [hU]; exact hPc, g_K.warm hW hKN, hDc.weaken (fun _ _ _ _ => trivial)⟩⟩ rfl rfl hl.1 rfl (lv_room (Nat.le_of_ble_eq_true rfl)) d_Machines_changesOf_15 ⟨Nat.le_of_ble_eq_true rfl, Nat.le_of_ble_eq_true rfl⟩) hS (fun q _ h => hFc q h) hFc (fun r_2 u t H1 locs ht hvm hw_3 hB hz1 hk1 hS => ?_)
      have hw_3 : r_2 = q_sin cnt vec fT v1 xi := hw_3
      obtain ⟨hP1, hD1⟩ := hB
      rw [ht] at hP1
      have hP1 : va_P (dC, dI) vw_cls [(aM, .inr (4, [.int cnt, .int vec, .ref aMS, .ref aMC, .ref aMT])), (aMT, .inl (cI, 320, .inl fT))] H1 := hP1
      have hD1 : va_D (va_A [(aM, .inr (4, [.int cnt, .int vec, .ref aMS, .ref aMC, .ref aMT])), (aMT, .inl (cI, 320, .inl fT))] H.size) [(aM, .inr (4, [.int cnt, .int vec, .ref aMS, .ref aMC, .ref aMT])), (aMT, .inl (cI, 320, .inl fT))] := hD1
      obtain ⟨hP, hD⟩ := va_join (wr := [(aMC, .inl (cI, 5, .inl fC))]) (w1 := [(aM, .inr (4, [.int cnt, .int vec, .ref aMS, .ref aMC, .ref aMT])), (aMT, .inl (cI, 320, .inl fT))]) hP hD [0, 2] [1] rfl rfl (by decide) (by decide) hk1 hFc hP1 hD1
      generalize H1 = H at hP hS ⊢
      have hP : va_P (dC, dI) vw_cls [(aMC, .inl (cI, 5, .inl fC)), (aM, .inr (4, [.int cnt, .int vec, .ref aMS, .ref aMC, .ref aMT])), (aMT, .inl (cI, 320, .inl fT))] H := hP
      have hD : va_D A [(aMC, .inl (cI, 5, .inl fC)), (aM, .inr (4, [.int cnt, .int vec, .ref aMS, .ref aMC, .ref aMT])), (aMT, .inl (cI, 320, .inl fT))] := hD
      refine lv_aload_n hx hb d_Machines_changesOf_18 rfl (lv_at hl 0 rfl) ?_
      refine va_get (D := (dC, dI)) (ci := 4) (v := .ref aMC) (C := R_Machines) (T := T_Machines) (N := 5) hx hb hts in_Machines hown hK hP 1 rfl rfl 3 (by decide) (hts _ tw_52) (fun _ h9 => h9) rfl d_Machines_changesOf_19 ?_
      refine lv_iload_n hx hb d_Machines_changesOf_22 rfl (lv_at hl 3 rfl) ?_
      have eh_4 : xi = nI (i) := exi
      have bh_4 : i < 5 := by omega
      have h_4 : vp_in xi 5 := by rw [eh_4]; exact vp_in_nI bh_4 (by decide)
      have kh_4 : xi.toNatClampNeg = i := by rw [eh_4]; exact nI_clamp (by omega)
      refine va_iald hx hb hK hP 0 0 rfl rfl h_4 d_Machines_changesOf_23 ?_
      rw [kh_4]
      refine lv_topi (fun v_5 ev_5 => ?_)
      refine lv_icmp_eq (tgt := 30) hx hb d_Machines_changesOf_24 (by decide) (fun c_6 => ?_) (fun c_6 => ?_)
      · skip
        have cq : q_sin cnt vec fT v1 (nI i) = fC i := by rw [← exi, ← hw_3, c_6, ev_5]
        obtain ⟨v_7, ev_7⟩ : ∃ y : Int32, y = xi + 1 := ⟨_, rfl⟩
        refine lv_iinc (v := v_7) (lv' := [(3, .int v_7), (0, .ref aM), (1, .int v1), (2, .int acc)]) hx hb d_Machines_changesOf_30 hl (k := 3) rfl (by rw [ev_7]; rfl) (by decide) rfl (fun ls hl => ?_)
        refine lv_goto (tgt := 4) hx hb d_Machines_changesOf_33 (by decide) ?_
        exact ih (i + 1) v_7 acc (by omega) (by simp only [ev_5, ev_7, exi]; exact nI_1 i) (by simp [q_chg, cq, ev_5, ev_7, eacc]) (by omega) H locs (hP.sub [1, 0, 2] rfl) (hD.sub [1, 0, 2] (by decide) rfl) hS ls (lv_sub hl [1, 2, 3, 0] rfl)
      · skip
        have cq : ¬ q_sin cnt vec fT v1 (nI i) = fC i := by rw [← exi, ← hw_3, ← ev_5]; exact c_6
        obtain ⟨v_8, ev_8⟩ : ∃ y : Int32, y = acc + 1 := ⟨_, rfl⟩
        refine lv_iinc (v := v_8) (lv' := [(2, .int v_8), (0, .ref aM), (1, .int v1), (3, .int xi)]) hx hb d_Machines_changesOf_27 hl (k := 2) rfl (by rw [ev_8]; rfl) (by decide) rfl (fun ls hl => ?_)
        obtain ⟨v_9, ev_9⟩ : ∃ y : Int32, y = xi + 1 := ⟨_, rfl⟩
        refine lv_iinc (v := v_9) (lv' := [(3, .int v_9), (2, .int v_8), (0, .ref aM), (1, .int v1)]) hx hb d_Machines_changesOf_30 hl (k := 3) rfl (by rw [ev_9]; rfl) (by decide) rfl (fun ls hl => ?_)
        refine lv_goto (tgt := 4) hx hb d_Machines_changesOf_33 (by decide) ?_
        exact ih (i + 1) v_9 v_8 (by omega) (by simp only [ev_5, ev_8, ev_9, exi]; exact nI_1 i) (by simp [q_chg, cq, ev_5, ev_8, ev_9, eacc]) (by omega) H locs (hP.sub [1, 0, 2] rfl) (hD.sub [1, 0, 2] (by decide) rfl) hS ls (lv_sub hl [2, 3, 1, 0] rfl)
set_option maxHeartbeats 4000000 in
set_option maxRecDepth 100000 in
/-- changesOf -/
theorem k_chg (l : Launch) (dC : Nat → ClassId) (dI : Nat → Nat → Nat) (sz : Nat) (cI : ClassId) (cZ : ClassId) (cQ : ClassId) (aM : Nat) (aMS : Nat) (aMC : Nat) (aMT : Nat) (cnt : Int32) (vec : Int32) (fC : Nat → Int32) (fT : Nat → Int32) (v1 : Int32) (nc : Nat) (nv : Nat) (hcnt : cnt = nI nc) (hvec : vec = nI nv) (hnc : nc ≤ 5) (hnv : nv ≤ 64) : Met l y_Machines_changesOf w_Machines_changesOf ({ frames := 2, cells := 0, slots := 0, locals := 43 } : Room) (va_Pc [.ref aM, .int v1] (fun U => U.heap.size = sz ∧ va_P (dC, dI) vw_cls [(aM, .inr (4, [.int cnt, .int vec, .ref aMS, .ref aMC, .ref aMT])), (aMC, .inl (cI, 5, .inl fC)), (aMT, .inl (cI, 320, .inl fT))] U.heap ∧ g_K dC dI [(cI, .int), (cZ, .boolean), (cQ, (.object "SettingSearch$Answers"))] U ∧ va_D (fun _ => True) [(aM, .inr (4, [.int cnt, .int vec, .ref aMS, .ref aMC, .ref aMT])), (aMC, .inl (cI, 5, .inl fC)), (aMT, .inl (cI, 320, .inl fT))])) (va_Qi (fun (r : Int32) (u : Unit) => r = q_chg cnt vec fT fC v1 nc) (fun (u : Unit) (t : State) => va_P (dC, dI) vw_cls [(aM, .inr (4, [.int cnt, .int vec, .ref aMS, .ref aMC, .ref aMT])), (aMC, .inl (cI, 5, .inl fC)), (aMT, .inl (cI, 320, .inl fT))] t.heap ∧ va_D (va_A [(aM, .inr (4, [.int cnt, .int vec, .ref aMS, .ref aMC, .ref aMT])), (aMC, .inl (cI, 5, .inl fC)), (aMT, .inl (cI, 320, .inl fT))] sz) [(aM, .inr (4, [.int cnt, .int vec, .ref aMS, .ref aMC, .ref aMT])), (aMC, .inl (cI, 5, .inl fC)), (aMT, .inl (cI, 320, .inl fT))]) (va_A [(aM, .inr (4, [.int cnt, .int vec, .ref aMS, .ref aMC, .ref aMT])), (aMC, .inl (cI, 5, .inl fC)), (aMT, .inl (cI, 320, .inl fT))] sz)) 0 0 (va_A [(aM, .inr (4, [.int cnt, .int vec, .ref aMS, .ref aMC, .ref aMT])), (aMC, .inl (cI, 5, .inl fC)), (aMT, .inl (cI, 320, .inl fT))] sz) := by
  refine Met.ofW (cc := b_Machines_changesOf) (maxL := 4) (ret := (some .int)) (by decide) rfl ?_
  intro p e s m args below meth c s₁ B hml hv
  obtain ⟨rfl, hsz, hP, hKN, hD0⟩ := hv
  obtain ⟨hK, hN⟩ := id hKN
  have hx := B.exec
  have hb := B.bytes
  have hr := B.returns
  have hts0 := atoms_spec (ws := w_Machines_changesOf) B.pre
  have hts : ∀ w ∈ lw_g, w.before _ s = true := fun w h => hts0 w (List.mem_cons_of_mem _ h)
  have hown : s.vm.findClass R_Machines = some m.cls := findClass_of_methodNamed B.named
  have hlocks := B.notSynchronized
  subst hsz
  have hD := hD0.self (sz := s.heap.size)
  generalize hAe : va_A [(aM, .inr (4, [.int cnt, .int vec, .ref aMS, .ref aMC, .ref aMT])), (aMC, .inl (cI, 5, .inl fC)), (aMT, .inl (cI, 320, .inl fT))] s.heap.size = A at hD ⊢
  have hA : ∀ q : Nat, s.heap.size ≤ q → A q := fun q h => by rw [← hAe]; exact Or.inr h
  have hP : va_P (dC, dI) vw_cls [(aM, .inr (4, [.int cnt, .int vec, .ref aMS, .ref aMC, .ref aMT])), (aMC, .inl (cI, 5, .inl fC)), (aMT, .inl (cI, 320, .inl fT))] s.heap := hP
  have hl := lv_entry ([.ref aM, .int v1]) (n := 4) (Nat.le_of_ble_eq_true rfl)
  rw [lg_entry_eq]
  generalize (lg_sl ([.ref aM, .int v1]) ++ List.replicate (4 - (lg_sl ([.ref aM, .int v1])).length) Slot.unset).toArray = ls at hl ⊢
  have hl : lv_has ls 4 [(0, .ref aM), (1, .int v1)] := hl
  refine gw_start (fun H locs hH hlocs => ?_)
  rw [← hH] at hP
  have hS : va_S A s.heap H locs := by rw [hH, hlocs]; exact va_S.rf
  refine lv_iconst (v := 0) hx hb d_Machines_changesOf_0 (by decide) ?_
  refine lv_istore_n (lv' := [(2, .int 0), (0, .ref aM), (1, .int v1)]) hx hb d_Machines_changesOf_1 rfl hl (by decide) rfl (fun ls hl => ?_)
  refine lv_iconst (v := 0) hx hb d_Machines_changesOf_2 (by decide) ?_
  refine lv_istore_n (lv' := [(3, .int 0), (2, .int 0), (0, .ref aM), (1, .int v1)]) hx hb d_Machines_changesOf_3 rfl hl (by decide) rfl (fun ls hl => ?_)
  refine L_chg hx hb hml hown hts hA cI cZ cQ aM aMS aMC aMT cnt vec fC fT v1 nc nv hcnt hvec hnc hnv hKN ?_ (nc - 0 + 1) 0 0 0 (Nat.zero_le _) rfl rfl (Nat.lt_succ_self _) H locs (hP.sub [0, 1, 2] rfl) (hD.sub [0, 1, 2] (by decide) rfl) hS ls (lv_sub hl [2, 3, 1, 0] rfl)
  intro i xi acc hi exi eacc hin H locs hP hD hS ls hl
  have hl : lv_has ls 4 [(0, .ref aM), (1, .int v1), (2, .int acc), (3, .int xi)] := hl
  have hP : va_P (dC, dI) vw_cls [(aM, .inr (4, [.int cnt, .int vec, .ref aMS, .ref aMC, .ref aMT])), (aMC, .inl (cI, 5, .inl fC)), (aMT, .inl (cI, 320, .inl fT))] H := hP
  have hD : va_D A [(aM, .inr (4, [.int cnt, .int vec, .ref aMS, .ref aMC, .ref aMT])), (aMC, .inl (cI, 5, .inl fC)), (aMT, .inl (cI, 320, .inl fT))] := hD
  refine lv_iload_n hx hb d_Machines_changesOf_36 rfl (lv_at hl 2 rfl) ?_
  have hP9 := hP.sub (ws' := [(aM, .inr (4, [.int cnt, .int vec, .ref aMS, .ref aMC, .ref aMT])), (aMC, .inl (cI, 5, .inl fC)), (aMT, .inl (cI, 320, .inl fT))]) [0, 1, 2] rfl
  have hD9 := hD.sub (ws' := [(aM, .inr (4, [.int cnt, .int vec, .ref aMS, .ref aMC, .ref aMT])), (aMC, .inl (cI, 5, .inl fC)), (aMT, .inl (cI, 320, .inl fT))]) [0, 1, 2] (by decide) rfl
  have hpost_1 : acc = q_chg cnt vec fT fC v1 nc := by rw [eacc, hin]
  exact W.iret (v := acc) hx hb hr (fun t ht hW => ⟨⟨acc, (), rfl, hpost_1, by rw [ht]; exact hP9, hD9⟩, hS.F ht⟩) hS.2.2 d_Machines_changesOf_37
