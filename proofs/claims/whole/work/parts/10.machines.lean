set_option maxHeartbeats 4000000 in
set_option maxRecDepth 100000 in
/-- has -/
theorem k_has (l : Launch) (dC : Nat → ClassId) (dI : Nat → Nat → Nat) (sz : Nat) (cI : ClassId) (cZ : ClassId) (cQ : ClassId) (aM : Nat) (aMS : Nat) (aMC : Nat) (aMT : Nat) (cnt : Int32) (vec : Int32) (k1 : Int32)  : Met l y_Machines_has w_Machines_has ({ frames := 0, cells := 0, slots := 0, locals := 0 } : Room) (va_Pc [.ref aM, .int k1] (fun U => U.heap.size = sz ∧ va_P (dC, dI) vw_cls [(aM, .inr (4, [.int cnt, .int vec, .ref aMS, .ref aMC, .ref aMT]))] U.heap ∧ g_K dC dI [(cI, .int), (cZ, .boolean), (cQ, (.object "SettingSearch$Answers"))] U ∧ va_D (fun _ => True) [(aM, .inr (4, [.int cnt, .int vec, .ref aMS, .ref aMC, .ref aMT]))])) (va_Qi (fun (r : Int32) (u : Unit) => r = q_has cnt k1) (fun (u : Unit) (t : State) => va_P (dC, dI) vw_cls [(aM, .inr (4, [.int cnt, .int vec, .ref aMS, .ref aMC, .ref aMT]))] t.heap ∧ va_D (va_A [(aM, .inr (4, [.int cnt, .int vec, .ref aMS, .ref aMC, .ref aMT]))] sz) [(aM, .inr (4, [.int cnt, .int vec, .ref aMS, .ref aMC, .ref aMT]))]) (va_A [(aM, .inr (4, [.int cnt, .int vec, .ref aMS, .ref aMC, .ref aMT]))] sz)) 0 0 (va_A [(aM, .inr (4, [.int cnt, .int vec, .ref aMS, .ref aMC, .ref aMT]))] sz) := by
  refine Met.ofW (cc := b_Machines_has) (maxL := 2) (ret := (some .boolean)) (by decide) rfl ?_
  intro p e s m args below meth c s₁ B hml hv
  obtain ⟨rfl, hsz, hP, hKN, hD0⟩ := hv
  obtain ⟨hK, hN⟩ := id hKN
  have hx := B.exec
  have hb := B.bytes
  have hr := B.returns
  have hts0 := atoms_spec (ws := w_Machines_has) B.pre
  have hts : ∀ w ∈ lw_g, w.before _ s = true := fun w h => hts0 w (List.mem_cons_of_mem _ h)
  have hown : s.vm.findClass R_Machines = some m.cls := findClass_of_methodNamed B.named
  have hlocks := B.notSynchronized
  subst hsz
  have hD := hD0.self (sz := s.heap.size)
  generalize hAe : va_A [(aM, .inr (4, [.int cnt, .int vec, .ref aMS, .ref aMC, .ref aMT]))] s.heap.size = A at hD ⊢
  have hA : ∀ q : Nat, s.heap.size ≤ q → A q := fun q h => by rw [← hAe]; exact Or.inr h
  have hP : va_P (dC, dI) vw_cls [(aM, .inr (4, [.int cnt, .int vec, .ref aMS, .ref aMC, .ref aMT]))] s.heap := hP
  have hl := lv_entry ([.ref aM, .int k1]) (n := 2) (Nat.le_of_ble_eq_true rfl)
  rw [lg_entry_eq]
  generalize (lg_sl ([.ref aM, .int k1]) ++ List.replicate (2 - (lg_sl ([.ref aM, .int k1])).length) Slot.unset).toArray = ls at hl ⊢
  have hl : lv_has ls 2 [(0, .ref aM), (1, .int k1)] := hl
  refine gw_start (fun H locs hH hlocs => ?_)
  rw [← hH] at hP
  have hS : va_S A s.heap H locs := by rw [hH, hlocs]; exact va_S.rf
  refine lv_iload_n hx hb d_Machines_has_0 rfl (lv_at hl 1 rfl) ?_
  refine lv_if_lt (tgt := 16) hx hb d_Machines_has_1 (by decide) (fun c_1 => ?_) (fun c_1 => ?_)
  · skip
    refine lv_iconst (v := 0) hx hb d_Machines_has_16 (by decide) ?_
    have hP9 := hP.sub (ws' := [(aM, .inr (4, [.int cnt, .int vec, .ref aMS, .ref aMC, .ref aMT]))]) [0] rfl
    have hD9 := hD.sub (ws' := [(aM, .inr (4, [.int cnt, .int vec, .ref aMS, .ref aMC, .ref aMT]))]) [0] (by decide) rfl
    have hpost_2 : (0 : Int32) = q_has cnt k1 := by simp [q_has, c_1]
    exact W.zret (v := 0) hx hb hr (rfl) (fun t ht hW => ⟨⟨0, (), rfl, hpost_2, by rw [ht]; exact hP9, hD9⟩, hS.F ht⟩) hS.2.2 d_Machines_has_17
  · skip
    refine lv_iload_n hx hb d_Machines_has_4 rfl (lv_at hl 1 rfl) ?_
    refine lv_aload_n hx hb d_Machines_has_5 rfl (lv_at hl 0 rfl) ?_
    refine va_get (D := (dC, dI)) (ci := 4) (v := .int cnt) (C := R_Machines) (T := T_Machines) (N := 5) hx hb hts in_Machines hown hK hP 0 rfl rfl 0 (by decide) (hts _ tw_46) (fun _ h9 => h9) rfl d_Machines_has_6 ?_
    refine lv_icmp_ge (tgt := 16) hx hb d_Machines_has_9 (by decide) (fun c_3 => ?_) (fun c_3 => ?_)
    · skip
      refine lv_iconst (v := 0) hx hb d_Machines_has_16 (by decide) ?_
      have hP9 := hP.sub (ws' := [(aM, .inr (4, [.int cnt, .int vec, .ref aMS, .ref aMC, .ref aMT]))]) [0] rfl
      have hD9 := hD.sub (ws' := [(aM, .inr (4, [.int cnt, .int vec, .ref aMS, .ref aMC, .ref aMT]))]) [0] (by decide) rfl
      have hpost_4 : (0 : Int32) = q_has cnt k1 := by simp [q_has, c_1, c_3]
      exact W.zret (v := 0) hx hb hr (rfl) (fun t ht hW => ⟨⟨0, (), rfl, hpost_4, by rw [ht]; exact hP9, hD9⟩, hS.F ht⟩) hS.2.2 d_Machines_has_17
    · skip
      refine lv_iconst (v := 1) hx hb d_Machines_has_12 (by decide) ?_
      refine lv_goto (tgt := 17) hx hb d_Machines_has_13 (by decide) ?_
      have hP9 := hP.sub (ws' := [(aM, .inr (4, [.int cnt, .int vec, .ref aMS, .ref aMC, .ref aMT]))]) [0] rfl
      have hD9 := hD.sub (ws' := [(aM, .inr (4, [.int cnt, .int vec, .ref aMS, .ref aMC, .ref aMT]))]) [0] (by decide) rfl
      have hpost_5 : (1 : Int32) = q_has cnt k1 := by simp [q_has, c_1, c_3]
      exact W.zret (v := 1) hx hb hr (rfl) (fun t ht hW => ⟨⟨1, (), rfl, hpost_5, by rw [ht]; exact hP9, hD9⟩, hS.F ht⟩) hS.2.2 d_Machines_has_17
theorem q_has_ne {r cnt k : Int32} (h : r = q_has cnt k) (h0 : ¬ r = 0) : ¬ k < 0 ∧ ¬ cnt ≤ k := by
  unfold q_has at h
  by_cases h1 : k < 0
  · simp [h1] at h; exact absurd h h0
  · by_cases h2 : cnt ≤ k
    · simp [h1, h2] at h; exact absurd h h0
    · exact ⟨h1, h2⟩
theorem q_has_eq {r cnt k : Int32} (h : r = q_has cnt k) (h0 : r = 0) : k < 0 ∨ cnt ≤ k := by
  unfold q_has at h
  by_cases h1 : k < 0
  · exact Or.inl h1
  · by_cases h2 : cnt ≤ k
    · exact Or.inr h2
    · simp [h1, h2] at h; rw [h] at h0; exact absurd h0 (by decide)
theorem q_sin_k {cnt vec v k : Int32} {fT : Nat → Int32} (h0 : ¬ v < 0) (h1 : ¬ vec ≤ v) (hk : k < 0 ∨ cnt ≤ k) : q_sin cnt vec fT v k = -1 := by
  by_cases h2 : k < 0
  · simp [q_sin, h0, h1, h2]
  · rcases hk with h | h
    · exact absurd h h2
    · simp [q_sin, h0, h1, h2, h]
set_option maxHeartbeats 4000000 in
set_option maxRecDepth 100000 in
/-- settingIn -/
theorem k_sin (l : Launch) (dC : Nat → ClassId) (dI : Nat → Nat → Nat) (sz : Nat) (cI : ClassId) (cZ : ClassId) (cQ : ClassId) (aM : Nat) (aMS : Nat) (aMC : Nat) (aMT : Nat) (cnt : Int32) (vec : Int32) (fT : Nat → Int32) (v1 : Int32) (k1 : Int32) (nc : Nat) (nv : Nat) (hcnt : cnt = nI nc) (hvec : vec = nI nv) (hnc : nc ≤ 5) (hnv : nv ≤ 64) : Met l y_Machines_settingIn w_Machines_settingIn ({ frames := 1, cells := 0, slots := 0, locals := 21 } : Room) (va_Pc [.ref aM, .int v1, .int k1] (fun U => U.heap.size = sz ∧ va_P (dC, dI) vw_cls [(aM, .inr (4, [.int cnt, .int vec, .ref aMS, .ref aMC, .ref aMT])), (aMT, .inl (cI, 320, .inl fT))] U.heap ∧ g_K dC dI [(cI, .int), (cZ, .boolean), (cQ, (.object "SettingSearch$Answers"))] U ∧ va_D (fun _ => True) [(aM, .inr (4, [.int cnt, .int vec, .ref aMS, .ref aMC, .ref aMT])), (aMT, .inl (cI, 320, .inl fT))])) (va_Qi (fun (r : Int32) (u : Unit) => r = q_sin cnt vec fT v1 k1) (fun (u : Unit) (t : State) => va_P (dC, dI) vw_cls [(aM, .inr (4, [.int cnt, .int vec, .ref aMS, .ref aMC, .ref aMT])), (aMT, .inl (cI, 320, .inl fT))] t.heap ∧ va_D (va_A [(aM, .inr (4, [.int cnt, .int vec, .ref aMS, .ref aMC, .ref aMT])), (aMT, .inl (cI, 320, .inl fT))] sz) [(aM, .inr (4, [.int cnt, .int vec, .ref aMS, .ref aMC, .ref aMT])), (aMT, .inl (cI, 320, .inl fT))]) (va_A [(aM, .inr (4, [.int cnt, .int vec, .ref aMS, .ref aMC, .ref aMT])), (aMT, .inl (cI, 320, .inl fT))] sz)) 0 0 (va_A [(aM, .inr (4, [.int cnt, .int vec, .ref aMS, .ref aMC, .ref aMT])), (aMT, .inl (cI, 320, .inl fT))] sz) := by
  refine Met.ofW (cc := b_Machines_settingIn) (maxL := 3) (ret := (some .int)) (by decide) rfl ?_
  intro p e s m args below meth c s₁ B hml hv
  obtain ⟨rfl, hsz, hP, hKN, hD0⟩ := hv
  obtain ⟨hK, hN⟩ := id hKN
  have hx := B.exec
  have hb := B.bytes
  have hr := B.returns
  have hts0 := atoms_spec (ws := w_Machines_settingIn) B.pre
  have hts : ∀ w ∈ lw_g, w.before _ s = true := fun w h => hts0 w (List.mem_cons_of_mem _ h)
  have hown : s.vm.findClass R_Machines = some m.cls := findClass_of_methodNamed B.named
  have hlocks := B.notSynchronized
  subst hsz
  have hD := hD0.self (sz := s.heap.size)
  generalize hAe : va_A [(aM, .inr (4, [.int cnt, .int vec, .ref aMS, .ref aMC, .ref aMT])), (aMT, .inl (cI, 320, .inl fT))] s.heap.size = A at hD ⊢
  have hA : ∀ q : Nat, s.heap.size ≤ q → A q := fun q h => by rw [← hAe]; exact Or.inr h
  have hP : va_P (dC, dI) vw_cls [(aM, .inr (4, [.int cnt, .int vec, .ref aMS, .ref aMC, .ref aMT])), (aMT, .inl (cI, 320, .inl fT))] s.heap := hP
  have hl := lv_entry ([.ref aM, .int v1, .int k1]) (n := 3) (Nat.le_of_ble_eq_true rfl)
  rw [lg_entry_eq]
  generalize (lg_sl ([.ref aM, .int v1, .int k1]) ++ List.replicate (3 - (lg_sl ([.ref aM, .int v1, .int k1])).length) Slot.unset).toArray = ls at hl ⊢
  have hl : lv_has ls 3 [(0, .ref aM), (1, .int v1), (2, .int k1)] := hl
  refine gw_start (fun H locs hH hlocs => ?_)
  rw [← hH] at hP
  have hS : va_S A s.heap H locs := by rw [hH, hlocs]; exact va_S.rf
  refine lv_iload_n hx hb d_Machines_settingIn_0 rfl (lv_at hl 1 rfl) ?_
  refine lv_if_lt (tgt := 20) hx hb d_Machines_settingIn_1 (by decide) (fun c_1 => ?_) (fun c_1 => ?_)
  · skip
    refine lv_iconst (v := (-1)) hx hb d_Machines_settingIn_20 (by decide) ?_
    have hP9 := hP.sub (ws' := [(aM, .inr (4, [.int cnt, .int vec, .ref aMS, .ref aMC, .ref aMT])), (aMT, .inl (cI, 320, .inl fT))]) [0, 1] rfl
    have hD9 := hD.sub (ws' := [(aM, .inr (4, [.int cnt, .int vec, .ref aMS, .ref aMC, .ref aMT])), (aMT, .inl (cI, 320, .inl fT))]) [0, 1] (by decide) rfl
    have hpost_2 : ((-1) : Int32) = q_sin cnt vec fT v1 k1 := by first | (rw [q_sin_k cv0 cv1 ck]) | simp [q_sin, c_1]
    exact W.iret (v := (-1)) hx hb hr (fun t ht hW => ⟨⟨(-1), (), rfl, hpost_2, by rw [ht]; exact hP9, hD9⟩, hS.F ht⟩) hS.2.2 d_Machines_settingIn_21
  · skip
    have cv0 := c_1
    refine lv_iload_n hx hb d_Machines_settingIn_4 rfl (lv_at hl 1 rfl) ?_
    refine lv_aload_n hx hb d_Machines_settingIn_5 rfl (lv_at hl 0 rfl) ?_
    refine va_get (D := (dC, dI)) (ci := 4) (v := .int vec) (C := R_Machines) (T := T_Machines) (N := 5) hx hb hts in_Machines hown hK hP 0 rfl rfl 1 (by decide) (hts _ tw_49) (fun _ h9 => h9) rfl d_Machines_settingIn_6 ?_
    refine lv_icmp_ge (tgt := 20) hx hb d_Machines_settingIn_9 (by decide) (fun c_3 => ?_) (fun c_3 => ?_)
    · skip
      refine lv_iconst (v := (-1)) hx hb d_Machines_settingIn_20 (by decide) ?_
      have hP9 := hP.sub (ws' := [(aM, .inr (4, [.int cnt, .int vec, .ref aMS, .ref aMC, .ref aMT])), (aMT, .inl (cI, 320, .inl fT))]) [0, 1] rfl
      have hD9 := hD.sub (ws' := [(aM, .inr (4, [.int cnt, .int vec, .ref aMS, .ref aMC, .ref aMT])), (aMT, .inl (cI, 320, .inl fT))]) [0, 1] (by decide) rfl
      have hpost_4 : ((-1) : Int32) = q_sin cnt vec fT v1 k1 := by first | (rw [q_sin_k cv0 cv1 ck]) | simp [q_sin, c_1, c_3]
      exact W.iret (v := (-1)) hx hb hr (fun t ht hW => ⟨⟨(-1), (), rfl, hpost_4, by rw [ht]; exact hP9, hD9⟩, hS.F ht⟩) hS.2.2 d_Machines_settingIn_21
    · skip
      have cv1 := c_3
      refine lv_aload_n hx hb d_Machines_settingIn_12 rfl (lv_at hl 0 rfl) ?_
      refine lv_iload_n hx hb d_Machines_settingIn_13 rfl (lv_at hl 2 rfl) ?_
      have hPc := hP.sub (ws' := [(aM, .inr (4, [.int cnt, .int vec, .ref aMS, .ref aMC, .ref aMT]))]) [0] rfl
      have hDc := hD.sub (ws' := [(aM, .inr (4, [.int cnt, .int vec, .ref aMS, .ref aMC, .ref aMT]))]) [0] (by decide) rfl
      have hFc := va_free (wc := [(aM, .inr (4, [.int cnt, .int vec, .ref aMS, .ref aMC, .ref aMT]))]) hD hS hA [0] rfl
      refine va_calli (va_runV (As := [.int k1]) (rest := []) ⟨hx, hb, hml, hown, hts⟩ (k_has l dC dI H.size cI cZ cQ aM aMS aMC aMT cnt vec k1 ) ⟨(callB_of 1 hts (ga_all tw_237) rfl rfl rfl (hts _ tw_23) (hts _ tw_268) (by decide +kernel) ⟨Nat.le_of_ble_eq_true rfl, Nat.le_of_ble_eq_true rfl⟩), hts _ tw_235, hts _ tw_236⟩ ⟨fun a U g mk q => by obtain ⟨q0, q1, qP, qK, qD⟩ := q; exact ⟨q0, q1, qP, g_K.same (u := U) (U := U.calling g mk a) rfl qK, qD⟩, va_recv hK hPc (ci := 4) (q0 := 0) rfl rfl, fun U hU hW => ⟨rfl, by rw [hU], by rw [hU]; exact hPc, g_K.warm hW hKN, hDc.weaken (fun _ _ _ _ => trivial)⟩⟩ rfl rfl hl.1 rfl (lv_room (Nat.le_of_ble_eq_true rfl)) d_Machines_settingIn_14 ⟨Nat.le_of_ble_eq_true rfl, Nat.le_of_ble_eq_true rfl⟩) hS (fun q _ h => hFc q h) hFc (fun r_5 u t H1 locs htt hvm hw_6 hBB hzz hkk hS => ?_)
      have hw_6 : r_5 = q_has cnt k1 := hw_6
      obtain ⟨hPP, hDD⟩ := hBB
      rw [htt] at hPP
      have hPP : va_P (dC, dI) vw_cls [(aM, .inr (4, [.int cnt, .int vec, .ref aMS, .ref aMC, .ref aMT]))] H1 := hPP
      have hDD : va_D (va_A [(aM, .inr (4, [.int cnt, .int vec, .ref aMS, .ref aMC, .ref aMT]))] H.size) [(aM, .inr (4, [.int cnt, .int vec, .ref aMS, .ref aMC, .ref aMT]))] := hDD
      obtain ⟨hP, hD⟩ := va_join (wr := [(aMT, .inl (cI, 320, .inl fT))]) (w1 := [(aM, .inr (4, [.int cnt, .int vec, .ref aMS, .ref aMC, .ref aMT]))]) hP hD [0] [1] rfl rfl (by decide) (by decide) hkk hFc hPP hDD
      generalize H1 = H at hP hS ⊢
      have hP : va_P (dC, dI) vw_cls [(aMT, .inl (cI, 320, .inl fT)), (aM, .inr (4, [.int cnt, .int vec, .ref aMS, .ref aMC, .ref aMT]))] H := hP
      have hD : va_D A [(aMT, .inl (cI, 320, .inl fT)), (aM, .inr (4, [.int cnt, .int vec, .ref aMS, .ref aMC, .ref aMT]))] := hD
      refine lv_if_ne (tgt := 22) hx hb d_Machines_settingIn_17 (by decide) (fun c_7 => ?_) (fun c_7 => ?_)
      · skip
        have ck := q_has_ne hw_6 c_7
        refine lv_aload_n hx hb d_Machines_settingIn_22 rfl (lv_at hl 0 rfl) ?_
        refine va_get (D := (dC, dI)) (ci := 4) (v := .ref aMT) (C := R_Machines) (T := T_Machines) (N := 5) hx hb hts in_Machines hown hK hP 1 rfl rfl 4 (by decide) (hts _ tw_53) (fun _ h9 => h9) rfl d_Machines_settingIn_23 ?_
        refine lv_iload_n hx hb d_Machines_settingIn_26 rfl (lv_at hl 1 rfl) ?_
        refine lv_iconst (v := 5) hx hb d_Machines_settingIn_27 (by decide) ?_
        refine lv_imul hx hb d_Machines_settingIn_28 ?_
        refine lv_topi (fun v_8 ev_8 => ?_)
        refine lv_iload_n hx hb d_Machines_settingIn_29 rfl (lv_at hl 2 rfl) ?_
        refine lv_iadd hx hb d_Machines_settingIn_30 ?_
        refine lv_topi (fun v_9 ev_9 => ?_)
        have eh_10 : v_9 = nI (v1.toNatClampNeg * 5 + k1.toNatClampNeg) := by simp only [ev_8, ev_9]; exact ix_5 cv0 ck.1
        have bh_10 : v1.toNatClampNeg * 5 + k1.toNatClampNeg < 320 := by have h1 := ix_lt cv0 cv1 hvec (by omega); have h2 := ix_lt ck.1 ck.2 hcnt (by omega); omega
        have h_10 : vp_in v_9 320 := by rw [eh_10]; exact vp_in_nI bh_10 (by decide)
        have kh_10 : v_9.toNatClampNeg = v1.toNatClampNeg * 5 + k1.toNatClampNeg := by rw [eh_10]; exact nI_clamp (by omega)
        refine va_iald hx hb hK hP 0 0 rfl rfl h_10 d_Machines_settingIn_31 ?_
        rw [kh_10]
        refine lv_topi (fun v_11 ev_11 => ?_)
        have hP9 := hP.sub (ws' := [(aM, .inr (4, [.int cnt, .int vec, .ref aMS, .ref aMC, .ref aMT])), (aMT, .inl (cI, 320, .inl fT))]) [1, 0] rfl
        have hD9 := hD.sub (ws' := [(aM, .inr (4, [.int cnt, .int vec, .ref aMS, .ref aMC, .ref aMT])), (aMT, .inl (cI, 320, .inl fT))]) [1, 0] (by decide) rfl
        have hpost_12 : (v_11 : Int32) = q_sin cnt vec fT v1 k1 := by simp [q_sin, cv0, cv1, ck.1, ck.2, c_1, c_3, hw_6, c_7, ev_8, ev_9, ev_11]
        exact W.iret (v := v_11) hx hb hr (fun t ht hW => ⟨⟨v_11, (), rfl, hpost_12, by rw [ht]; exact hP9, hD9⟩, hS.F ht⟩) hS.2.2 d_Machines_settingIn_32
      · skip
        have ck := q_has_eq hw_6 c_7
        refine lv_iconst (v := (-1)) hx hb d_Machines_settingIn_20 (by decide) ?_
        have hP9 := hP.sub (ws' := [(aM, .inr (4, [.int cnt, .int vec, .ref aMS, .ref aMC, .ref aMT])), (aMT, .inl (cI, 320, .inl fT))]) [1, 0] rfl
        have hD9 := hD.sub (ws' := [(aM, .inr (4, [.int cnt, .int vec, .ref aMS, .ref aMC, .ref aMT])), (aMT, .inl (cI, 320, .inl fT))]) [1, 0] (by decide) rfl
        have hpost_13 : ((-1) : Int32) = q_sin cnt vec fT v1 k1 := by first | (rw [q_sin_k cv0 cv1 ck]) | simp [q_sin, c_1, c_3, hw_6, c_7]
        exact W.iret (v := (-1)) hx hb hr (fun t ht hW => ⟨⟨(-1), (), rfl, hpost_13, by rw [ht]; exact hP9, hD9⟩, hS.F ht⟩) hS.2.2 d_Machines_settingIn_21
set_option maxHeartbeats 4000000 in
set_option maxRecDepth 100000 in
theorem L_chg {p : Program} {l : Launch} {e : Env} {s : State} {m : MethodId} {args : Array Value} {below : List Frame} {meth : Method} {c : Code} {Q : State → Prop} {A : Nat → Prop} (hx : p.tables.exec = Jvm.exec) (hb : c.code = b_Machines_changesOf) (hml : c.maxLocals = 4) (hown : s.vm.findClass R_Machines = some m.cls) (hts : ∀ w ∈ lw_g, w.before args s = true) (hA : ∀ q, s.heap.size ≤ q → A q) {dC : Nat → ClassId} {dI : Nat → Nat → Nat} (cI : ClassId) (cZ : ClassId) (cQ : ClassId) (aM : Nat) (aMS : Nat) (aMC : Nat) (aMT : Nat) (cnt : Int32) (vec : Int32) (fC : Nat → Int32) (fT : Nat → Int32) (v1 : Int32) (nc : Nat) (nv : Nat)  (hcnt : cnt = nI nc) (hvec : vec = nI nv) (hnc : nc ≤ 5) (hnv : nv ≤ 64)  (hKN : g_K dC dI [(cI, .int), (cZ, .boolean), (cQ, (.object "SettingSearch$Answers"))] s)
    (kx_36 : ∀ (i : Nat) (xi : Int32) (acc : Int32) (_ : i ≤ nc) (_ : xi = nI i) (_ : acc = q_chg cnt vec fT fC v1 i) (_ : i = nc) (H : Heap) (locs : List Loc), va_P (dC, dI) vw_cls [(aM, .inr (4, [.int cnt, .int vec, .ref aMS, .ref aMC, .ref aMT])), (aMC, .inl (cI, 5, .inl fC)), (aMT, .inl (cI, 320, .inl fT))] H → va_D A [(aM, .inr (4, [.int cnt, .int vec, .ref aMS, .ref aMC, .ref aMT])), (aMC, .inl (cI, 5, .inl fC)), (aMT, .inl (cI, 320, .inl fT))] → va_S A s.heap H locs → ∀ (ls : Array Slot), lv_has ls 4 [(0, .ref aM), (1, .int v1), (2, .int acc), (3, .int xi)] → W p l e ({ frames := 2, cells := 0, slots := 0, locals := 43 } : Room) s m args below meth c H locs 0 0 Q (F0 m 36 ls [])) :
    ∀ (n : Nat) (i : Nat) (xi : Int32) (acc : Int32) (_ : i ≤ nc) (_ : xi = nI i) (_ : acc = q_chg cnt vec fT fC v1 i) (_ : nc - i < n) (H : Heap) (locs : List Loc), va_P (dC, dI) vw_cls [(aM, .inr (4, [.int cnt, .int vec, .ref aMS, .ref aMC, .ref aMT])), (aMC, .inl (cI, 5, .inl fC)), (aMT, .inl (cI, 320, .inl fT))] H → va_D A [(aM, .inr (4, [.int cnt, .int vec, .ref aMS, .ref aMC, .ref aMT])), (aMC, .inl (cI, 5, .inl fC)), (aMT, .inl (cI, 320, .inl fT))] → va_S A s.heap H locs → ∀ (ls : Array Slot), lv_has ls 4 [(0, .ref aM), (1, .int v1), (2, .int acc), (3, .int xi)] → W p l e ({ frames := 2, cells := 0, slots := 0, locals := 43 } : Room) s m args below meth c H locs 0 0 Q (F0 m 4 ls []) := by
  obtain ⟨hK, hN⟩ := id hKN
  intro n
  induction n with
  | zero =>
    intro i xi acc hi exi eacc hm
    exact absurd hm (Nat.not_lt_zero _)
  | succ n ih =>
    intro i xi acc hi exi eacc hm H locs hP hD hS ls hl
    refine lv_iload_n hx hb d_Machines_changesOf_4 rfl (lv_at hl 3 rfl) ?_
    refine lv_aload_n hx hb d_Machines_changesOf_5 rfl (lv_at hl 0 rfl) ?_
    refine va_get (D := (dC, dI)) (ci := 4) (v := .int cnt) (C := R_Machines) (T := T_Machines) (N := 5) hx hb hts in_Machines hown hK hP 0 rfl rfl 0 (by decide) (hts _ tw_46) (fun _ h9 => h9) rfl d_Machines_changesOf_6 ?_
    refine lv_icmp_ge (tgt := 36) hx hb d_Machines_changesOf_9 (by decide) (fun c_1 => ?_) (fun c_1 => ?_)
    · skip
      have hin : i = nc := by
        rcases Nat.lt_or_ge i nc with q | q
        · rw [hcnt, exi] at c_1; exact absurd c_1 (nI_ge q (by omega))
        · omega
      exact kx_36 i xi acc hi exi eacc (by omega) H locs (hP.sub [0, 1, 2] rfl) (hD.sub [0, 1, 2] (by decide) rfl) hS ls (lv_sub hl [0, 1, 2, 3] rfl)
    · skip
      have hlt : i < nc := by
        rcases Nat.lt_or_ge i nc with q | q
        · exact q
        · exact absurd (by rw [hcnt, exi]; exact nI_le q (by omega)) c_1
      refine lv_aload_n hx hb d_Machines_changesOf_12 rfl (lv_at hl 0 rfl) ?_
      refine lv_iload_n hx hb d_Machines_changesOf_13 rfl (lv_at hl 1 rfl) ?_
      refine lv_iload_n hx hb d_Machines_changesOf_14 rfl (lv_at hl 3 rfl) ?_
      have hPc := hP.sub (ws' := [(aM, .inr (4, [.int cnt, .int vec, .ref aMS, .ref aMC, .ref aMT])), (aMT, .inl (cI, 320, .inl fT))]) [0, 2] rfl
      have hDc := hD.sub (ws' := [(aM, .inr (4, [.int cnt, .int vec, .ref aMS, .ref aMC, .ref aMT])), (aMT, .inl (cI, 320, .inl fT))]) [0, 2] (by decide) rfl
      have hFc := va_free (wc := [(aM, .inr (4, [.int cnt, .int vec, .ref aMS, .ref aMC, .ref aMT])), (aMT, .inl (cI, 320, .inl fT))]) hD hS hA [0, 2] rfl
      refine va_calli (va_runV (As := [.int v1, .int xi]) (rest := []) ⟨hx, hb, hml, hown, hts⟩ (k_sin l dC dI H.size cI cZ cQ aM aMS aMC aMT cnt vec fT v1 xi nc nv hcnt hvec hnc hnv) ⟨(callB_of 2 hts (ga_all tw_267) rfl rfl rfl (hts _ tw_23) (hts _ tw_264) (by decide +kernel) ⟨Nat.le_of_ble_eq_true rfl, Nat.le_of_ble_eq_true rfl⟩), hts _ tw_265, hts _ tw_266⟩ ⟨fun a U g mk q => by obtain ⟨q0, q1, qP, qK, qD⟩ := q; exact ⟨q0, q1, qP, g_K.same (u := U) (U := U.calling g mk a) rfl qK, qD⟩, va_recv hK hPc (ci := 4) (q0 := 0) rfl rfl, fun U hU hW => ⟨rfl, by rw [hU], by rw [hU]; exact hPc, g_K.warm hW hKN, hDc.weaken (fun _ _ _ _ => trivial)⟩⟩ rfl rfl hl.1 rfl (lv_room (Nat.le_of_ble_eq_true rfl)) d_Machines_changesOf_15 ⟨Nat.le_of_ble_eq_true rfl, Nat.le_of_ble_eq_true rfl⟩) hS (fun q _ h => hFc q h) hFc (fun r_2 u t H1 locs htt hvm hw_3 hBB hzz hkk hS => ?_)
      have hw_3 : r_2 = q_sin cnt vec fT v1 xi := hw_3
      obtain ⟨hPP, hDD⟩ := hBB
      rw [htt] at hPP
      have hPP : va_P (dC, dI) vw_cls [(aM, .inr (4, [.int cnt, .int vec, .ref aMS, .ref aMC, .ref aMT])), (aMT, .inl (cI, 320, .inl fT))] H1 := hPP
      have hDD : va_D (va_A [(aM, .inr (4, [.int cnt, .int vec, .ref aMS, .ref aMC, .ref aMT])), (aMT, .inl (cI, 320, .inl fT))] H.size) [(aM, .inr (4, [.int cnt, .int vec, .ref aMS, .ref aMC, .ref aMT])), (aMT, .inl (cI, 320, .inl fT))] := hDD
      obtain ⟨hP, hD⟩ := va_join (wr := [(aMC, .inl (cI, 5, .inl fC))]) (w1 := [(aM, .inr (4, [.int cnt, .int vec, .ref aMS, .ref aMC, .ref aMT])), (aMT, .inl (cI, 320, .inl fT))]) hP hD [0, 2] [1] rfl rfl (by decide) (by decide) hkk hFc hPP hDD
      generalize H1 = H at hP hS ⊢
      have hP : va_P (dC, dI) vw_cls [(aMC, .inl (cI, 5, .inl fC)), (aM, .inr (4, [.int cnt, .int vec, .ref aMS, .ref aMC, .ref aMT])), (aMT, .inl (cI, 320, .inl fT))] H := hP
      have hD : va_D A [(aMC, .inl (cI, 5, .inl fC)), (aM, .inr (4, [.int cnt, .int vec, .ref aMS, .ref aMC, .ref aMT])), (aMT, .inl (cI, 320, .inl fT))] := hD
      refine lv_aload_n hx hb d_Machines_changesOf_18 rfl (lv_at hl 0 rfl) ?_
      refine va_get (D := (dC, dI)) (ci := 4) (v := .ref aMC) (C := R_Machines) (T := T_Machines) (N := 5) hx hb hts in_Machines hown hK hP 1 rfl rfl 3 (by decide) (hts _ tw_52) (fun _ h9 => h9) rfl d_Machines_changesOf_19 ?_
      refine lv_iload_n hx hb d_Machines_changesOf_22 rfl (lv_at hl 3 rfl) ?_
      have eh_4 : xi = nI (i) := exi
      have bh_4 : i < 5 := by omega
      have h_4 : vp_in xi 5 := by rw [eh_4]; exact vp_in_nI bh_4 (by decide)
      have kh_4 : xi.toNatClampNeg = i := by rw [eh_4]; exact nI_clamp (by omega)
      refine va_iald hx hb hK hP 0 0 rfl rfl h_4 d_Machines_changesOf_23 ?_
      rw [kh_4]
      refine lv_topi (fun v_5 ev_5 => ?_)
      refine lv_icmp_eq (tgt := 30) hx hb d_Machines_changesOf_24 (by decide) (fun c_6 => ?_) (fun c_6 => ?_)
      · skip
        have cq : q_sin cnt vec fT v1 (nI i) = fC i := by rw [← exi, ← hw_3, c_6, ev_5]
        obtain ⟨v_7, ev_7⟩ : ∃ y : Int32, y = xi + 1 := ⟨_, rfl⟩
        refine lv_iinc (v := v_7) (lv' := [(3, .int v_7), (0, .ref aM), (1, .int v1), (2, .int acc)]) hx hb d_Machines_changesOf_30 hl (k := 3) rfl (by rw [ev_7]; rfl) (by decide) rfl (fun ls hl => ?_)
        refine lv_goto (tgt := 4) hx hb d_Machines_changesOf_33 (by decide) ?_
        exact ih (i + 1) v_7 acc (by omega) (by simp only [ev_5, ev_7, exi]; exact nI_1 i) (by simp [q_chg, cq, ev_5, ev_7, eacc]) (by omega) H locs (hP.sub [1, 0, 2] rfl) (hD.sub [1, 0, 2] (by decide) rfl) hS ls (lv_sub hl [1, 2, 3, 0] rfl)
      · skip
        have cq : ¬ q_sin cnt vec fT v1 (nI i) = fC i := by rw [← exi, ← hw_3, ← ev_5]; exact c_6
        obtain ⟨v_8, ev_8⟩ : ∃ y : Int32, y = acc + 1 := ⟨_, rfl⟩
        refine lv_iinc (v := v_8) (lv' := [(2, .int v_8), (0, .ref aM), (1, .int v1), (3, .int xi)]) hx hb d_Machines_changesOf_27 hl (k := 2) rfl (by rw [ev_8]; rfl) (by decide) rfl (fun ls hl => ?_)
        obtain ⟨v_9, ev_9⟩ : ∃ y : Int32, y = xi + 1 := ⟨_, rfl⟩
        refine lv_iinc (v := v_9) (lv' := [(3, .int v_9), (2, .int v_8), (0, .ref aM), (1, .int v1)]) hx hb d_Machines_changesOf_30 hl (k := 3) rfl (by rw [ev_9]; rfl) (by decide) rfl (fun ls hl => ?_)
        refine lv_goto (tgt := 4) hx hb d_Machines_changesOf_33 (by decide) ?_
        exact ih (i + 1) v_9 v_8 (by omega) (by simp only [ev_5, ev_8, ev_9, exi]; exact nI_1 i) (by simp [q_chg, cq, ev_5, ev_8, ev_9, eacc]) (by omega) H locs (hP.sub [1, 0, 2] rfl) (hD.sub [1, 0, 2] (by decide) rfl) hS ls (lv_sub hl [2, 3, 1, 0] rfl)
set_option maxHeartbeats 4000000 in
set_option maxRecDepth 100000 in
/-- changesOf -/
theorem k_chg (l : Launch) (dC : Nat → ClassId) (dI : Nat → Nat → Nat) (sz : Nat) (cI : ClassId) (cZ : ClassId) (cQ : ClassId) (aM : Nat) (aMS : Nat) (aMC : Nat) (aMT : Nat) (cnt : Int32) (vec : Int32) (fC : Nat → Int32) (fT : Nat → Int32) (v1 : Int32) (nc : Nat) (nv : Nat) (hcnt : cnt = nI nc) (hvec : vec = nI nv) (hnc : nc ≤ 5) (hnv : nv ≤ 64) : Met l y_Machines_changesOf w_Machines_changesOf ({ frames := 2, cells := 0, slots := 0, locals := 43 } : Room) (va_Pc [.ref aM, .int v1] (fun U => U.heap.size = sz ∧ va_P (dC, dI) vw_cls [(aM, .inr (4, [.int cnt, .int vec, .ref aMS, .ref aMC, .ref aMT])), (aMC, .inl (cI, 5, .inl fC)), (aMT, .inl (cI, 320, .inl fT))] U.heap ∧ g_K dC dI [(cI, .int), (cZ, .boolean), (cQ, (.object "SettingSearch$Answers"))] U ∧ va_D (fun _ => True) [(aM, .inr (4, [.int cnt, .int vec, .ref aMS, .ref aMC, .ref aMT])), (aMC, .inl (cI, 5, .inl fC)), (aMT, .inl (cI, 320, .inl fT))])) (va_Qi (fun (r : Int32) (u : Unit) => r = q_chg cnt vec fT fC v1 nc) (fun (u : Unit) (t : State) => va_P (dC, dI) vw_cls [(aM, .inr (4, [.int cnt, .int vec, .ref aMS, .ref aMC, .ref aMT])), (aMC, .inl (cI, 5, .inl fC)), (aMT, .inl (cI, 320, .inl fT))] t.heap ∧ va_D (va_A [(aM, .inr (4, [.int cnt, .int vec, .ref aMS, .ref aMC, .ref aMT])), (aMC, .inl (cI, 5, .inl fC)), (aMT, .inl (cI, 320, .inl fT))] sz) [(aM, .inr (4, [.int cnt, .int vec, .ref aMS, .ref aMC, .ref aMT])), (aMC, .inl (cI, 5, .inl fC)), (aMT, .inl (cI, 320, .inl fT))]) (va_A [(aM, .inr (4, [.int cnt, .int vec, .ref aMS, .ref aMC, .ref aMT])), (aMC, .inl (cI, 5, .inl fC)), (aMT, .inl (cI, 320, .inl fT))] sz)) 0 0 (va_A [(aM, .inr (4, [.int cnt, .int vec, .ref aMS, .ref aMC, .ref aMT])), (aMC, .inl (cI, 5, .inl fC)), (aMT, .inl (cI, 320, .inl fT))] sz) := by
  refine Met.ofW (cc := b_Machines_changesOf) (maxL := 4) (ret := (some .int)) (by decide) rfl ?_
  intro p e s m args below meth c s₁ B hml hv
  obtain ⟨rfl, hsz, hP, hKN, hD0⟩ := hv
  obtain ⟨hK, hN⟩ := id hKN
  have hx := B.exec
  have hb := B.bytes
  have hr := B.returns
  have hts0 := atoms_spec (ws := w_Machines_changesOf) B.pre
  have hts : ∀ w ∈ lw_g, w.before _ s = true := fun w h => hts0 w (List.mem_cons_of_mem _ h)
  have hown : s.vm.findClass R_Machines = some m.cls := findClass_of_methodNamed B.named
  have hlocks := B.notSynchronized
  subst hsz
  have hD := hD0.self (sz := s.heap.size)
  generalize hAe : va_A [(aM, .inr (4, [.int cnt, .int vec, .ref aMS, .ref aMC, .ref aMT])), (aMC, .inl (cI, 5, .inl fC)), (aMT, .inl (cI, 320, .inl fT))] s.heap.size = A at hD ⊢
  have hA : ∀ q : Nat, s.heap.size ≤ q → A q := fun q h => by rw [← hAe]; exact Or.inr h
  have hP : va_P (dC, dI) vw_cls [(aM, .inr (4, [.int cnt, .int vec, .ref aMS, .ref aMC, .ref aMT])), (aMC, .inl (cI, 5, .inl fC)), (aMT, .inl (cI, 320, .inl fT))] s.heap := hP
  have hl := lv_entry ([.ref aM, .int v1]) (n := 4) (Nat.le_of_ble_eq_true rfl)
  rw [lg_entry_eq]
  generalize (lg_sl ([.ref aM, .int v1]) ++ List.replicate (4 - (lg_sl ([.ref aM, .int v1])).length) Slot.unset).toArray = ls at hl ⊢
  have hl : lv_has ls 4 [(0, .ref aM), (1, .int v1)] := hl
  refine gw_start (fun H locs hH hlocs => ?_)
  rw [← hH] at hP
  have hS : va_S A s.heap H locs := by rw [hH, hlocs]; exact va_S.rf
  refine lv_iconst (v := 0) hx hb d_Machines_changesOf_0 (by decide) ?_
  refine lv_istore_n (lv' := [(2, .int 0), (0, .ref aM), (1, .int v1)]) hx hb d_Machines_changesOf_1 rfl hl (by decide) rfl (fun ls hl => ?_)
  refine lv_iconst (v := 0) hx hb d_Machines_changesOf_2 (by decide) ?_
  refine lv_istore_n (lv' := [(3, .int 0), (2, .int 0), (0, .ref aM), (1, .int v1)]) hx hb d_Machines_changesOf_3 rfl hl (by decide) rfl (fun ls hl => ?_)
  refine L_chg hx hb hml hown hts hA cI cZ cQ aM aMS aMC aMT cnt vec fC fT v1 nc nv hcnt hvec hnc hnv hKN ?_ (nc - 0 + 1) 0 0 0 (Nat.zero_le _) rfl rfl (Nat.lt_succ_self _) H locs (hP.sub [0, 1, 2] rfl) (hD.sub [0, 1, 2] (by decide) rfl) hS ls (lv_sub hl [2, 3, 1, 0] rfl)
  intro i xi acc hi exi eacc hin H locs hP hD hS ls hl
  have hl : lv_has ls 4 [(0, .ref aM), (1, .int v1), (2, .int acc), (3, .int xi)] := hl
  have hP : va_P (dC, dI) vw_cls [(aM, .inr (4, [.int cnt, .int vec, .ref aMS, .ref aMC, .ref aMT])), (aMC, .inl (cI, 5, .inl fC)), (aMT, .inl (cI, 320, .inl fT))] H := hP
  have hD : va_D A [(aM, .inr (4, [.int cnt, .int vec, .ref aMS, .ref aMC, .ref aMT])), (aMC, .inl (cI, 5, .inl fC)), (aMT, .inl (cI, 320, .inl fT))] := hD
  refine lv_iload_n hx hb d_Machines_changesOf_36 rfl (lv_at hl 2 rfl) ?_
  have hP9 := hP.sub (ws' := [(aM, .inr (4, [.int cnt, .int vec, .ref aMS, .ref aMC, .ref aMT])), (aMC, .inl (cI, 5, .inl fC)), (aMT, .inl (cI, 320, .inl fT))]) [0, 1, 2] rfl
  have hD9 := hD.sub (ws' := [(aM, .inr (4, [.int cnt, .int vec, .ref aMS, .ref aMC, .ref aMT])), (aMC, .inl (cI, 5, .inl fC)), (aMT, .inl (cI, 320, .inl fT))]) [0, 1, 2] (by decide) rfl
  have hpost_1 : (acc : Int32) = q_chg cnt vec fT fC v1 nc := by rw [eacc, hin]
  exact W.iret (v := acc) hx hb hr (fun t ht hW => ⟨⟨acc, (), rfl, hpost_1, by rw [ht]; exact hP9, hD9⟩, hS.F ht⟩) hS.2.2 d_Machines_changesOf_37
set_option maxHeartbeats 4000000 in
set_option maxRecDepth 100000 in
theorem L_bec {p : Program} {l : Launch} {e : Env} {s : State} {m : MethodId} {args : Array Value} {below : List Frame} {meth : Method} {c : Code} {Q : State → Prop} {A : Nat → Prop} (hx : p.tables.exec = Jvm.exec) (hb : c.code = b_Machines_become) (hml : c.maxLocals = 3) (hown : s.vm.findClass R_Machines = some m.cls) (hts : ∀ w ∈ lw_g, w.before args s = true) (hA : ∀ q, s.heap.size ≤ q → A q) {dC : Nat → ClassId} {dI : Nat → Nat → Nat} (cI : ClassId) (cZ : ClassId) (cQ : ClassId) (aM : Nat) (aMS : Nat) (aMC : Nat) (aMT : Nat) (cnt : Int32) (vec : Int32) (fC : Nat → Int32) (fT : Nat → Int32) (v1 : Int32) (nc : Nat) (nv : Nat)  (hcnt : cnt = nI nc) (hvec : vec = nI nv) (hnc : nc ≤ 5) (hnv : nv ≤ 64)  (hKN : g_K dC dI [(cI, .int), (cZ, .boolean), (cQ, (.object "SettingSearch$Answers"))] s)
    (kx_28 : ∀ (i : Nat) (xi : Int32) (g : Nat → Int32) (_ : i ≤ nc) (_ : xi = nI i) (_ : g = q_bec cnt vec fT fC v1 i) (_ : i = nc) (H : Heap) (locs : List Loc), va_P (dC, dI) vw_cls [(aM, .inr (4, [.int cnt, .int vec, .ref aMS, .ref aMC, .ref aMT])), (aMC, .inl (cI, 5, .inl g)), (aMT, .inl (cI, 320, .inl fT))] H → va_D A [(aM, .inr (4, [.int cnt, .int vec, .ref aMS, .ref aMC, .ref aMT])), (aMC, .inl (cI, 5, .inl g)), (aMT, .inl (cI, 320, .inl fT))] → va_S A s.heap H locs → ∀ (ls : Array Slot), lv_has ls 3 [(0, .ref aM), (1, .int v1), (2, .int xi)] → W p l e ({ frames := 2, cells := 0, slots := 0, locals := 43 } : Room) s m args below meth c H locs 0 0 Q (F0 m 28 ls [])) :
    ∀ (n : Nat) (i : Nat) (xi : Int32) (g : Nat → Int32) (_ : i ≤ nc) (_ : xi = nI i) (_ : g = q_bec cnt vec fT fC v1 i) (_ : nc - i < n) (H : Heap) (locs : List Loc), va_P (dC, dI) vw_cls [(aM, .inr (4, [.int cnt, .int vec, .ref aMS, .ref aMC, .ref aMT])), (aMC, .inl (cI, 5, .inl g)), (aMT, .inl (cI, 320, .inl fT))] H → va_D A [(aM, .inr (4, [.int cnt, .int vec, .ref aMS, .ref aMC, .ref aMT])), (aMC, .inl (cI, 5, .inl g)), (aMT, .inl (cI, 320, .inl fT))] → va_S A s.heap H locs → ∀ (ls : Array Slot), lv_has ls 3 [(0, .ref aM), (1, .int v1), (2, .int xi)] → W p l e ({ frames := 2, cells := 0, slots := 0, locals := 43 } : Room) s m args below meth c H locs 0 0 Q (F0 m 2 ls []) := by
  obtain ⟨hK, hN⟩ := id hKN
  intro n
  induction n with
  | zero =>
    intro i xi g hi exi eg hm
    exact absurd hm (Nat.not_lt_zero _)
  | succ n ih =>
    intro i xi g hi exi eg hm H locs hP hD hS ls hl
    refine lv_iload_n hx hb d_Machines_become_2 rfl (lv_at hl 2 rfl) ?_
    refine lv_aload_n hx hb d_Machines_become_3 rfl (lv_at hl 0 rfl) ?_
    refine va_get (D := (dC, dI)) (ci := 4) (v := .int cnt) (C := R_Machines) (T := T_Machines) (N := 5) hx hb hts in_Machines hown hK hP 0 rfl rfl 0 (by decide) (hts _ tw_46) (fun _ h9 => h9) rfl d_Machines_become_4 ?_
    refine lv_icmp_ge (tgt := 28) hx hb d_Machines_become_7 (by decide) (fun c_1 => ?_) (fun c_1 => ?_)
    · skip
      have hendi := lp_ge (N := nc) c_1 exi hcnt hi (by omega)
      exact kx_28 i xi g hi exi eg hendi H locs (hP.sub [0, 1, 2] rfl) (hD.sub [0, 1, 2] (by decide) rfl) hS ls (lv_sub hl [0, 1, 2] rfl)
    · skip
      have hlti := lp_lt (N := nc) c_1 exi hcnt (by omega)
      refine lv_aload_n hx hb d_Machines_become_10 rfl (lv_at hl 0 rfl) ?_
      refine va_get (D := (dC, dI)) (ci := 4) (v := .ref aMC) (C := R_Machines) (T := T_Machines) (N := 5) hx hb hts in_Machines hown hK hP 0 rfl rfl 3 (by decide) (hts _ tw_52) (fun _ h9 => h9) rfl d_Machines_become_11 ?_
      refine lv_iload_n hx hb d_Machines_become_14 rfl (lv_at hl 2 rfl) ?_
      refine lv_aload_n hx hb d_Machines_become_15 rfl (lv_at hl 0 rfl) ?_
      refine lv_iload_n hx hb d_Machines_become_16 rfl (lv_at hl 1 rfl) ?_
      refine lv_iload_n hx hb d_Machines_become_17 rfl (lv_at hl 2 rfl) ?_
      have hPc := hP.sub (ws' := [(aM, .inr (4, [.int cnt, .int vec, .ref aMS, .ref aMC, .ref aMT])), (aMT, .inl (cI, 320, .inl fT))]) [0, 2] rfl
      have hDc := hD.sub (ws' := [(aM, .inr (4, [.int cnt, .int vec, .ref aMS, .ref aMC, .ref aMT])), (aMT, .inl (cI, 320, .inl fT))]) [0, 2] (by decide) rfl
      have hFc := va_free (wc := [(aM, .inr (4, [.int cnt, .int vec, .ref aMS, .ref aMC, .ref aMT])), (aMT, .inl (cI, 320, .inl fT))]) hD hS hA [0, 2] rfl
      refine va_calli (va_runV (As := [.int v1, .int xi]) (rest := [.int xi, .ref aMC]) ⟨hx, hb, hml, hown, hts⟩ (k_sin l dC dI H.size cI cZ cQ aM aMS aMC aMT cnt vec fT v1 xi nc nv hcnt hvec hnc hnv) ⟨(callB_of 2 hts (ga_all tw_267) rfl rfl rfl (hts _ tw_23) (hts _ tw_264) (by decide +kernel) ⟨Nat.le_of_ble_eq_true rfl, Nat.le_of_ble_eq_true rfl⟩), hts _ tw_265, hts _ tw_266⟩ ⟨fun a U g mk q => by obtain ⟨q0, q1, qP, qK, qD⟩ := q; exact ⟨q0, q1, qP, g_K.same (u := U) (U := U.calling g mk a) rfl qK, qD⟩, va_recv hK hPc (ci := 4) (q0 := 0) rfl rfl, fun U hU hW => ⟨rfl, by rw [hU], by rw [hU]; exact hPc, g_K.warm hW hKN, hDc.weaken (fun _ _ _ _ => trivial)⟩⟩ rfl rfl hl.1 rfl (lv_room (Nat.le_of_ble_eq_true rfl)) d_Machines_become_18 ⟨Nat.le_of_ble_eq_true rfl, Nat.le_of_ble_eq_true rfl⟩) hS (fun q _ h => hFc q h) hFc (fun r_2 u t H1 locs htt hvm hw_3 hBB hzz hkk hS => ?_)
      have hw_3 : r_2 = q_sin cnt vec fT v1 xi := hw_3
      obtain ⟨hPP, hDD⟩ := hBB
      rw [htt] at hPP
      have hPP : va_P (dC, dI) vw_cls [(aM, .inr (4, [.int cnt, .int vec, .ref aMS, .ref aMC, .ref aMT])), (aMT, .inl (cI, 320, .inl fT))] H1 := hPP
      have hDD : va_D (va_A [(aM, .inr (4, [.int cnt, .int vec, .ref aMS, .ref aMC, .ref aMT])), (aMT, .inl (cI, 320, .inl fT))] H.size) [(aM, .inr (4, [.int cnt, .int vec, .ref aMS, .ref aMC, .ref aMT])), (aMT, .inl (cI, 320, .inl fT))] := hDD
      obtain ⟨hP, hD⟩ := va_join (wr := [(aMC, .inl (cI, 5, .inl g))]) (w1 := [(aM, .inr (4, [.int cnt, .int vec, .ref aMS, .ref aMC, .ref aMT])), (aMT, .inl (cI, 320, .inl fT))]) hP hD [0, 2] [1] rfl rfl (by decide) (by decide) hkk hFc hPP hDD
      generalize H1 = H at hP hS ⊢
      have hP : va_P (dC, dI) vw_cls [(aMC, .inl (cI, 5, .inl g)), (aM, .inr (4, [.int cnt, .int vec, .ref aMS, .ref aMC, .ref aMT])), (aMT, .inl (cI, 320, .inl fT))] H := hP
      have hD : va_D A [(aMC, .inl (cI, 5, .inl g)), (aM, .inr (4, [.int cnt, .int vec, .ref aMS, .ref aMC, .ref aMT])), (aMT, .inl (cI, 320, .inl fT))] := hD
      have eh_4 : xi = nI (i) := exi
      have bh_4 : i < 5 := by omega
      have h_4 : vp_in xi 5 := by rw [eh_4]; exact vp_in_nI bh_4 (by decide)
      have kh_4 : xi.toNatClampNeg = i := by rw [eh_4]; exact nI_clamp (by omega)
      refine va_iast hx hb hK hP hD hS 0 0 rfl rfl h_4 d_Machines_become_21 (fun H locs hP hD hS => ?_)
      rw [kh_4] at hP hD
      obtain ⟨g2, eg2⟩ : ∃ y : Nat → Int32, y = upd g (i) r_2 := ⟨_, rfl⟩
      rw [← eg2] at hP hD
      have hP : va_P (dC, dI) vw_cls [(aMC, .inl (cI, 5, .inl g2)), (aM, .inr (4, [.int cnt, .int vec, .ref aMS, .ref aMC, .ref aMT])), (aMT, .inl (cI, 320, .inl fT))] H := hP
      have hD : va_D A [(aMC, .inl (cI, 5, .inl g2)), (aM, .inr (4, [.int cnt, .int vec, .ref aMS, .ref aMC, .ref aMT])), (aMT, .inl (cI, 320, .inl fT))] := hD
      obtain ⟨v_5, ev_5⟩ : ∃ y : Int32, y = xi + 1 := ⟨_, rfl⟩
      refine lv_iinc (v := v_5) (lv' := [(2, .int v_5), (0, .ref aM), (1, .int v1)]) hx hb d_Machines_become_22 hl (k := 2) rfl (by rw [ev_5]; rfl) (by decide) rfl (fun ls hl => ?_)
      refine lv_goto (tgt := 2) hx hb d_Machines_become_25 (by decide) ?_
      exact ih (i + 1) v_5 g2 hlti (by rw [ev_5, exi]; exact nI_1 i) (by rw [eg2, hw_3, exi, eg]; rfl) (by omega) H locs (hP.sub [1, 0, 2] rfl) (hD.sub [1, 0, 2] (by decide) rfl) hS ls (lv_sub hl [1, 2, 0] rfl)
set_option maxHeartbeats 4000000 in
set_option maxRecDepth 100000 in
/-- become -/
theorem k_bec (l : Launch) (dC : Nat → ClassId) (dI : Nat → Nat → Nat) (sz : Nat) (cI : ClassId) (cZ : ClassId) (cQ : ClassId) (aM : Nat) (aMS : Nat) (aMC : Nat) (aMT : Nat) (cnt : Int32) (vec : Int32) (fC : Nat → Int32) (fT : Nat → Int32) (v1 : Int32) (nc : Nat) (nv : Nat) (hcnt : cnt = nI nc) (hvec : vec = nI nv) (hnc : nc ≤ 5) (hnv : nv ≤ 64) : Met l y_Machines_become w_Machines_become ({ frames := 2, cells := 0, slots := 0, locals := 43 } : Room) (va_Pc [.ref aM, .int v1] (fun U => U.heap.size = sz ∧ va_P (dC, dI) vw_cls [(aM, .inr (4, [.int cnt, .int vec, .ref aMS, .ref aMC, .ref aMT])), (aMC, .inl (cI, 5, .inl fC)), (aMT, .inl (cI, 320, .inl fT))] U.heap ∧ g_K dC dI [(cI, .int), (cZ, .boolean), (cQ, (.object "SettingSearch$Answers"))] U ∧ va_D (fun _ => True) [(aM, .inr (4, [.int cnt, .int vec, .ref aMS, .ref aMC, .ref aMT])), (aMC, .inl (cI, 5, .inl fC)), (aMT, .inl (cI, 320, .inl fT))])) (va_Qv (fun (u : (Nat → Int32)) => u = q_bec cnt vec fT fC v1 nc) (fun (u : (Nat → Int32)) (t : State) => va_P (dC, dI) vw_cls [(aM, .inr (4, [.int cnt, .int vec, .ref aMS, .ref aMC, .ref aMT])), (aMC, .inl (cI, 5, .inl u)), (aMT, .inl (cI, 320, .inl fT))] t.heap ∧ va_D (va_A [(aM, .inr (4, [.int cnt, .int vec, .ref aMS, .ref aMC, .ref aMT])), (aMC, .inl (cI, 5, .inl fC)), (aMT, .inl (cI, 320, .inl fT))] sz) [(aM, .inr (4, [.int cnt, .int vec, .ref aMS, .ref aMC, .ref aMT])), (aMC, .inl (cI, 5, .inl u)), (aMT, .inl (cI, 320, .inl fT))]) (va_A [(aM, .inr (4, [.int cnt, .int vec, .ref aMS, .ref aMC, .ref aMT])), (aMC, .inl (cI, 5, .inl fC)), (aMT, .inl (cI, 320, .inl fT))] sz)) 0 0 (va_A [(aM, .inr (4, [.int cnt, .int vec, .ref aMS, .ref aMC, .ref aMT])), (aMC, .inl (cI, 5, .inl fC)), (aMT, .inl (cI, 320, .inl fT))] sz) := by
  refine Met.ofW (cc := b_Machines_become) (maxL := 3) (ret := none) (by decide) rfl ?_
  intro p e s m args below meth c s₁ B hml hv
  obtain ⟨rfl, hsz, hP, hKN, hD0⟩ := hv
  obtain ⟨hK, hN⟩ := id hKN
  have hx := B.exec
  have hb := B.bytes
  have hr := B.returns
  have hts0 := atoms_spec (ws := w_Machines_become) B.pre
  have hts : ∀ w ∈ lw_g, w.before _ s = true := fun w h => hts0 w (List.mem_cons_of_mem _ h)
  have hown : s.vm.findClass R_Machines = some m.cls := findClass_of_methodNamed B.named
  have hlocks := B.notSynchronized
  subst hsz
  have hD := hD0.self (sz := s.heap.size)
  generalize hAe : va_A [(aM, .inr (4, [.int cnt, .int vec, .ref aMS, .ref aMC, .ref aMT])), (aMC, .inl (cI, 5, .inl fC)), (aMT, .inl (cI, 320, .inl fT))] s.heap.size = A at hD ⊢
  have hA : ∀ q : Nat, s.heap.size ≤ q → A q := fun q h => by rw [← hAe]; exact Or.inr h
  have hP : va_P (dC, dI) vw_cls [(aM, .inr (4, [.int cnt, .int vec, .ref aMS, .ref aMC, .ref aMT])), (aMC, .inl (cI, 5, .inl fC)), (aMT, .inl (cI, 320, .inl fT))] s.heap := hP
  have hl := lv_entry ([.ref aM, .int v1]) (n := 3) (Nat.le_of_ble_eq_true rfl)
  rw [lg_entry_eq]
  generalize (lg_sl ([.ref aM, .int v1]) ++ List.replicate (3 - (lg_sl ([.ref aM, .int v1])).length) Slot.unset).toArray = ls at hl ⊢
  have hl : lv_has ls 3 [(0, .ref aM), (1, .int v1)] := hl
  refine gw_start (fun H locs hH hlocs => ?_)
  rw [← hH] at hP
  have hS : va_S A s.heap H locs := by rw [hH, hlocs]; exact va_S.rf
  refine lv_iconst (v := 0) hx hb d_Machines_become_0 (by decide) ?_
  refine lv_istore_n (lv' := [(2, .int 0), (0, .ref aM), (1, .int v1)]) hx hb d_Machines_become_1 rfl hl (by decide) rfl (fun ls hl => ?_)
  refine L_bec hx hb hml hown hts hA cI cZ cQ aM aMS aMC aMT cnt vec fC fT v1 nc nv hcnt hvec hnc hnv hKN ?_ (nc - 0 + 1) 0 0 fC (Nat.zero_le _) rfl rfl (Nat.lt_succ_self _) H locs (hP.sub [0, 1, 2] rfl) (hD.sub [0, 1, 2] (by decide) rfl) hS ls (lv_sub hl [1, 2, 0] rfl)
  intro i xi g hi exi eg hendi H locs hP hD hS ls hl
  have hl : lv_has ls 3 [(0, .ref aM), (1, .int v1), (2, .int xi)] := hl
  have hP : va_P (dC, dI) vw_cls [(aM, .inr (4, [.int cnt, .int vec, .ref aMS, .ref aMC, .ref aMT])), (aMC, .inl (cI, 5, .inl g)), (aMT, .inl (cI, 320, .inl fT))] H := hP
  have hD : va_D A [(aM, .inr (4, [.int cnt, .int vec, .ref aMS, .ref aMC, .ref aMT])), (aMC, .inl (cI, 5, .inl g)), (aMT, .inl (cI, 320, .inl fT))] := hD
  have hP9 := hP.sub (ws' := [(aM, .inr (4, [.int cnt, .int vec, .ref aMS, .ref aMC, .ref aMT])), (aMC, .inl (cI, 5, .inl g)), (aMT, .inl (cI, 320, .inl fT))]) [0, 1, 2] rfl
  have hD9 := hD.sub (ws' := [(aM, .inr (4, [.int cnt, .int vec, .ref aMS, .ref aMC, .ref aMT])), (aMC, .inl (cI, 5, .inl g)), (aMT, .inl (cI, 320, .inl fT))]) [0, 1, 2] (by decide) rfl
  have hpost_1 : g = q_bec cnt vec fT fC v1 nc := by rw [eg, hendi]
  exact W.vret hx hb hr (fun t ht hW => ⟨⟨g, rfl, hpost_1, by rw [ht]; exact hP9, hD9⟩, hS.F ht⟩) hS.2.2 d_Machines_become_28
theorem rw_end {x : Int32} {nc j : Nat} (h : x < 0) (ex : x = nI (nc - j) - 1) (hj : j ≤ nc) (hn : nc < 2 ^ 31) : j = nc := by
  rcases Nat.lt_or_ge j nc with q | q
  · rw [ex, nI_down q] at h
    exact absurd h (nI_pos (by omega))
  · omega
theorem rw_in {x : Int32} {nc j : Nat} (h : ¬ x < 0) (ex : x = nI (nc - j) - 1) (hj : j ≤ nc) (hn : nc < 2 ^ 31) : j < nc := by
  rcases Nat.lt_or_ge j nc with q | q
  · exact q
  · exact absurd (by rw [ex, show nc - j = 0 by omega]; decide) h
theorem down2 {nc j : Nat} (h : j < nc) : nI (nc - 1 - j) + (-1) = nI (nc - (j + 1)) - 1 := by
  rw [show nc - (j + 1) = nc - 1 - j by omega]
  generalize nI (nc - 1 - j) = x
  rw [Int32.sub_eq_add_neg]
set_option maxHeartbeats 4000000 in
set_option maxRecDepth 100000 in
theorem L_row {p : Program} {l : Launch} {e : Env} {s : State} {m : MethodId} {args : Array Value} {below : List Frame} {meth : Method} {c : Code} {Q : State → Prop} {A : Nat → Prop} (hx : p.tables.exec = Jvm.exec) (hb : c.code = b_Machines_fillTable) (hml : c.maxLocals = 5) (hown : s.vm.findClass R_Machines = some m.cls) (hts : ∀ w ∈ lw_g, w.before args s = true) (hA : ∀ q, s.heap.size ≤ q → A q) {dC : Nat → ClassId} {dI : Nat → Nat → Nat} (cI : ClassId) (cZ : ClassId) (cQ : ClassId) (aM : Nat) (aMS : Nat) (aMC : Nat) (aMT : Nat) (cnt : Int32) (vec : Int32) (fS : Nat → Int32) (fT : Nat → Int32) (nc : Nat) (nv : Nat) (i : Nat) (xi : Int32) (T0 : Nat → Int32) (hcnt : cnt = nI nc) (hvec : vec = nI nv) (hnc : nc ≤ 5) (hnv : nv ≤ 64) (hnv1 : 1 ≤ nv) (hi : i + 1 ≤ nv) (exi : xi = nI (i + 1)) (hlti : i + 1 < nv) (hKN : g_K dC dI [(cI, .int), (cZ, .boolean), (cQ, (.object "SettingSearch$Answers"))] s)
    (kx_83 : ∀ (j : Nat) (xm : Int32) (cy : Int32) (T : Nat → Int32) (_ : j ≤ nc) (_ : xm = nI (nc - j) - 1) (_ : T = (q_rowT fS nc (i + 1) T0 j).1) (_ : cy = (q_rowT fS nc (i + 1) T0 j).2) (_ : j = nc) (H : Heap) (locs : List Loc), va_P (dC, dI) vw_cls [(aM, .inr (4, [.int cnt, .int vec, .ref aMS, .ref aMC, .ref aMT])), (aMS, .inl (cI, 5, .inl fS)), (aMT, .inl (cI, 320, .inl T))] H → va_D A [(aM, .inr (4, [.int cnt, .int vec, .ref aMS, .ref aMC, .ref aMT])), (aMS, .inl (cI, 5, .inl fS)), (aMT, .inl (cI, 320, .inl T))] → va_S A s.heap H locs → ∀ (ls : Array Slot), lv_has ls 5 [(0, .ref aM), (1, .int xi), (2, .int cy), (3, .int xm)] → W p l e ({ frames := 0, cells := 0, slots := 0, locals := 0 } : Room) s m args below meth c H locs 0 0 Q (F0 m 83 ls [])) :
    ∀ (n : Nat) (j : Nat) (xm : Int32) (cy : Int32) (T : Nat → Int32) (_ : j ≤ nc) (_ : xm = nI (nc - j) - 1) (_ : T = (q_rowT fS nc (i + 1) T0 j).1) (_ : cy = (q_rowT fS nc (i + 1) T0 j).2) (_ : nc - j < n) (H : Heap) (locs : List Loc), va_P (dC, dI) vw_cls [(aM, .inr (4, [.int cnt, .int vec, .ref aMS, .ref aMC, .ref aMT])), (aMS, .inl (cI, 5, .inl fS)), (aMT, .inl (cI, 320, .inl T))] H → va_D A [(aM, .inr (4, [.int cnt, .int vec, .ref aMS, .ref aMC, .ref aMT])), (aMS, .inl (cI, 5, .inl fS)), (aMT, .inl (cI, 320, .inl T))] → va_S A s.heap H locs → ∀ (ls : Array Slot), lv_has ls 5 [(0, .ref aM), (1, .int xi), (2, .int cy), (3, .int xm)] → W p l e ({ frames := 0, cells := 0, slots := 0, locals := 0 } : Room) s m args below meth c H locs 0 0 Q (F0 m 19 ls []) := by
  obtain ⟨hK, hN⟩ := id hKN
  intro n
  induction n with
  | zero =>
    intro j xm cy T hj exm eT ecy hm
    exact absurd hm (Nat.not_lt_zero _)
  | succ n ih =>
    intro j xm cy T hj exm eT ecy hm H locs hP hD hS ls hl
    refine lv_iload_n hx hb d_Machines_fillTable_19 rfl (lv_at hl 3 rfl) ?_
    refine lv_if_lt (tgt := 83) hx hb d_Machines_fillTable_20 (by decide) (fun c_1 => ?_) (fun c_1 => ?_)
    · skip
      have hendj : j = nc := rw_end c_1 exm hj (by omega)
      exact kx_83 j xm cy T hj exm eT ecy hendj H locs (hP.sub [0, 1, 2] rfl) (hD.sub [0, 1, 2] (by decide) rfl) hS ls (lv_sub hl [0, 1, 2, 3] rfl)
    · skip
      have hltj : j < nc := rw_in c_1 exm hj (by omega)
      have exm2 : xm = nI (nc - 1 - j) := by rw [exm]; exact nI_down hltj
      refine lv_aload_n hx hb d_Machines_fillTable_23 rfl (lv_at hl 0 rfl) ?_
      refine va_get (D := (dC, dI)) (ci := 4) (v := .ref aMT) (C := R_Machines) (T := T_Machines) (N := 5) hx hb hts in_Machines hown hK hP 0 rfl rfl 4 (by decide) (hts _ tw_53) (fun _ h9 => h9) rfl d_Machines_fillTable_24 ?_
      refine lv_iload_n hx hb d_Machines_fillTable_27 rfl (lv_at hl 1 rfl) ?_
      refine lv_iconst (v := 1) hx hb d_Machines_fillTable_28 (by decide) ?_
      refine lv_isub hx hb d_Machines_fillTable_29 ?_
      refine lv_topi (fun v_2 ev_2 => ?_)
      refine lv_iconst (v := 5) hx hb d_Machines_fillTable_30 (by decide) ?_
      refine lv_imul hx hb d_Machines_fillTable_31 ?_
      refine lv_topi (fun v_3 ev_3 => ?_)
      refine lv_iload_n hx hb d_Machines_fillTable_32 rfl (lv_at hl 3 rfl) ?_
      refine lv_iadd hx hb d_Machines_fillTable_33 ?_
      refine lv_topi (fun v_4 ev_4 => ?_)
      have eh_5 : v_4 = nI (i * 5 + (nc - 1 - j)) := by simp only [ev_2, ev_3, ev_4]; rw [exi, exm2, nI_back, ix_m5]
      have bh_5 : i * 5 + (nc - 1 - j) < 320 := by omega
      have h_5 : vp_in v_4 320 := by rw [eh_5]; exact vp_in_nI bh_5 (by decide)
      have kh_5 : v_4.toNatClampNeg = i * 5 + (nc - 1 - j) := by rw [eh_5]; exact nI_clamp (by omega)
      refine va_iald hx hb hK hP 2 0 rfl rfl h_5 d_Machines_fillTable_34 ?_
      rw [kh_5]
      refine lv_topi (fun v_6 ev_6 => ?_)
      refine lv_iload_n hx hb d_Machines_fillTable_35 rfl (lv_at hl 2 rfl) ?_
      refine lv_iadd hx hb d_Machines_fillTable_36 ?_
      refine lv_topi (fun v_7 ev_7 => ?_)
      refine lv_istore (lv' := [(4, .int v_7), (0, .ref aM), (1, .int xi), (2, .int cy), (3, .int xm)]) hx hb d_Machines_fillTable_37 hl (by decide) rfl (fun ls hl => ?_)
      refine lv_iload hx hb d_Machines_fillTable_39 (lv_at hl 0 rfl) ?_
      refine lv_aload_n hx hb d_Machines_fillTable_41 rfl (lv_at hl 1 rfl) ?_
      refine va_get (D := (dC, dI)) (ci := 4) (v := .ref aMS) (C := R_Machines) (T := T_Machines) (N := 5) hx hb hts in_Machines hown hK hP 0 rfl rfl 2 (by decide) (hts _ tw_51) (fun _ h9 => h9) rfl d_Machines_fillTable_42 ?_
      refine lv_iload_n hx hb d_Machines_fillTable_45 rfl (lv_at hl 4 rfl) ?_
      have eh_8 : xm = nI (nc - 1 - j) := exm2
      have bh_8 : nc - 1 - j < 5 := by omega
      have h_8 : vp_in xm 5 := by rw [eh_8]; exact vp_in_nI bh_8 (by decide)
      have kh_8 : xm.toNatClampNeg = nc - 1 - j := by rw [eh_8]; exact nI_clamp (by omega)
      refine va_iald hx hb hK hP 1 0 rfl rfl h_8 d_Machines_fillTable_46 ?_
      rw [kh_8]
      refine lv_topi (fun v_9 ev_9 => ?_)
      refine lv_icmp_ne (tgt := 54) hx hb d_Machines_fillTable_47 (by decide) (fun c_10 => ?_) (fun c_10 => ?_)
      · skip
        have cq : ¬ T (i * 5 + (nc - 1 - j)) + cy = fS (nc - 1 - j) := fun q => c_10 (by simp only [ev_2, ev_3, ev_4, ev_6, ev_7, ev_9]; exact q)
        refine lv_iconst (v := 0) hx hb d_Machines_fillTable_54 (by decide) ?_
        refine lv_istore_n (lv' := [(2, .int 0), (4, .int v_7), (0, .ref aM), (1, .int xi), (3, .int xm)]) hx hb d_Machines_fillTable_55 rfl hl (by decide) rfl (fun ls hl => ?_)
        refine lv_aload_n hx hb d_Machines_fillTable_56 rfl (lv_at hl 2 rfl) ?_
        refine va_get (D := (dC, dI)) (ci := 4) (v := .ref aMT) (C := R_Machines) (T := T_Machines) (N := 5) hx hb hts in_Machines hown hK hP 0 rfl rfl 4 (by decide) (hts _ tw_53) (fun _ h9 => h9) rfl d_Machines_fillTable_57 ?_
        refine lv_iload_n hx hb d_Machines_fillTable_60 rfl (lv_at hl 3 rfl) ?_
        refine lv_iconst (v := 5) hx hb d_Machines_fillTable_61 (by decide) ?_
        refine lv_imul hx hb d_Machines_fillTable_62 ?_
        refine lv_topi (fun v_11 ev_11 => ?_)
        refine lv_iload_n hx hb d_Machines_fillTable_63 rfl (lv_at hl 4 rfl) ?_
        refine lv_iadd hx hb d_Machines_fillTable_64 ?_
        refine lv_topi (fun v_12 ev_12 => ?_)
        refine lv_iload_n hx hb d_Machines_fillTable_65 rfl (lv_at hl 0 rfl) ?_
        refine lv_iconst (v := 1) hx hb d_Machines_fillTable_66 (by decide) ?_
        refine lv_icmp_ne (tgt := 74) hx hb d_Machines_fillTable_67 (by decide) (fun c_13 => ?_) (fun c_13 => ?_)
        · skip
          refine lv_iload hx hb d_Machines_fillTable_74 (lv_at hl 1 rfl) ?_
          have eh_14 : v_12 = nI ((i + 1) * 5 + (nc - 1 - j)) := by simp only [ev_2, ev_3, ev_4, ev_6, ev_7, ev_9, ev_11, ev_12]; rw [exi, exm2, ix_m5]
          have bh_14 : (i + 1) * 5 + (nc - 1 - j) < 320 := by omega
          have h_14 : vp_in v_12 320 := by rw [eh_14]; exact vp_in_nI bh_14 (by decide)
          have kh_14 : v_12.toNatClampNeg = (i + 1) * 5 + (nc - 1 - j) := by rw [eh_14]; exact nI_clamp (by omega)
          refine va_iast hx hb hK hP hD hS 2 0 rfl rfl h_14 d_Machines_fillTable_76 (fun H locs hP hD hS => ?_)
          rw [kh_14] at hP hD
          obtain ⟨T2, eT2⟩ : ∃ y : Nat → Int32, y = upd T ((i + 1) * 5 + (nc - 1 - j)) v_7 := ⟨_, rfl⟩
          rw [← eT2] at hP hD
          have hP : va_P (dC, dI) vw_cls [(aM, .inr (4, [.int cnt, .int vec, .ref aMS, .ref aMC, .ref aMT])), (aMS, .inl (cI, 5, .inl fS)), (aMT, .inl (cI, 320, .inl T2))] H := hP
          have hD : va_D A [(aM, .inr (4, [.int cnt, .int vec, .ref aMS, .ref aMC, .ref aMT])), (aMS, .inl (cI, 5, .inl fS)), (aMT, .inl (cI, 320, .inl T2))] := hD
          obtain ⟨v_15, ev_15⟩ : ∃ y : Int32, y = xm + (-1) := ⟨_, rfl⟩
          refine lv_iinc (v := v_15) (lv' := [(3, .int v_15), (2, .int 0), (4, .int v_7), (0, .ref aM), (1, .int xi)]) hx hb d_Machines_fillTable_77 hl (k := 4) rfl (by rw [ev_15]; rfl) (by decide) rfl (fun ls hl => ?_)
          refine lv_goto (tgt := 19) hx hb d_Machines_fillTable_80 (by decide) ?_
          exact ih (j + 1) v_15 0 T2 (by omega) (by rw [ev_15, exm2]; exact down2 hltj) (by rw [eT2, q_rowT_0 (by rw [← eT, ← ecy]; exact cq), ← eT, ← ecy]; simp only [ev_2, ev_3, ev_4, ev_6, ev_7, ev_9, ev_11, ev_12, ev_15]; rfl) (by rw [q_rowT_0 (by rw [← eT, ← ecy]; exact cq)]) (by omega) H locs (hP.sub [0, 1, 2] rfl) (hD.sub [0, 1, 2] (by decide) rfl) hS ls (lv_sub hl [3, 4, 1, 0] rfl)
        · skip
          exact absurd c_13 (by decide)
      · skip
        have cq : T (i * 5 + (nc - 1 - j)) + cy = fS (nc - 1 - j) := by have q := c_10; simp only [ev_2, ev_3, ev_4, ev_6, ev_7, ev_9] at q; exact q
        refine lv_iconst (v := 1) hx hb d_Machines_fillTable_50 (by decide) ?_
        refine lv_goto (tgt := 55) hx hb d_Machines_fillTable_51 (by decide) ?_
        refine lv_istore_n (lv' := [(2, .int 1), (4, .int v_7), (0, .ref aM), (1, .int xi), (3, .int xm)]) hx hb d_Machines_fillTable_55 rfl hl (by decide) rfl (fun ls hl => ?_)
        refine lv_aload_n hx hb d_Machines_fillTable_56 rfl (lv_at hl 2 rfl) ?_
        refine va_get (D := (dC, dI)) (ci := 4) (v := .ref aMT) (C := R_Machines) (T := T_Machines) (N := 5) hx hb hts in_Machines hown hK hP 0 rfl rfl 4 (by decide) (hts _ tw_53) (fun _ h9 => h9) rfl d_Machines_fillTable_57 ?_
        refine lv_iload_n hx hb d_Machines_fillTable_60 rfl (lv_at hl 3 rfl) ?_
        refine lv_iconst (v := 5) hx hb d_Machines_fillTable_61 (by decide) ?_
        refine lv_imul hx hb d_Machines_fillTable_62 ?_
        refine lv_topi (fun v_16 ev_16 => ?_)
        refine lv_iload_n hx hb d_Machines_fillTable_63 rfl (lv_at hl 4 rfl) ?_
        refine lv_iadd hx hb d_Machines_fillTable_64 ?_
        refine lv_topi (fun v_17 ev_17 => ?_)
        refine lv_iload_n hx hb d_Machines_fillTable_65 rfl (lv_at hl 0 rfl) ?_
        refine lv_iconst (v := 1) hx hb d_Machines_fillTable_66 (by decide) ?_
        refine lv_icmp_ne (tgt := 74) hx hb d_Machines_fillTable_67 (by decide) (fun c_18 => ?_) (fun c_18 => ?_)
        · skip
          exact absurd rfl c_18
        · skip
          refine lv_iconst (v := 0) hx hb d_Machines_fillTable_70 (by decide) ?_
          refine lv_goto (tgt := 76) hx hb d_Machines_fillTable_71 (by decide) ?_
          have eh_19 : v_17 = nI ((i + 1) * 5 + (nc - 1 - j)) := by simp only [ev_2, ev_3, ev_4, ev_6, ev_7, ev_9, ev_16, ev_17]; rw [exi, exm2, ix_m5]
          have bh_19 : (i + 1) * 5 + (nc - 1 - j) < 320 := by omega
          have h_19 : vp_in v_17 320 := by rw [eh_19]; exact vp_in_nI bh_19 (by decide)
          have kh_19 : v_17.toNatClampNeg = (i + 1) * 5 + (nc - 1 - j) := by rw [eh_19]; exact nI_clamp (by omega)
          refine va_iast hx hb hK hP hD hS 2 0 rfl rfl h_19 d_Machines_fillTable_76 (fun H locs hP hD hS => ?_)
          rw [kh_19] at hP hD
          obtain ⟨T2, eT2⟩ : ∃ y : Nat → Int32, y = upd T ((i + 1) * 5 + (nc - 1 - j)) 0 := ⟨_, rfl⟩
          rw [← eT2] at hP hD
          have hP : va_P (dC, dI) vw_cls [(aM, .inr (4, [.int cnt, .int vec, .ref aMS, .ref aMC, .ref aMT])), (aMS, .inl (cI, 5, .inl fS)), (aMT, .inl (cI, 320, .inl T2))] H := hP
          have hD : va_D A [(aM, .inr (4, [.int cnt, .int vec, .ref aMS, .ref aMC, .ref aMT])), (aMS, .inl (cI, 5, .inl fS)), (aMT, .inl (cI, 320, .inl T2))] := hD
          obtain ⟨v_20, ev_20⟩ : ∃ y : Int32, y = xm + (-1) := ⟨_, rfl⟩
          refine lv_iinc (v := v_20) (lv' := [(3, .int v_20), (2, .int 1), (4, .int v_7), (0, .ref aM), (1, .int xi)]) hx hb d_Machines_fillTable_77 hl (k := 4) rfl (by rw [ev_20]; rfl) (by decide) rfl (fun ls hl => ?_)
          refine lv_goto (tgt := 19) hx hb d_Machines_fillTable_80 (by decide) ?_
          exact ih (j + 1) v_20 1 T2 (by omega) (by rw [ev_20, exm2]; exact down2 hltj) (by rw [eT2, q_rowT_1 (by rw [← eT, ← ecy]; exact cq), ← eT]) (by rw [q_rowT_1 (by rw [← eT, ← ecy]; exact cq)]) (by omega) H locs (hP.sub [0, 1, 2] rfl) (hD.sub [0, 1, 2] (by decide) rfl) hS ls (lv_sub hl [3, 4, 1, 0] rfl)
set_option maxHeartbeats 4000000 in
set_option maxRecDepth 100000 in
theorem L_fill {p : Program} {l : Launch} {e : Env} {s : State} {m : MethodId} {args : Array Value} {below : List Frame} {meth : Method} {c : Code} {Q : State → Prop} {A : Nat → Prop} (hx : p.tables.exec = Jvm.exec) (hb : c.code = b_Machines_fillTable) (hml : c.maxLocals = 5) (hown : s.vm.findClass R_Machines = some m.cls) (hts : ∀ w ∈ lw_g, w.before args s = true) (hA : ∀ q, s.heap.size ≤ q → A q) {dC : Nat → ClassId} {dI : Nat → Nat → Nat} (cI : ClassId) (cZ : ClassId) (cQ : ClassId) (aM : Nat) (aMS : Nat) (aMC : Nat) (aMT : Nat) (cnt : Int32) (vec : Int32) (fS : Nat → Int32) (fT : Nat → Int32) (nc : Nat) (nv : Nat)  (hcnt : cnt = nI nc) (hvec : vec = nI nv) (hnc : nc ≤ 5) (hnv : nv ≤ 64) (hnv1 : 1 ≤ nv)  (hKN : g_K dC dI [(cI, .int), (cZ, .boolean), (cQ, (.object "SettingSearch$Answers"))] s)
    (kx_89 : ∀ (i : Nat) (xi : Int32) (T : Nat → Int32) (_ : i + 1 ≤ nv) (_ : xi = nI (i + 1)) (_ : T = q_fill fS nc fT i) (_ : i + 1 = nv) (H : Heap) (locs : List Loc), va_P (dC, dI) vw_cls [(aM, .inr (4, [.int cnt, .int vec, .ref aMS, .ref aMC, .ref aMT])), (aMS, .inl (cI, 5, .inl fS)), (aMT, .inl (cI, 320, .inl T))] H → va_D A [(aM, .inr (4, [.int cnt, .int vec, .ref aMS, .ref aMC, .ref aMT])), (aMS, .inl (cI, 5, .inl fS)), (aMT, .inl (cI, 320, .inl T))] → va_S A s.heap H locs → ∀ (ls : Array Slot), lv_has ls 5 [(0, .ref aM), (1, .int xi)] → W p l e ({ frames := 0, cells := 0, slots := 0, locals := 0 } : Room) s m args below meth c H locs 0 0 Q (F0 m 89 ls [])) :
    ∀ (n : Nat) (i : Nat) (xi : Int32) (T : Nat → Int32) (_ : i + 1 ≤ nv) (_ : xi = nI (i + 1)) (_ : T = q_fill fS nc fT i) (_ : nv - i < n) (H : Heap) (locs : List Loc), va_P (dC, dI) vw_cls [(aM, .inr (4, [.int cnt, .int vec, .ref aMS, .ref aMC, .ref aMT])), (aMS, .inl (cI, 5, .inl fS)), (aMT, .inl (cI, 320, .inl T))] H → va_D A [(aM, .inr (4, [.int cnt, .int vec, .ref aMS, .ref aMC, .ref aMT])), (aMS, .inl (cI, 5, .inl fS)), (aMT, .inl (cI, 320, .inl T))] → va_S A s.heap H locs → ∀ (ls : Array Slot), lv_has ls 5 [(0, .ref aM), (1, .int xi)] → W p l e ({ frames := 0, cells := 0, slots := 0, locals := 0 } : Room) s m args below meth c H locs 0 0 Q (F0 m 2 ls []) := by
  obtain ⟨hK, hN⟩ := id hKN
  intro n
  induction n with
  | zero =>
    intro i xi T hi exi eT0 hm
    exact absurd hm (Nat.not_lt_zero _)
  | succ n ih =>
    intro i xi T hi exi eT0 hm H locs hP hD hS ls hl
    refine lv_iload_n hx hb d_Machines_fillTable_2 rfl (lv_at hl 1 rfl) ?_
    refine lv_aload_n hx hb d_Machines_fillTable_3 rfl (lv_at hl 0 rfl) ?_
    refine va_get (D := (dC, dI)) (ci := 4) (v := .int vec) (C := R_Machines) (T := T_Machines) (N := 5) hx hb hts in_Machines hown hK hP 0 rfl rfl 1 (by decide) (hts _ tw_49) (fun _ h9 => h9) rfl d_Machines_fillTable_4 ?_
    refine lv_icmp_ge (tgt := 89) hx hb d_Machines_fillTable_7 (by decide) (fun c_1 => ?_) (fun c_1 => ?_)
    · skip
      have hendi : i + 1 = nv := lp_ge c_1 exi hvec hi (by omega)
      exact kx_89 i xi T hi exi eT0 hendi H locs (hP.sub [0, 1, 2] rfl) (hD.sub [0, 1, 2] (by decide) rfl) hS ls (lv_sub hl [0, 1] rfl)
    · skip
      have hlti : i + 1 < nv := lp_lt c_1 exi hvec (by omega)
      refine lv_iconst (v := 1) hx hb d_Machines_fillTable_10 (by decide) ?_
      refine lv_istore_n (lv' := [(2, .int 1), (0, .ref aM), (1, .int xi)]) hx hb d_Machines_fillTable_11 rfl hl (by decide) rfl (fun ls hl => ?_)
      refine lv_aload_n hx hb d_Machines_fillTable_12 rfl (lv_at hl 1 rfl) ?_
      refine va_get (D := (dC, dI)) (ci := 4) (v := .int cnt) (C := R_Machines) (T := T_Machines) (N := 5) hx hb hts in_Machines hown hK hP 0 rfl rfl 0 (by decide) (hts _ tw_46) (fun _ h9 => h9) rfl d_Machines_fillTable_13 ?_
      refine lv_iconst (v := 1) hx hb d_Machines_fillTable_16 (by decide) ?_
      refine lv_isub hx hb d_Machines_fillTable_17 ?_
      refine lv_topi (fun v_2 ev_2 => ?_)
      refine lv_istore_n (lv' := [(3, .int v_2), (2, .int 1), (0, .ref aM), (1, .int xi)]) hx hb d_Machines_fillTable_18 rfl hl (by decide) rfl (fun ls hl => ?_)
      refine L_row hx hb hml hown hts hA cI cZ cQ aM aMS aMC aMT cnt vec fS fT nc nv i xi T hcnt hvec hnc hnv hnv1 hi exi hlti hKN ?_ (nc - 0 + 1) 0 v_2 1 T (Nat.zero_le _) (by rw [ev_2, hcnt]; rfl) rfl rfl (Nat.lt_succ_self _) H locs (hP.sub [0, 1, 2] rfl) (hD.sub [0, 1, 2] (by decide) rfl) hS ls (lv_sub hl [2, 3, 1, 0] rfl)
      intro j xm cy T hj exm eT ecy hendj H locs hP hD hS ls hl
      have hl : lv_has ls 5 [(0, .ref aM), (1, .int xi), (2, .int cy), (3, .int xm)] := hl
      have hP : va_P (dC, dI) vw_cls [(aM, .inr (4, [.int cnt, .int vec, .ref aMS, .ref aMC, .ref aMT])), (aMS, .inl (cI, 5, .inl fS)), (aMT, .inl (cI, 320, .inl T))] H := hP
      have hD : va_D A [(aM, .inr (4, [.int cnt, .int vec, .ref aMS, .ref aMC, .ref aMT])), (aMS, .inl (cI, 5, .inl fS)), (aMT, .inl (cI, 320, .inl T))] := hD
      obtain ⟨v_3, ev_3⟩ : ∃ y : Int32, y = xi + 1 := ⟨_, rfl⟩
      refine lv_iinc (v := v_3) (lv' := [(1, .int v_3), (0, .ref aM), (2, .int cy), (3, .int xm)]) hx hb d_Machines_fillTable_83 hl (k := 1) rfl (by rw [ev_3]; rfl) (by decide) rfl (fun ls hl => ?_)
      refine lv_goto (tgt := 2) hx hb d_Machines_fillTable_86 (by decide) ?_
      exact ih (i + 1) v_3 T hlti (by rw [ev_3, exi]; exact nI_1 (i + 1)) (by rw [eT, hendj, eT0]; rfl) (by omega) H locs (hP.sub [0, 1, 2] rfl) (hD.sub [0, 1, 2] (by decide) rfl) hS ls (lv_sub hl [1, 0] rfl)
set_option maxHeartbeats 4000000 in
set_option maxRecDepth 100000 in
/-- fillTable -/
theorem k_fill (l : Launch) (dC : Nat → ClassId) (dI : Nat → Nat → Nat) (sz : Nat) (cI : ClassId) (cZ : ClassId) (cQ : ClassId) (aM : Nat) (aMS : Nat) (aMC : Nat) (aMT : Nat) (cnt : Int32) (vec : Int32) (fS : Nat → Int32) (fT : Nat → Int32) (nc : Nat) (nv : Nat) (hcnt : cnt = nI nc) (hvec : vec = nI nv) (hnc : nc ≤ 5) (hnv : nv ≤ 64) (hnv1 : 1 ≤ nv) : Met l y_Machines_fillTable w_Machines_fillTable ({ frames := 0, cells := 0, slots := 0, locals := 0 } : Room) (va_Pc [.ref aM] (fun U => U.heap.size = sz ∧ va_P (dC, dI) vw_cls [(aM, .inr (4, [.int cnt, .int vec, .ref aMS, .ref aMC, .ref aMT])), (aMS, .inl (cI, 5, .inl fS)), (aMT, .inl (cI, 320, .inl fT))] U.heap ∧ g_K dC dI [(cI, .int), (cZ, .boolean), (cQ, (.object "SettingSearch$Answers"))] U ∧ va_D (fun _ => True) [(aM, .inr (4, [.int cnt, .int vec, .ref aMS, .ref aMC, .ref aMT])), (aMS, .inl (cI, 5, .inl fS)), (aMT, .inl (cI, 320, .inl fT))])) (va_Qv (fun (u : (Nat → Int32)) => u = q_fill fS nc fT (nv - 1)) (fun (u : (Nat → Int32)) (t : State) => va_P (dC, dI) vw_cls [(aM, .inr (4, [.int cnt, .int vec, .ref aMS, .ref aMC, .ref aMT])), (aMS, .inl (cI, 5, .inl fS)), (aMT, .inl (cI, 320, .inl u))] t.heap ∧ va_D (va_A [(aM, .inr (4, [.int cnt, .int vec, .ref aMS, .ref aMC, .ref aMT])), (aMS, .inl (cI, 5, .inl fS)), (aMT, .inl (cI, 320, .inl fT))] sz) [(aM, .inr (4, [.int cnt, .int vec, .ref aMS, .ref aMC, .ref aMT])), (aMS, .inl (cI, 5, .inl fS)), (aMT, .inl (cI, 320, .inl u))]) (va_A [(aM, .inr (4, [.int cnt, .int vec, .ref aMS, .ref aMC, .ref aMT])), (aMS, .inl (cI, 5, .inl fS)), (aMT, .inl (cI, 320, .inl fT))] sz)) 0 0 (va_A [(aM, .inr (4, [.int cnt, .int vec, .ref aMS, .ref aMC, .ref aMT])), (aMS, .inl (cI, 5, .inl fS)), (aMT, .inl (cI, 320, .inl fT))] sz) := by
  refine Met.ofW (cc := b_Machines_fillTable) (maxL := 5) (ret := none) (by decide) rfl ?_
  intro p e s m args below meth c s₁ B hml hv
  obtain ⟨rfl, hsz, hP, hKN, hD0⟩ := hv
  obtain ⟨hK, hN⟩ := id hKN
  have hx := B.exec
  have hb := B.bytes
  have hr := B.returns
  have hts0 := atoms_spec (ws := w_Machines_fillTable) B.pre
  have hts : ∀ w ∈ lw_g, w.before _ s = true := fun w h => hts0 w (List.mem_cons_of_mem _ h)
  have hown : s.vm.findClass R_Machines = some m.cls := findClass_of_methodNamed B.named
  have hlocks := B.notSynchronized
  subst hsz
  have hD := hD0.self (sz := s.heap.size)
  generalize hAe : va_A [(aM, .inr (4, [.int cnt, .int vec, .ref aMS, .ref aMC, .ref aMT])), (aMS, .inl (cI, 5, .inl fS)), (aMT, .inl (cI, 320, .inl fT))] s.heap.size = A at hD ⊢
  have hA : ∀ q : Nat, s.heap.size ≤ q → A q := fun q h => by rw [← hAe]; exact Or.inr h
  have hP : va_P (dC, dI) vw_cls [(aM, .inr (4, [.int cnt, .int vec, .ref aMS, .ref aMC, .ref aMT])), (aMS, .inl (cI, 5, .inl fS)), (aMT, .inl (cI, 320, .inl fT))] s.heap := hP
  have hl := lv_entry ([.ref aM]) (n := 5) (Nat.le_of_ble_eq_true rfl)
  rw [lg_entry_eq]
  generalize (lg_sl ([.ref aM]) ++ List.replicate (5 - (lg_sl ([.ref aM])).length) Slot.unset).toArray = ls at hl ⊢
  have hl : lv_has ls 5 [(0, .ref aM)] := hl
  refine gw_start (fun H locs hH hlocs => ?_)
  rw [← hH] at hP
  have hS : va_S A s.heap H locs := by rw [hH, hlocs]; exact va_S.rf
  refine lv_iconst (v := 1) hx hb d_Machines_fillTable_0 (by decide) ?_
  refine lv_istore_n (lv' := [(1, .int 1), (0, .ref aM)]) hx hb d_Machines_fillTable_1 rfl hl (by decide) rfl (fun ls hl => ?_)
  refine L_fill hx hb hml hown hts hA cI cZ cQ aM aMS aMC aMT cnt vec fS fT nc nv hcnt hvec hnc hnv hnv1 hKN ?_ (nv - 0 + 1) 0 1 fT hnv1 rfl rfl (Nat.lt_succ_self _) H locs (hP.sub [0, 1, 2] rfl) (hD.sub [0, 1, 2] (by decide) rfl) hS ls (lv_sub hl [1, 0] rfl)
  intro i xi T hi exi eT0 hendi H locs hP hD hS ls hl
  have hl : lv_has ls 5 [(0, .ref aM), (1, .int xi)] := hl
  have hP : va_P (dC, dI) vw_cls [(aM, .inr (4, [.int cnt, .int vec, .ref aMS, .ref aMC, .ref aMT])), (aMS, .inl (cI, 5, .inl fS)), (aMT, .inl (cI, 320, .inl T))] H := hP
  have hD : va_D A [(aM, .inr (4, [.int cnt, .int vec, .ref aMS, .ref aMC, .ref aMT])), (aMS, .inl (cI, 5, .inl fS)), (aMT, .inl (cI, 320, .inl T))] := hD
  have hP9 := hP.sub (ws' := [(aM, .inr (4, [.int cnt, .int vec, .ref aMS, .ref aMC, .ref aMT])), (aMS, .inl (cI, 5, .inl fS)), (aMT, .inl (cI, 320, .inl T))]) [0, 1, 2] rfl
  have hD9 := hD.sub (ws' := [(aM, .inr (4, [.int cnt, .int vec, .ref aMS, .ref aMC, .ref aMT])), (aMS, .inl (cI, 5, .inl fS)), (aMT, .inl (cI, 320, .inl T))]) [0, 1, 2] (by decide) rfl
  have hpost_1 : T = q_fill fS nc fT (nv - 1) := by rw [eT0, ← hendi]; rfl
  exact W.vret hx hb hr (fun t ht hW => ⟨⟨T, rfl, hpost_1, by rw [ht]; exact hP9, hD9⟩, hS.F ht⟩) hS.2.2 d_Machines_fillTable_89
set_option maxHeartbeats 4000000 in
set_option maxRecDepth 100000 in
/-- add -/
theorem k_add (l : Launch) (dC : Nat → ClassId) (dI : Nat → Nat → Nat) (sz : Nat) (cI : ClassId) (cZ : ClassId) (cQ : ClassId) (aM : Nat) (aMS : Nat) (aMC : Nat) (aMT : Nat) (cnt : Int32) (vec : Int32) (fS : Nat → Int32) (fC : Nat → Int32) (fT : Nat → Int32) (k1 : Int32) (nc : Nat) (nv : Nat) (hcnt : cnt = nI nc) (hvec : vec = nI nv) (hnc : nc ≤ 5) (hnv : nv ≤ 64) (hnv1 : 1 ≤ nv) : Met l y_Machines_add w_Machines_add ({ frames := 1, cells := 0, slots := 0, locals := 24 } : Room) (va_Pc [.ref aM, .int k1] (fun U => U.heap.size = sz ∧ va_P (dC, dI) vw_cls [(aM, .inr (4, [.int cnt, .int vec, .ref aMS, .ref aMC, .ref aMT])), (aMS, .inl (cI, 5, .inl fS)), (aMC, .inl (cI, 5, .inl fC)), (aMT, .inl (cI, 320, .inl fT))] U.heap ∧ g_K dC dI [(cI, .int), (cZ, .boolean), (cQ, (.object "SettingSearch$Answers"))] U ∧ va_D (fun _ => True) [(aM, .inr (4, [.int cnt, .int vec, .ref aMS, .ref aMC, .ref aMT])), (aMS, .inl (cI, 5, .inl fS)), (aMC, .inl (cI, 5, .inl fC)), (aMT, .inl (cI, 320, .inl fT))])) (va_Qi (fun (r : Int32) (u : Int32 × Int32 × (Nat → Int32) × (Nat → Int32) × (Nat → Int32)) => (q_addOk cnt vec k1 ∧ r = 1 ∧ u.1 = cnt + 1 ∧ u.2.1 = vec * k1 ∧ u.2.2.1 = upd fS nc k1 ∧ u.2.2.2.1 = upd fC nc 0 ∧ u.2.2.2.2 = q_fill (upd fS nc k1) (nc + 1) fT ((vec * k1).toNatClampNeg - 1)) ∨ (¬ q_addOk cnt vec k1 ∧ r = 0 ∧ u.1 = cnt ∧ u.2.1 = vec ∧ u.2.2.1 = fS ∧ u.2.2.2.1 = fC ∧ u.2.2.2.2 = fT)) (fun (u : Int32 × Int32 × (Nat → Int32) × (Nat → Int32) × (Nat → Int32)) (t : State) => va_P (dC, dI) vw_cls [(aM, .inr (4, [.int u.1, .int u.2.1, .ref aMS, .ref aMC, .ref aMT])), (aMS, .inl (cI, 5, .inl u.2.2.1)), (aMC, .inl (cI, 5, .inl u.2.2.2.1)), (aMT, .inl (cI, 320, .inl u.2.2.2.2))] t.heap ∧ va_D (va_A [(aM, .inr (4, [.int cnt, .int vec, .ref aMS, .ref aMC, .ref aMT])), (aMS, .inl (cI, 5, .inl fS)), (aMC, .inl (cI, 5, .inl fC)), (aMT, .inl (cI, 320, .inl fT))] sz) [(aM, .inr (4, [.int u.1, .int u.2.1, .ref aMS, .ref aMC, .ref aMT])), (aMS, .inl (cI, 5, .inl u.2.2.1)), (aMC, .inl (cI, 5, .inl u.2.2.2.1)), (aMT, .inl (cI, 320, .inl u.2.2.2.2))]) (va_A [(aM, .inr (4, [.int cnt, .int vec, .ref aMS, .ref aMC, .ref aMT])), (aMS, .inl (cI, 5, .inl fS)), (aMC, .inl (cI, 5, .inl fC)), (aMT, .inl (cI, 320, .inl fT))] sz)) 0 0 (va_A [(aM, .inr (4, [.int cnt, .int vec, .ref aMS, .ref aMC, .ref aMT])), (aMS, .inl (cI, 5, .inl fS)), (aMC, .inl (cI, 5, .inl fC)), (aMT, .inl (cI, 320, .inl fT))] sz) := by
  refine Met.ofW (cc := b_Machines_add) (maxL := 2) (ret := (some .boolean)) (by decide) rfl ?_
  intro p e s m args below meth c s₁ B hml hv
  obtain ⟨rfl, hsz, hP, hKN, hD0⟩ := hv
  obtain ⟨hK, hN⟩ := id hKN
  have hx := B.exec
  have hb := B.bytes
  have hr := B.returns
  have hts0 := atoms_spec (ws := w_Machines_add) B.pre
  have hts : ∀ w ∈ lw_g, w.before _ s = true := fun w h => hts0 w (List.mem_cons_of_mem _ h)
  have hown : s.vm.findClass R_Machines = some m.cls := findClass_of_methodNamed B.named
  have hlocks := B.notSynchronized
  subst hsz
  have hD := hD0.self (sz := s.heap.size)
  generalize hAe : va_A [(aM, .inr (4, [.int cnt, .int vec, .ref aMS, .ref aMC, .ref aMT])), (aMS, .inl (cI, 5, .inl fS)), (aMC, .inl (cI, 5, .inl fC)), (aMT, .inl (cI, 320, .inl fT))] s.heap.size = A at hD ⊢
  have hA : ∀ q : Nat, s.heap.size ≤ q → A q := fun q h => by rw [← hAe]; exact Or.inr h
  have hP : va_P (dC, dI) vw_cls [(aM, .inr (4, [.int cnt, .int vec, .ref aMS, .ref aMC, .ref aMT])), (aMS, .inl (cI, 5, .inl fS)), (aMC, .inl (cI, 5, .inl fC)), (aMT, .inl (cI, 320, .inl fT))] s.heap := hP
  have hl := lv_entry ([.ref aM, .int k1]) (n := 2) (Nat.le_of_ble_eq_true rfl)
  rw [lg_entry_eq]
  generalize (lg_sl ([.ref aM, .int k1]) ++ List.replicate (2 - (lg_sl ([.ref aM, .int k1])).length) Slot.unset).toArray = ls at hl ⊢
  have hl : lv_has ls 2 [(0, .ref aM), (1, .int k1)] := hl
  refine gw_start (fun H locs hH hlocs => ?_)
  rw [← hH] at hP
  have hS : va_S A s.heap H locs := by rw [hH, hlocs]; exact va_S.rf
  refine lv_aload_n hx hb d_Machines_add_0 rfl (lv_at hl 0 rfl) ?_
  refine va_get (D := (dC, dI)) (ci := 4) (v := .int cnt) (C := R_Machines) (T := T_Machines) (N := 5) hx hb hts in_Machines hown hK hP 0 rfl rfl 0 (by decide) (hts _ tw_46) (fun _ h9 => h9) rfl d_Machines_add_1 ?_
  refine lv_iconst (v := 5) hx hb d_Machines_add_4 (by decide) ?_
  refine lv_icmp_ge (tgt := 29) hx hb d_Machines_add_5 (by decide) (fun c_1 => ?_) (fun c_1 => ?_)
  · skip
    have hbad : ¬ q_addOk cnt vec k1 := fun w => w.1 c_1
    refine lv_iconst (v := 0) hx hb d_Machines_add_29 (by decide) ?_
    have hP9 := hP.sub (ws' := [(aM, .inr (4, [.int cnt, .int vec, .ref aMS, .ref aMC, .ref aMT])), (aMS, .inl (cI, 5, .inl fS)), (aMC, .inl (cI, 5, .inl fC)), (aMT, .inl (cI, 320, .inl fT))]) [0, 1, 2, 3] rfl
    have hD9 := hD.sub (ws' := [(aM, .inr (4, [.int cnt, .int vec, .ref aMS, .ref aMC, .ref aMT])), (aMS, .inl (cI, 5, .inl fS)), (aMC, .inl (cI, 5, .inl fC)), (aMT, .inl (cI, 320, .inl fT))]) [0, 1, 2, 3] (by decide) rfl
    have hpost_2 : (q_addOk cnt vec k1 ∧ (0 : Int32) = 1 ∧ cnt = cnt + 1 ∧ vec = vec * k1 ∧ fS = upd fS nc k1 ∧ fC = upd fC nc 0 ∧ fT = q_fill (upd fS nc k1) (nc + 1) fT ((vec * k1).toNatClampNeg - 1)) ∨ (¬ q_addOk cnt vec k1 ∧ (0 : Int32) = 0 ∧ cnt = cnt ∧ vec = vec ∧ fS = fS ∧ fC = fC ∧ fT = fT) := Or.inr ⟨hbad, rfl, rfl, rfl, rfl, rfl, rfl⟩
    exact W.zret (v := 0) hx hb hr (rfl) (fun t ht hW => ⟨⟨0, (cnt, vec, fS, fC, fT), rfl, hpost_2, by rw [ht]; exact hP9, hD9⟩, hS.F ht⟩) hS.2.2 d_Machines_add_30
  · skip
    have ca := c_1
    refine lv_iload_n hx hb d_Machines_add_8 rfl (lv_at hl 1 rfl) ?_
    refine lv_iconst (v := 1) hx hb d_Machines_add_9 (by decide) ?_
    refine lv_icmp_lt (tgt := 29) hx hb d_Machines_add_10 (by decide) (fun c_3 => ?_) (fun c_3 => ?_)
    · skip
      have hbad : ¬ q_addOk cnt vec k1 := fun w => w.2.1 c_3
      refine lv_iconst (v := 0) hx hb d_Machines_add_29 (by decide) ?_
      have hP9 := hP.sub (ws' := [(aM, .inr (4, [.int cnt, .int vec, .ref aMS, .ref aMC, .ref aMT])), (aMS, .inl (cI, 5, .inl fS)), (aMC, .inl (cI, 5, .inl fC)), (aMT, .inl (cI, 320, .inl fT))]) [0, 1, 2, 3] rfl
      have hD9 := hD.sub (ws' := [(aM, .inr (4, [.int cnt, .int vec, .ref aMS, .ref aMC, .ref aMT])), (aMS, .inl (cI, 5, .inl fS)), (aMC, .inl (cI, 5, .inl fC)), (aMT, .inl (cI, 320, .inl fT))]) [0, 1, 2, 3] (by decide) rfl
      have hpost_4 : (q_addOk cnt vec k1 ∧ (0 : Int32) = 1 ∧ cnt = cnt + 1 ∧ vec = vec * k1 ∧ fS = upd fS nc k1 ∧ fC = upd fC nc 0 ∧ fT = q_fill (upd fS nc k1) (nc + 1) fT ((vec * k1).toNatClampNeg - 1)) ∨ (¬ q_addOk cnt vec k1 ∧ (0 : Int32) = 0 ∧ cnt = cnt ∧ vec = vec ∧ fS = fS ∧ fC = fC ∧ fT = fT) := Or.inr ⟨hbad, rfl, rfl, rfl, rfl, rfl, rfl⟩
      exact W.zret (v := 0) hx hb hr (rfl) (fun t ht hW => ⟨⟨0, (cnt, vec, fS, fC, fT), rfl, hpost_4, by rw [ht]; exact hP9, hD9⟩, hS.F ht⟩) hS.2.2 d_Machines_add_30
    · skip
      have cb := c_3
      refine lv_iload_n hx hb d_Machines_add_13 rfl (lv_at hl 1 rfl) ?_
      refine lv_iconst (v := 4) hx hb d_Machines_add_14 (by decide) ?_
      refine lv_icmp_gt (tgt := 29) hx hb d_Machines_add_15 (by decide) (fun c_5 => ?_) (fun c_5 => ?_)
      · skip
        have hbad : ¬ q_addOk cnt vec k1 := fun w => w.2.2.1 c_5
        refine lv_iconst (v := 0) hx hb d_Machines_add_29 (by decide) ?_
        have hP9 := hP.sub (ws' := [(aM, .inr (4, [.int cnt, .int vec, .ref aMS, .ref aMC, .ref aMT])), (aMS, .inl (cI, 5, .inl fS)), (aMC, .inl (cI, 5, .inl fC)), (aMT, .inl (cI, 320, .inl fT))]) [0, 1, 2, 3] rfl
        have hD9 := hD.sub (ws' := [(aM, .inr (4, [.int cnt, .int vec, .ref aMS, .ref aMC, .ref aMT])), (aMS, .inl (cI, 5, .inl fS)), (aMC, .inl (cI, 5, .inl fC)), (aMT, .inl (cI, 320, .inl fT))]) [0, 1, 2, 3] (by decide) rfl
        have hpost_6 : (q_addOk cnt vec k1 ∧ (0 : Int32) = 1 ∧ cnt = cnt + 1 ∧ vec = vec * k1 ∧ fS = upd fS nc k1 ∧ fC = upd fC nc 0 ∧ fT = q_fill (upd fS nc k1) (nc + 1) fT ((vec * k1).toNatClampNeg - 1)) ∨ (¬ q_addOk cnt vec k1 ∧ (0 : Int32) = 0 ∧ cnt = cnt ∧ vec = vec ∧ fS = fS ∧ fC = fC ∧ fT = fT) := Or.inr ⟨hbad, rfl, rfl, rfl, rfl, rfl, rfl⟩
        exact W.zret (v := 0) hx hb hr (rfl) (fun t ht hW => ⟨⟨0, (cnt, vec, fS, fC, fT), rfl, hpost_6, by rw [ht]; exact hP9, hD9⟩, hS.F ht⟩) hS.2.2 d_Machines_add_30
      · skip
        have cc1 := c_5
        refine lv_aload_n hx hb d_Machines_add_18 rfl (lv_at hl 0 rfl) ?_
        refine va_get (D := (dC, dI)) (ci := 4) (v := .int vec) (C := R_Machines) (T := T_Machines) (N := 5) hx hb hts in_Machines hown hK hP 0 rfl rfl 1 (by decide) (hts _ tw_49) (fun _ h9 => h9) rfl d_Machines_add_19 ?_
        refine lv_iload_n hx hb d_Machines_add_22 rfl (lv_at hl 1 rfl) ?_
        refine lv_imul hx hb d_Machines_add_23 ?_
        refine lv_topi (fun v_7 ev_7 => ?_)
        refine lv_bipush (v := 64) hx hb d_Machines_add_24 (by decide) ?_
        refine lv_icmp_le (tgt := 31) hx hb d_Machines_add_26 (by decide) (fun c_8 => ?_) (fun c_8 => ?_)
        · skip
          have hok : q_addOk cnt vec k1 := ⟨ca, cb, cc1, fun q => absurd (by rw [ev_7] at c_8; exact c_8) (Int32.not_le.mpr q)⟩
          obtain ⟨hnc1, kk, ekk, hkk1, hkk4, evk, hvk⟩ := q_add_fit hok hcnt hvec hnc hnv hnv1
          refine lv_aload_n hx hb d_Machines_add_31 rfl (lv_at hl 0 rfl) ?_
          refine va_get (D := (dC, dI)) (ci := 4) (v := .ref aMS) (C := R_Machines) (T := T_Machines) (N := 5) hx hb hts in_Machines hown hK hP 0 rfl rfl 2 (by decide) (hts _ tw_51) (fun _ h9 => h9) rfl d_Machines_add_32 ?_
          refine lv_aload_n hx hb d_Machines_add_35 rfl (lv_at hl 0 rfl) ?_
          refine va_get (D := (dC, dI)) (ci := 4) (v := .int cnt) (C := R_Machines) (T := T_Machines) (N := 5) hx hb hts in_Machines hown hK hP 0 rfl rfl 0 (by decide) (hts _ tw_46) (fun _ h9 => h9) rfl d_Machines_add_36 ?_
          refine lv_iload_n hx hb d_Machines_add_39 rfl (lv_at hl 1 rfl) ?_
          have eh_9 : cnt = nI (nc) := hcnt
          have bh_9 : nc < 5 := by omega
          have h_9 : vp_in cnt 5 := by rw [eh_9]; exact vp_in_nI bh_9 (by decide)
          have kh_9 : cnt.toNatClampNeg = nc := by rw [eh_9]; exact nI_clamp (by omega)
          refine va_iast hx hb hK hP hD hS 1 0 rfl rfl h_9 d_Machines_add_40 (fun H locs hP hD hS => ?_)
          rw [kh_9] at hP hD
          obtain ⟨fS2, efS2⟩ : ∃ y : Nat → Int32, y = upd fS (nc) k1 := ⟨_, rfl⟩
          rw [← efS2] at hP hD
          have hP : va_P (dC, dI) vw_cls [(aM, .inr (4, [.int cnt, .int vec, .ref aMS, .ref aMC, .ref aMT])), (aMS, .inl (cI, 5, .inl fS2)), (aMC, .inl (cI, 5, .inl fC)), (aMT, .inl (cI, 320, .inl fT))] H := hP
          have hD : va_D A [(aM, .inr (4, [.int cnt, .int vec, .ref aMS, .ref aMC, .ref aMT])), (aMS, .inl (cI, 5, .inl fS2)), (aMC, .inl (cI, 5, .inl fC)), (aMT, .inl (cI, 320, .inl fT))] := hD
          refine lv_aload_n hx hb d_Machines_add_41 rfl (lv_at hl 0 rfl) ?_
          refine va_get (D := (dC, dI)) (ci := 4) (v := .ref aMC) (C := R_Machines) (T := T_Machines) (N := 5) hx hb hts in_Machines hown hK hP 0 rfl rfl 3 (by decide) (hts _ tw_52) (fun _ h9 => h9) rfl d_Machines_add_42 ?_
          refine lv_aload_n hx hb d_Machines_add_45 rfl (lv_at hl 0 rfl) ?_
          refine va_get (D := (dC, dI)) (ci := 4) (v := .int cnt) (C := R_Machines) (T := T_Machines) (N := 5) hx hb hts in_Machines hown hK hP 0 rfl rfl 0 (by decide) (hts _ tw_46) (fun _ h9 => h9) rfl d_Machines_add_46 ?_
          refine lv_iconst (v := 0) hx hb d_Machines_add_49 (by decide) ?_
          have eh_10 : cnt = nI (nc) := hcnt
          have bh_10 : nc < 5 := by omega
          have h_10 : vp_in cnt 5 := by rw [eh_10]; exact vp_in_nI bh_10 (by decide)
          have kh_10 : cnt.toNatClampNeg = nc := by rw [eh_10]; exact nI_clamp (by omega)
          refine va_iast hx hb hK hP hD hS 2 0 rfl rfl h_10 d_Machines_add_50 (fun H locs hP hD hS => ?_)
          rw [kh_10] at hP hD
          obtain ⟨fC2, efC2⟩ : ∃ y : Nat → Int32, y = upd fC (nc) 0 := ⟨_, rfl⟩
          rw [← efC2] at hP hD
          have hP : va_P (dC, dI) vw_cls [(aM, .inr (4, [.int cnt, .int vec, .ref aMS, .ref aMC, .ref aMT])), (aMS, .inl (cI, 5, .inl fS2)), (aMC, .inl (cI, 5, .inl fC2)), (aMT, .inl (cI, 320, .inl fT))] H := hP
          have hD : va_D A [(aM, .inr (4, [.int cnt, .int vec, .ref aMS, .ref aMC, .ref aMT])), (aMS, .inl (cI, 5, .inl fS2)), (aMC, .inl (cI, 5, .inl fC2)), (aMT, .inl (cI, 320, .inl fT))] := hD
          refine lv_aload_n hx hb d_Machines_add_51 rfl (lv_at hl 0 rfl) ?_
          refine lv_dup hx hb d_Machines_add_52 rfl ?_
          refine va_get (D := (dC, dI)) (ci := 4) (v := .int cnt) (C := R_Machines) (T := T_Machines) (N := 5) hx hb hts in_Machines hown hK hP 0 rfl rfl 0 (by decide) (hts _ tw_46) (fun _ h9 => h9) rfl d_Machines_add_53 ?_
          refine lv_iconst (v := 1) hx hb d_Machines_add_56 (by decide) ?_
          refine lv_iadd hx hb d_Machines_add_57 ?_
          refine lv_topi (fun v_11 ev_11 => ?_)
          refine va_put (D := (dC, dI)) (ci := 4) (v := .int v_11) (ty := .int) (C := R_Machines) (T := T_Machines) (N := 5) hx hb hts in_Machines ty_Machines ty_Machines_ok nm_Machines hown hK hP hD hS 0 rfl rfl 0 (by decide) (hts _ tw_46) (fun _ h9 => h9) rfl (by decide +kernel) rfl rfl (Nat.le_of_ble_eq_true rfl) d_Machines_add_58 (fun H locs hP hD hS => ?_)
          have hP : va_P (dC, dI) vw_cls [(aM, .inr (4, [.int v_11, .int vec, .ref aMS, .ref aMC, .ref aMT])), (aMS, .inl (cI, 5, .inl fS2)), (aMC, .inl (cI, 5, .inl fC2)), (aMT, .inl (cI, 320, .inl fT))] H := hP
          have hD : va_D A [(aM, .inr (4, [.int v_11, .int vec, .ref aMS, .ref aMC, .ref aMT])), (aMS, .inl (cI, 5, .inl fS2)), (aMC, .inl (cI, 5, .inl fC2)), (aMT, .inl (cI, 320, .inl fT))] := hD
          refine lv_aload_n hx hb d_Machines_add_61 rfl (lv_at hl 0 rfl) ?_
          refine lv_dup hx hb d_Machines_add_62 rfl ?_
          refine va_get (D := (dC, dI)) (ci := 4) (v := .int vec) (C := R_Machines) (T := T_Machines) (N := 5) hx hb hts in_Machines hown hK hP 0 rfl rfl 1 (by decide) (hts _ tw_49) (fun _ h9 => h9) rfl d_Machines_add_63 ?_
          refine lv_iload_n hx hb d_Machines_add_66 rfl (lv_at hl 1 rfl) ?_
          refine lv_imul hx hb d_Machines_add_67 ?_
          refine lv_topi (fun v_12 ev_12 => ?_)
          refine va_put (D := (dC, dI)) (ci := 4) (v := .int v_12) (ty := .int) (C := R_Machines) (T := T_Machines) (N := 5) hx hb hts in_Machines ty_Machines ty_Machines_ok nm_Machines hown hK hP hD hS 0 rfl rfl 1 (by decide) (hts _ tw_49) (fun _ h9 => h9) rfl (by decide +kernel) rfl rfl (Nat.le_of_ble_eq_true rfl) d_Machines_add_68 (fun H locs hP hD hS => ?_)
          have hP : va_P (dC, dI) vw_cls [(aM, .inr (4, [.int v_11, .int v_12, .ref aMS, .ref aMC, .ref aMT])), (aMS, .inl (cI, 5, .inl fS2)), (aMC, .inl (cI, 5, .inl fC2)), (aMT, .inl (cI, 320, .inl fT))] H := hP
          have hD : va_D A [(aM, .inr (4, [.int v_11, .int v_12, .ref aMS, .ref aMC, .ref aMT])), (aMS, .inl (cI, 5, .inl fS2)), (aMC, .inl (cI, 5, .inl fC2)), (aMT, .inl (cI, 320, .inl fT))] := hD
          refine lv_aload_n hx hb d_Machines_add_71 rfl (lv_at hl 0 rfl) ?_
          have hPc := hP.sub (ws' := [(aM, .inr (4, [.int v_11, .int v_12, .ref aMS, .ref aMC, .ref aMT])), (aMS, .inl (cI, 5, .inl fS2)), (aMT, .inl (cI, 320, .inl fT))]) [0, 1, 3] rfl
          have hDc := hD.sub (ws' := [(aM, .inr (4, [.int v_11, .int v_12, .ref aMS, .ref aMC, .ref aMT])), (aMS, .inl (cI, 5, .inl fS2)), (aMT, .inl (cI, 320, .inl fT))]) [0, 1, 3] (by decide) rfl
          have hFc := va_free (wc := [(aM, .inr (4, [.int v_11, .int v_12, .ref aMS, .ref aMC, .ref aMT])), (aMS, .inl (cI, 5, .inl fS2)), (aMT, .inl (cI, 320, .inl fT))]) hD hS hA [0, 1, 3] rfl
          refine va_callv (va_runV (As := []) (rest := []) ⟨hx, hb, hml, hown, hts⟩ (k_fill l dC dI H.size cI cZ cQ aM aMS aMC aMT v_11 v_12 fS2 fT (nc + 1) (nv * kk) (by rw [ev_11, hcnt]; exact nI_1 nc) (by rw [ev_12]; exact evk) hnc1 hvk (by have := Nat.mul_le_mul hnv1 hkk1; omega)) ⟨(callB_of 0 hts (ga_all tw_209) rfl rfl rfl (hts _ tw_23) (hts _ tw_206) (by decide +kernel) ⟨Nat.le_of_ble_eq_true rfl, Nat.le_of_ble_eq_true rfl⟩), hts _ tw_208, hts _ tw_0⟩ ⟨fun a U g mk q => by obtain ⟨q0, q1, qP, qK, qD⟩ := q; exact ⟨q0, q1, qP, g_K.same (u := U) (U := U.calling g mk a) rfl qK, qD⟩, va_recv hK hPc (ci := 4) (q0 := 0) rfl rfl, fun U hU hW => ⟨rfl, by rw [hU], by rw [hU]; exact hPc, g_K.warm hW hKN, hDc.weaken (fun _ _ _ _ => trivial)⟩⟩ rfl rfl hl.1 rfl (lv_room (Nat.le_of_ble_eq_true rfl)) d_Machines_add_72 ⟨Nat.le_of_ble_eq_true rfl, Nat.le_of_ble_eq_true rfl⟩) hS (fun q _ h => hFc q h) hFc (fun u t H1 locs htt hvm hw_14 hBB hzz hkk hS => ?_)
          obtain ⟨fT2_15, rfl⟩ : ∃ z, z = u := ⟨_, rfl⟩
          have hw_14 : fT2_15 = q_fill fS2 (nc + 1) fT ((nv * kk) - 1) := hw_14
          obtain ⟨hPP, hDD⟩ := hBB
          rw [htt] at hPP
          have hPP : va_P (dC, dI) vw_cls [(aM, .inr (4, [.int v_11, .int v_12, .ref aMS, .ref aMC, .ref aMT])), (aMS, .inl (cI, 5, .inl fS2)), (aMT, .inl (cI, 320, .inl fT2_15))] H1 := hPP
          have hDD : va_D (va_A [(aM, .inr (4, [.int v_11, .int v_12, .ref aMS, .ref aMC, .ref aMT])), (aMS, .inl (cI, 5, .inl fS2)), (aMT, .inl (cI, 320, .inl fT))] H.size) [(aM, .inr (4, [.int v_11, .int v_12, .ref aMS, .ref aMC, .ref aMT])), (aMS, .inl (cI, 5, .inl fS2)), (aMT, .inl (cI, 320, .inl fT2_15))] := hDD
          obtain ⟨hP, hD⟩ := va_join (wr := [(aMC, .inl (cI, 5, .inl fC2))]) (w1 := [(aM, .inr (4, [.int v_11, .int v_12, .ref aMS, .ref aMC, .ref aMT])), (aMS, .inl (cI, 5, .inl fS2)), (aMT, .inl (cI, 320, .inl fT2_15))]) hP hD [0, 1, 3] [2] rfl rfl (by decide) (by decide) hkk hFc hPP hDD
          generalize H1 = H at hP hS ⊢
          have hP : va_P (dC, dI) vw_cls [(aMC, .inl (cI, 5, .inl fC2)), (aM, .inr (4, [.int v_11, .int v_12, .ref aMS, .ref aMC, .ref aMT])), (aMS, .inl (cI, 5, .inl fS2)), (aMT, .inl (cI, 320, .inl fT2_15))] H := hP
          have hD : va_D A [(aMC, .inl (cI, 5, .inl fC2)), (aM, .inr (4, [.int v_11, .int v_12, .ref aMS, .ref aMC, .ref aMT])), (aMS, .inl (cI, 5, .inl fS2)), (aMT, .inl (cI, 320, .inl fT2_15))] := hD
          refine lv_iconst (v := 1) hx hb d_Machines_add_75 (by decide) ?_
          have hP9 := hP.sub (ws' := [(aM, .inr (4, [.int v_11, .int v_12, .ref aMS, .ref aMC, .ref aMT])), (aMS, .inl (cI, 5, .inl fS2)), (aMC, .inl (cI, 5, .inl fC2)), (aMT, .inl (cI, 320, .inl fT2_15))]) [1, 2, 0, 3] rfl
          have hD9 := hD.sub (ws' := [(aM, .inr (4, [.int v_11, .int v_12, .ref aMS, .ref aMC, .ref aMT])), (aMS, .inl (cI, 5, .inl fS2)), (aMC, .inl (cI, 5, .inl fC2)), (aMT, .inl (cI, 320, .inl fT2_15))]) [1, 2, 0, 3] (by decide) rfl
          have hpost_16 : (q_addOk cnt vec k1 ∧ (1 : Int32) = 1 ∧ v_11 = cnt + 1 ∧ v_12 = vec * k1 ∧ fS2 = upd fS nc k1 ∧ fC2 = upd fC nc 0 ∧ fT2_15 = q_fill (upd fS nc k1) (nc + 1) fT ((vec * k1).toNatClampNeg - 1)) ∨ (¬ q_addOk cnt vec k1 ∧ (1 : Int32) = 0 ∧ v_11 = cnt ∧ v_12 = vec ∧ fS2 = fS ∧ fC2 = fC ∧ fT2_15 = fT) := Or.inl ⟨hok, rfl, ev_11, ev_12, efS2, efC2, by rw [hw_14, efS2, evk, nI_clamp (by omega)]⟩
          exact W.zret (v := 1) hx hb hr (rfl) (fun t ht hW => ⟨⟨1, (v_11, v_12, fS2, fC2, fT2_15), rfl, hpost_16, by rw [ht]; exact hP9, hD9⟩, hS.F ht⟩) hS.2.2 d_Machines_add_76
        · skip
          have hbad : ¬ q_addOk cnt vec k1 := fun w => c_8 (by rw [ev_7]; exact Int32.not_lt.mp w.2.2.2)
          refine lv_iconst (v := 0) hx hb d_Machines_add_29 (by decide) ?_
          have hP9 := hP.sub (ws' := [(aM, .inr (4, [.int cnt, .int vec, .ref aMS, .ref aMC, .ref aMT])), (aMS, .inl (cI, 5, .inl fS)), (aMC, .inl (cI, 5, .inl fC)), (aMT, .inl (cI, 320, .inl fT))]) [0, 1, 2, 3] rfl
          have hD9 := hD.sub (ws' := [(aM, .inr (4, [.int cnt, .int vec, .ref aMS, .ref aMC, .ref aMT])), (aMS, .inl (cI, 5, .inl fS)), (aMC, .inl (cI, 5, .inl fC)), (aMT, .inl (cI, 320, .inl fT))]) [0, 1, 2, 3] (by decide) rfl
          have hpost_17 : (q_addOk cnt vec k1 ∧ (0 : Int32) = 1 ∧ cnt = cnt + 1 ∧ vec = vec * k1 ∧ fS = upd fS nc k1 ∧ fC = upd fC nc 0 ∧ fT = q_fill (upd fS nc k1) (nc + 1) fT ((vec * k1).toNatClampNeg - 1)) ∨ (¬ q_addOk cnt vec k1 ∧ (0 : Int32) = 0 ∧ cnt = cnt ∧ vec = vec ∧ fS = fS ∧ fC = fC ∧ fT = fT) := Or.inr ⟨hbad, rfl, rfl, rfl, rfl, rfl, rfl⟩
          exact W.zret (v := 0) hx hb hr (rfl) (fun t ht hW => ⟨⟨0, (cnt, vec, fS, fC, fT), rfl, hpost_17, by rw [ht]; exact hP9, hD9⟩, hS.F ht⟩) hS.2.2 d_Machines_add_30
