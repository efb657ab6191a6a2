set_option maxHeartbeats 4000000 in
set_option maxRecDepth 100000 in
/-- asked -/
theorem f_asked (l : Launch) (dC : Nat → ClassId) (dI : Nat → Nat → Nat) (sz : Nat) (cI : ClassId) (cZ : ClassId) (cQ : ClassId) (a0 : Nat) (aM : Nat) (aR : Nat) (aW : Nat) (aF : Nat) (aS : Nat) (aKR : Nat) (aSo : Nat) (sv : Value) (go : Int32) (ak : Int32) (be : Int32) (bw : Int64) (pt : Int32) (ln : Int32) (aMS : Nat) (aMC : Nat) (aMT : Nat) (cnt : Int32) (vec : Int32) (fT : Nat → Int32) (m1 : Int32) (nc : Nat) (nv : Nat) (hcnt : cnt = nI nc) (hvec : vec = nI nv) (hnc : nc ≤ 5) (hnv : nv ≤ 64) : Met l y_SettingSearch_asked w_SettingSearch_asked ({ frames := 2, cells := 0, slots := 0, locals := 43 } : Room) (va_Pc [.ref a0, .int m1] (fun U => U.heap.size = sz ∧ va_P (dC, dI) vw_cls [(a0, .inr (0, [.ref aM, .ref aR, .ref aW, .ref aF, .ref aS, .ref aKR])), (aS, .inr (6, [sv, .int go, .int ak, .int be, .long bw, .int pt, .int ln, .ref aSo])), (aM, .inr (4, [.int cnt, .int vec, .ref aMS, .ref aMC, .ref aMT])), (aMT, .inl (cI, 320, .inl fT))] U.heap ∧ g_K dC dI [(cI, .int), (cZ, .boolean), (cQ, (.object "SettingSearch$Answers"))] U ∧ va_D (fun _ => True) [(a0, .inr (0, [.ref aM, .ref aR, .ref aW, .ref aF, .ref aS, .ref aKR])), (aS, .inr (6, [sv, .int go, .int ak, .int be, .long bw, .int pt, .int ln, .ref aSo])), (aM, .inr (4, [.int cnt, .int vec, .ref aMS, .ref aMC, .ref aMT])), (aMT, .inl (cI, 320, .inl fT))])) (va_Qi (fun (r : Int32) (u : Unit) => r = q_sin cnt vec fT ak m1) (fun (u : Unit) (t : State) => va_P (dC, dI) vw_cls [(a0, .inr (0, [.ref aM, .ref aR, .ref aW, .ref aF, .ref aS, .ref aKR])), (aS, .inr (6, [sv, .int go, .int ak, .int be, .long bw, .int pt, .int ln, .ref aSo])), (aM, .inr (4, [.int cnt, .int vec, .ref aMS, .ref aMC, .ref aMT])), (aMT, .inl (cI, 320, .inl fT))] t.heap ∧ va_D (va_A [(a0, .inr (0, [.ref aM, .ref aR, .ref aW, .ref aF, .ref aS, .ref aKR])), (aS, .inr (6, [sv, .int go, .int ak, .int be, .long bw, .int pt, .int ln, .ref aSo])), (aM, .inr (4, [.int cnt, .int vec, .ref aMS, .ref aMC, .ref aMT])), (aMT, .inl (cI, 320, .inl fT))] sz) [(a0, .inr (0, [.ref aM, .ref aR, .ref aW, .ref aF, .ref aS, .ref aKR])), (aS, .inr (6, [sv, .int go, .int ak, .int be, .long bw, .int pt, .int ln, .ref aSo])), (aM, .inr (4, [.int cnt, .int vec, .ref aMS, .ref aMC, .ref aMT])), (aMT, .inl (cI, 320, .inl fT))]) (va_A [(a0, .inr (0, [.ref aM, .ref aR, .ref aW, .ref aF, .ref aS, .ref aKR])), (aS, .inr (6, [sv, .int go, .int ak, .int be, .long bw, .int pt, .int ln, .ref aSo])), (aM, .inr (4, [.int cnt, .int vec, .ref aMS, .ref aMC, .ref aMT])), (aMT, .inl (cI, 320, .inl fT))] sz)) 0 0 (va_A [(a0, .inr (0, [.ref aM, .ref aR, .ref aW, .ref aF, .ref aS, .ref aKR])), (aS, .inr (6, [sv, .int go, .int ak, .int be, .long bw, .int pt, .int ln, .ref aSo])), (aM, .inr (4, [.int cnt, .int vec, .ref aMS, .ref aMC, .ref aMT])), (aMT, .inl (cI, 320, .inl fT))] sz) := by
  refine Met.ofW (cc := b_SettingSearch_asked) (maxL := 2) (ret := (some .int)) (by decide) rfl ?_
  intro p e s m args below meth c s₁ B hml hv
  obtain ⟨rfl, hsz, hP, hKN, hD0⟩ := hv
  obtain ⟨hK, hN⟩ := id hKN
  have hx := B.exec
  have hb := B.bytes
  have hr := B.returns
  have hts0 := atoms_spec (ws := w_SettingSearch_asked) B.pre
  have hts : ∀ w ∈ lw_g, w.before _ s = true := fun w h => hts0 w (List.mem_cons_of_mem _ h)
  have hown : s.vm.findClass R_SettingSearch = some m.cls := findClass_of_methodNamed B.named
  have hlocks := B.notSynchronized
  subst hsz
  have hD := hD0.self (sz := s.heap.size)
  generalize hAe : va_A [(a0, .inr (0, [.ref aM, .ref aR, .ref aW, .ref aF, .ref aS, .ref aKR])), (aS, .inr (6, [sv, .int go, .int ak, .int be, .long bw, .int pt, .int ln, .ref aSo])), (aM, .inr (4, [.int cnt, .int vec, .ref aMS, .ref aMC, .ref aMT])), (aMT, .inl (cI, 320, .inl fT))] s.heap.size = A at hD ⊢
  have hA : ∀ q : Nat, s.heap.size ≤ q → A q := fun q h => by rw [← hAe]; exact Or.inr h
  have hP : va_P (dC, dI) vw_cls [(a0, .inr (0, [.ref aM, .ref aR, .ref aW, .ref aF, .ref aS, .ref aKR])), (aS, .inr (6, [sv, .int go, .int ak, .int be, .long bw, .int pt, .int ln, .ref aSo])), (aM, .inr (4, [.int cnt, .int vec, .ref aMS, .ref aMC, .ref aMT])), (aMT, .inl (cI, 320, .inl fT))] s.heap := hP
  have hl := lv_entry ([.ref a0, .int m1]) (n := 2) (Nat.le_of_ble_eq_true rfl)
  rw [lg_entry_eq]
  generalize (lg_sl ([.ref a0, .int m1]) ++ List.replicate (2 - (lg_sl ([.ref a0, .int m1])).length) Slot.unset).toArray = ls at hl ⊢
  have hl : lv_has ls 2 [(0, .ref a0), (1, .int m1)] := hl
  refine gw_start (fun H locs hH hlocs => ?_)
  rw [← hH] at hP
  have hS : va_S A s.heap H locs := by rw [hH, hlocs]; exact va_S.rf
  refine lv_aload_n hx hb d_SettingSearch_asked_0 rfl (lv_at hl 0 rfl) ?_
  refine va_get (D := (dC, dI)) (ci := 0) (v := .ref aM) (C := R_SettingSearch) (T := T_SettingSearch) (N := 6) hx hb hts in_SettingSearch hown hK hP 0 rfl rfl 0 (by decide) (hts _ tw_179) (fun _ h9 => h9) rfl d_SettingSearch_asked_1 ?_
  refine lv_aload_n hx hb d_SettingSearch_asked_4 rfl (lv_at hl 0 rfl) ?_
  refine va_get (D := (dC, dI)) (ci := 0) (v := .ref aS) (C := R_SettingSearch) (T := T_SettingSearch) (N := 6) hx hb hts in_SettingSearch hown hK hP 0 rfl rfl 4 (by decide) (hts _ tw_183) (fun _ h9 => h9) rfl d_SettingSearch_asked_5 ?_
  refine va_getN (D := (dC, dI)) (ci := 6) (v := .int ak) (C := R_Search) (T := T_Search) (N := 8) hx hb hts in_Search hown hK hP 1 rfl rfl 2 (by decide) (g_Nu hN (List.mem_of_getElem? (i := 9) rfl)) (fun _ h9 => h9) rfl d_SettingSearch_asked_8 ?_
  refine lv_iload_n hx hb d_SettingSearch_asked_11 rfl (lv_at hl 1 rfl) ?_
  have hPc := hP.sub (ws' := [(aM, .inr (4, [.int cnt, .int vec, .ref aMS, .ref aMC, .ref aMT])), (aMT, .inl (cI, 320, .inl fT))]) [2, 3] rfl
  have hDc := hD.sub (ws' := [(aM, .inr (4, [.int cnt, .int vec, .ref aMS, .ref aMC, .ref aMT])), (aMT, .inl (cI, 320, .inl fT))]) [2, 3] (by decide) rfl
  have hFc := va_free (wc := [(aM, .inr (4, [.int cnt, .int vec, .ref aMS, .ref aMC, .ref aMT])), (aMT, .inl (cI, 320, .inl fT))]) hD hS hA [2, 3] rfl
  refine va_calli (va_runV (As := [.int ak, .int m1]) (rest := []) ⟨hx, hb, hml, hown, hts⟩ (k_sin l dC dI H.size cI cZ cQ aM aMS aMC aMT cnt vec fT ak m1 nc nv hcnt hvec hnc hnv) ⟨(callB_of 2 hts (ga_all tw_267) rfl rfl rfl (hts _ tw_23) (hts _ tw_333) (by decide +kernel) ⟨Nat.le_of_ble_eq_true rfl, Nat.le_of_ble_eq_true rfl⟩), hts _ tw_265, hts _ tw_266⟩ ⟨fun a U g mk q => by obtain ⟨q0, q1, qP, qK, qD⟩ := q; exact ⟨q0, q1, qP, g_K.same (u := U) (U := U.calling g mk a) rfl qK, qD⟩, va_recv hK hPc (ci := 4) (q0 := 0) rfl rfl, fun U hU hW => ⟨rfl, by rw [hU], by rw [hU]; exact hPc, g_K.warm hW hKN, hDc.weaken (fun _ _ _ _ => trivial)⟩⟩ rfl rfl hl.1 rfl (lv_room (Nat.le_of_ble_eq_true rfl)) d_SettingSearch_asked_12 ⟨Nat.le_of_ble_eq_true rfl, Nat.le_of_ble_eq_true rfl⟩) hS (fun q _ h => hFc q h) hFc (fun r_1 u t H1 locs htt hvm hw_2 hBB hzz hkk hS => ?_)
  have hw_2 : r_1 = q_sin cnt vec fT ak m1 := hw_2
  obtain ⟨hPP, hDD⟩ := hBB
  rw [htt] at hPP
  have hPP : va_P (dC, dI) vw_cls [(aM, .inr (4, [.int cnt, .int vec, .ref aMS, .ref aMC, .ref aMT])), (aMT, .inl (cI, 320, .inl fT))] H1 := hPP
  have hDD : va_D (va_A [(aM, .inr (4, [.int cnt, .int vec, .ref aMS, .ref aMC, .ref aMT])), (aMT, .inl (cI, 320, .inl fT))] H.size) [(aM, .inr (4, [.int cnt, .int vec, .ref aMS, .ref aMC, .ref aMT])), (aMT, .inl (cI, 320, .inl fT))] := hDD
  obtain ⟨hP, hD⟩ := va_join (wr := [(a0, .inr (0, [.ref aM, .ref aR, .ref aW, .ref aF, .ref aS, .ref aKR])), (aS, .inr (6, [sv, .int go, .int ak, .int be, .long bw, .int pt, .int ln, .ref aSo]))]) (w1 := [(aM, .inr (4, [.int cnt, .int vec, .ref aMS, .ref aMC, .ref aMT])), (aMT, .inl (cI, 320, .inl fT))]) hP hD [2, 3] [0, 1] rfl rfl (by decide) (by decide) hkk hFc hPP hDD
  generalize H1 = H at hP hS ⊢
  have hP : va_P (dC, dI) vw_cls [(a0, .inr (0, [.ref aM, .ref aR, .ref aW, .ref aF, .ref aS, .ref aKR])), (aS, .inr (6, [sv, .int go, .int ak, .int be, .long bw, .int pt, .int ln, .ref aSo])), (aM, .inr (4, [.int cnt, .int vec, .ref aMS, .ref aMC, .ref aMT])), (aMT, .inl (cI, 320, .inl fT))] H := hP
  have hD : va_D A [(a0, .inr (0, [.ref aM, .ref aR, .ref aW, .ref aF, .ref aS, .ref aKR])), (aS, .inr (6, [sv, .int go, .int ak, .int be, .long bw, .int pt, .int ln, .ref aSo])), (aM, .inr (4, [.int cnt, .int vec, .ref aMS, .ref aMC, .ref aMT])), (aMT, .inl (cI, 320, .inl fT))] := hD
  have hP9 := hP.sub (ws' := [(a0, .inr (0, [.ref aM, .ref aR, .ref aW, .ref aF, .ref aS, .ref aKR])), (aS, .inr (6, [sv, .int go, .int ak, .int be, .long bw, .int pt, .int ln, .ref aSo])), (aM, .inr (4, [.int cnt, .int vec, .ref aMS, .ref aMC, .ref aMT])), (aMT, .inl (cI, 320, .inl fT))]) [0, 1, 2, 3] rfl
  have hD9 := hD.sub (ws' := [(a0, .inr (0, [.ref aM, .ref aR, .ref aW, .ref aF, .ref aS, .ref aKR])), (aS, .inr (6, [sv, .int go, .int ak, .int be, .long bw, .int pt, .int ln, .ref aSo])), (aM, .inr (4, [.int cnt, .int vec, .ref aMS, .ref aMC, .ref aMT])), (aMT, .inl (cI, 320, .inl fT))]) [0, 1, 2, 3] (by decide) rfl
  have hpost_3 : (r_1 : Int32) = q_sin cnt vec fT ak m1 := hw_2
  exact W.iret (v := r_1) hx hb hr (fun t ht hW => ⟨⟨r_1, (), rfl, hpost_3, by rw [ht]; exact hP9, hD9⟩, hS.F ht⟩) hS.2.2 d_SettingSearch_asked_15
set_option maxHeartbeats 4000000 in
set_option maxRecDepth 100000 in
/-- best -/
theorem f_best (l : Launch) (dC : Nat → ClassId) (dI : Nat → Nat → Nat) (sz : Nat) (cI : ClassId) (cZ : ClassId) (cQ : ClassId) (a0 : Nat) (aM : Nat) (aR : Nat) (aW : Nat) (aF : Nat) (aS : Nat) (aKR : Nat) (aSo : Nat) (sv : Value) (go : Int32) (ak : Int32) (be : Int32) (bw : Int64) (pt : Int32) (ln : Int32) (aMS : Nat) (aMC : Nat) (aMT : Nat) (cnt : Int32) (vec : Int32) (fT : Nat → Int32) (m1 : Int32) (nc : Nat) (nv : Nat) (hcnt : cnt = nI nc) (hvec : vec = nI nv) (hnc : nc ≤ 5) (hnv : nv ≤ 64) : Met l y_SettingSearch_best w_SettingSearch_best ({ frames := 2, cells := 0, slots := 0, locals := 43 } : Room) (va_Pc [.ref a0, .int m1] (fun U => U.heap.size = sz ∧ va_P (dC, dI) vw_cls [(a0, .inr (0, [.ref aM, .ref aR, .ref aW, .ref aF, .ref aS, .ref aKR])), (aS, .inr (6, [sv, .int go, .int ak, .int be, .long bw, .int pt, .int ln, .ref aSo])), (aM, .inr (4, [.int cnt, .int vec, .ref aMS, .ref aMC, .ref aMT])), (aMT, .inl (cI, 320, .inl fT))] U.heap ∧ g_K dC dI [(cI, .int), (cZ, .boolean), (cQ, (.object "SettingSearch$Answers"))] U ∧ va_D (fun _ => True) [(a0, .inr (0, [.ref aM, .ref aR, .ref aW, .ref aF, .ref aS, .ref aKR])), (aS, .inr (6, [sv, .int go, .int ak, .int be, .long bw, .int pt, .int ln, .ref aSo])), (aM, .inr (4, [.int cnt, .int vec, .ref aMS, .ref aMC, .ref aMT])), (aMT, .inl (cI, 320, .inl fT))])) (va_Qi (fun (r : Int32) (u : Unit) => r = q_sin cnt vec fT be m1) (fun (u : Unit) (t : State) => va_P (dC, dI) vw_cls [(a0, .inr (0, [.ref aM, .ref aR, .ref aW, .ref aF, .ref aS, .ref aKR])), (aS, .inr (6, [sv, .int go, .int ak, .int be, .long bw, .int pt, .int ln, .ref aSo])), (aM, .inr (4, [.int cnt, .int vec, .ref aMS, .ref aMC, .ref aMT])), (aMT, .inl (cI, 320, .inl fT))] t.heap ∧ va_D (va_A [(a0, .inr (0, [.ref aM, .ref aR, .ref aW, .ref aF, .ref aS, .ref aKR])), (aS, .inr (6, [sv, .int go, .int ak, .int be, .long bw, .int pt, .int ln, .ref aSo])), (aM, .inr (4, [.int cnt, .int vec, .ref aMS, .ref aMC, .ref aMT])), (aMT, .inl (cI, 320, .inl fT))] sz) [(a0, .inr (0, [.ref aM, .ref aR, .ref aW, .ref aF, .ref aS, .ref aKR])), (aS, .inr (6, [sv, .int go, .int ak, .int be, .long bw, .int pt, .int ln, .ref aSo])), (aM, .inr (4, [.int cnt, .int vec, .ref aMS, .ref aMC, .ref aMT])), (aMT, .inl (cI, 320, .inl fT))]) (va_A [(a0, .inr (0, [.ref aM, .ref aR, .ref aW, .ref aF, .ref aS, .ref aKR])), (aS, .inr (6, [sv, .int go, .int ak, .int be, .long bw, .int pt, .int ln, .ref aSo])), (aM, .inr (4, [.int cnt, .int vec, .ref aMS, .ref aMC, .ref aMT])), (aMT, .inl (cI, 320, .inl fT))] sz)) 0 0 (va_A [(a0, .inr (0, [.ref aM, .ref aR, .ref aW, .ref aF, .ref aS, .ref aKR])), (aS, .inr (6, [sv, .int go, .int ak, .int be, .long bw, .int pt, .int ln, .ref aSo])), (aM, .inr (4, [.int cnt, .int vec, .ref aMS, .ref aMC, .ref aMT])), (aMT, .inl (cI, 320, .inl fT))] sz) := by
  refine Met.ofW (cc := b_SettingSearch_best) (maxL := 2) (ret := (some .int)) (by decide) rfl ?_
  intro p e s m args below meth c s₁ B hml hv
  obtain ⟨rfl, hsz, hP, hKN, hD0⟩ := hv
  obtain ⟨hK, hN⟩ := id hKN
  have hx := B.exec
  have hb := B.bytes
  have hr := B.returns
  have hts0 := atoms_spec (ws := w_SettingSearch_best) B.pre
  have hts : ∀ w ∈ lw_g, w.before _ s = true := fun w h => hts0 w (List.mem_cons_of_mem _ h)
  have hown : s.vm.findClass R_SettingSearch = some m.cls := findClass_of_methodNamed B.named
  have hlocks := B.notSynchronized
  subst hsz
  have hD := hD0.self (sz := s.heap.size)
  generalize hAe : va_A [(a0, .inr (0, [.ref aM, .ref aR, .ref aW, .ref aF, .ref aS, .ref aKR])), (aS, .inr (6, [sv, .int go, .int ak, .int be, .long bw, .int pt, .int ln, .ref aSo])), (aM, .inr (4, [.int cnt, .int vec, .ref aMS, .ref aMC, .ref aMT])), (aMT, .inl (cI, 320, .inl fT))] s.heap.size = A at hD ⊢
  have hA : ∀ q : Nat, s.heap.size ≤ q → A q := fun q h => by rw [← hAe]; exact Or.inr h
  have hP : va_P (dC, dI) vw_cls [(a0, .inr (0, [.ref aM, .ref aR, .ref aW, .ref aF, .ref aS, .ref aKR])), (aS, .inr (6, [sv, .int go, .int ak, .int be, .long bw, .int pt, .int ln, .ref aSo])), (aM, .inr (4, [.int cnt, .int vec, .ref aMS, .ref aMC, .ref aMT])), (aMT, .inl (cI, 320, .inl fT))] s.heap := hP
  have hl := lv_entry ([.ref a0, .int m1]) (n := 2) (Nat.le_of_ble_eq_true rfl)
  rw [lg_entry_eq]
  generalize (lg_sl ([.ref a0, .int m1]) ++ List.replicate (2 - (lg_sl ([.ref a0, .int m1])).length) Slot.unset).toArray = ls at hl ⊢
  have hl : lv_has ls 2 [(0, .ref a0), (1, .int m1)] := hl
  refine gw_start (fun H locs hH hlocs => ?_)
  rw [← hH] at hP
  have hS : va_S A s.heap H locs := by rw [hH, hlocs]; exact va_S.rf
  refine lv_aload_n hx hb d_SettingSearch_best_0 rfl (lv_at hl 0 rfl) ?_
  refine va_get (D := (dC, dI)) (ci := 0) (v := .ref aM) (C := R_SettingSearch) (T := T_SettingSearch) (N := 6) hx hb hts in_SettingSearch hown hK hP 0 rfl rfl 0 (by decide) (hts _ tw_179) (fun _ h9 => h9) rfl d_SettingSearch_best_1 ?_
  refine lv_aload_n hx hb d_SettingSearch_best_4 rfl (lv_at hl 0 rfl) ?_
  refine va_get (D := (dC, dI)) (ci := 0) (v := .ref aS) (C := R_SettingSearch) (T := T_SettingSearch) (N := 6) hx hb hts in_SettingSearch hown hK hP 0 rfl rfl 4 (by decide) (hts _ tw_183) (fun _ h9 => h9) rfl d_SettingSearch_best_5 ?_
  refine va_getN (D := (dC, dI)) (ci := 6) (v := .int be) (C := R_Search) (T := T_Search) (N := 8) hx hb hts in_Search hown hK hP 1 rfl rfl 3 (by decide) (g_Nu hN (List.mem_of_getElem? (i := 10) rfl)) (fun _ h9 => h9) rfl d_SettingSearch_best_8 ?_
  refine lv_iload_n hx hb d_SettingSearch_best_11 rfl (lv_at hl 1 rfl) ?_
  have hPc := hP.sub (ws' := [(aM, .inr (4, [.int cnt, .int vec, .ref aMS, .ref aMC, .ref aMT])), (aMT, .inl (cI, 320, .inl fT))]) [2, 3] rfl
  have hDc := hD.sub (ws' := [(aM, .inr (4, [.int cnt, .int vec, .ref aMS, .ref aMC, .ref aMT])), (aMT, .inl (cI, 320, .inl fT))]) [2, 3] (by decide) rfl
  have hFc := va_free (wc := [(aM, .inr (4, [.int cnt, .int vec, .ref aMS, .ref aMC, .ref aMT])), (aMT, .inl (cI, 320, .inl fT))]) hD hS hA [2, 3] rfl
  refine va_calli (va_runV (As := [.int be, .int m1]) (rest := []) ⟨hx, hb, hml, hown, hts⟩ (k_sin l dC dI H.size cI cZ cQ aM aMS aMC aMT cnt vec fT be m1 nc nv hcnt hvec hnc hnv) ⟨(callB_of 2 hts (ga_all tw_267) rfl rfl rfl (hts _ tw_23) (hts _ tw_333) (by decide +kernel) ⟨Nat.le_of_ble_eq_true rfl, Nat.le_of_ble_eq_true rfl⟩), hts _ tw_265, hts _ tw_266⟩ ⟨fun a U g mk q => by obtain ⟨q0, q1, qP, qK, qD⟩ := q; exact ⟨q0, q1, qP, g_K.same (u := U) (U := U.calling g mk a) rfl qK, qD⟩, va_recv hK hPc (ci := 4) (q0 := 0) rfl rfl, fun U hU hW => ⟨rfl, by rw [hU], by rw [hU]; exact hPc, g_K.warm hW hKN, hDc.weaken (fun _ _ _ _ => trivial)⟩⟩ rfl rfl hl.1 rfl (lv_room (Nat.le_of_ble_eq_true rfl)) d_SettingSearch_best_12 ⟨Nat.le_of_ble_eq_true rfl, Nat.le_of_ble_eq_true rfl⟩) hS (fun q _ h => hFc q h) hFc (fun r_1 u t H1 locs htt hvm hw_2 hBB hzz hkk hS => ?_)
  have hw_2 : r_1 = q_sin cnt vec fT be m1 := hw_2
  obtain ⟨hPP, hDD⟩ := hBB
  rw [htt] at hPP
  have hPP : va_P (dC, dI) vw_cls [(aM, .inr (4, [.int cnt, .int vec, .ref aMS, .ref aMC, .ref aMT])), (aMT, .inl (cI, 320, .inl fT))] H1 := hPP
  have hDD : va_D (va_A [(aM, .inr (4, [.int cnt, .int vec, .ref aMS, .ref aMC, .ref aMT])), (aMT, .inl (cI, 320, .inl fT))] H.size) [(aM, .inr (4, [.int cnt, .int vec, .ref aMS, .ref aMC, .ref aMT])), (aMT, .inl (cI, 320, .inl fT))] := hDD
  obtain ⟨hP, hD⟩ := va_join (wr := [(a0, .inr (0, [.ref aM, .ref aR, .ref aW, .ref aF, .ref aS, .ref aKR])), (aS, .inr (6, [sv, .int go, .int ak, .int be, .long bw, .int pt, .int ln, .ref aSo]))]) (w1 := [(aM, .inr (4, [.int cnt, .int vec, .ref aMS, .ref aMC, .ref aMT])), (aMT, .inl (cI, 320, .inl fT))]) hP hD [2, 3] [0, 1] rfl rfl (by decide) (by decide) hkk hFc hPP hDD
  generalize H1 = H at hP hS ⊢
  have hP : va_P (dC, dI) vw_cls [(a0, .inr (0, [.ref aM, .ref aR, .ref aW, .ref aF, .ref aS, .ref aKR])), (aS, .inr (6, [sv, .int go, .int ak, .int be, .long bw, .int pt, .int ln, .ref aSo])), (aM, .inr (4, [.int cnt, .int vec, .ref aMS, .ref aMC, .ref aMT])), (aMT, .inl (cI, 320, .inl fT))] H := hP
  have hD : va_D A [(a0, .inr (0, [.ref aM, .ref aR, .ref aW, .ref aF, .ref aS, .ref aKR])), (aS, .inr (6, [sv, .int go, .int ak, .int be, .long bw, .int pt, .int ln, .ref aSo])), (aM, .inr (4, [.int cnt, .int vec, .ref aMS, .ref aMC, .ref aMT])), (aMT, .inl (cI, 320, .inl fT))] := hD
  have hP9 := hP.sub (ws' := [(a0, .inr (0, [.ref aM, .ref aR, .ref aW, .ref aF, .ref aS, .ref aKR])), (aS, .inr (6, [sv, .int go, .int ak, .int be, .long bw, .int pt, .int ln, .ref aSo])), (aM, .inr (4, [.int cnt, .int vec, .ref aMS, .ref aMC, .ref aMT])), (aMT, .inl (cI, 320, .inl fT))]) [0, 1, 2, 3] rfl
  have hD9 := hD.sub (ws' := [(a0, .inr (0, [.ref aM, .ref aR, .ref aW, .ref aF, .ref aS, .ref aKR])), (aS, .inr (6, [sv, .int go, .int ak, .int be, .long bw, .int pt, .int ln, .ref aSo])), (aM, .inr (4, [.int cnt, .int vec, .ref aMS, .ref aMC, .ref aMT])), (aMT, .inl (cI, 320, .inl fT))]) [0, 1, 2, 3] (by decide) rfl
  have hpost_3 : (r_1 : Int32) = q_sin cnt vec fT be m1 := hw_2
  exact W.iret (v := r_1) hx hb hr (fun t ht hW => ⟨⟨r_1, (), rfl, hpost_3, by rw [ht]; exact hP9, hD9⟩, hS.F ht⟩) hS.2.2 d_SettingSearch_best_15
set_option maxHeartbeats 4000000 in
set_option maxRecDepth 100000 in
/-- sum -/
theorem f_sum (l : Launch) (dC : Nat → ClassId) (dI : Nat → Nat → Nat) (sz : Nat) (cI : ClassId) (cZ : ClassId) (cQ : ClassId) (a0 : Nat) (aM : Nat) (aR : Nat) (aW : Nat) (aF : Nat) (aS : Nat) (aKR : Nat) (aSo : Nat) (sv : Value) (go : Int32) (ak : Int32) (be : Int32) (bw : Int64) (pt : Int32) (ln : Int32)  : Met l y_SettingSearch_sum w_SettingSearch_sum ({ frames := 0, cells := 0, slots := 0, locals := 0 } : Room) (va_Pc [.ref a0] (fun U => U.heap.size = sz ∧ va_P (dC, dI) vw_cls [(a0, .inr (0, [.ref aM, .ref aR, .ref aW, .ref aF, .ref aS, .ref aKR])), (aS, .inr (6, [sv, .int go, .int ak, .int be, .long bw, .int pt, .int ln, .ref aSo]))] U.heap ∧ g_K dC dI [(cI, .int), (cZ, .boolean), (cQ, (.object "SettingSearch$Answers"))] U ∧ va_D (fun _ => True) [(a0, .inr (0, [.ref aM, .ref aR, .ref aW, .ref aF, .ref aS, .ref aKR])), (aS, .inr (6, [sv, .int go, .int ak, .int be, .long bw, .int pt, .int ln, .ref aSo]))])) (va_Ql (fun (r : Int64) (u : Unit) => r = bw) (fun (u : Unit) (t : State) => va_P (dC, dI) vw_cls [(a0, .inr (0, [.ref aM, .ref aR, .ref aW, .ref aF, .ref aS, .ref aKR])), (aS, .inr (6, [sv, .int go, .int ak, .int be, .long bw, .int pt, .int ln, .ref aSo]))] t.heap ∧ va_D (va_A [(a0, .inr (0, [.ref aM, .ref aR, .ref aW, .ref aF, .ref aS, .ref aKR])), (aS, .inr (6, [sv, .int go, .int ak, .int be, .long bw, .int pt, .int ln, .ref aSo]))] sz) [(a0, .inr (0, [.ref aM, .ref aR, .ref aW, .ref aF, .ref aS, .ref aKR])), (aS, .inr (6, [sv, .int go, .int ak, .int be, .long bw, .int pt, .int ln, .ref aSo]))]) (va_A [(a0, .inr (0, [.ref aM, .ref aR, .ref aW, .ref aF, .ref aS, .ref aKR])), (aS, .inr (6, [sv, .int go, .int ak, .int be, .long bw, .int pt, .int ln, .ref aSo]))] sz)) 0 0 (va_A [(a0, .inr (0, [.ref aM, .ref aR, .ref aW, .ref aF, .ref aS, .ref aKR])), (aS, .inr (6, [sv, .int go, .int ak, .int be, .long bw, .int pt, .int ln, .ref aSo]))] sz) := by
  refine Met.ofW (cc := b_SettingSearch_sum) (maxL := 1) (ret := (some .long)) (by decide) rfl ?_
  intro p e s m args below meth c s₁ B hml hv
  obtain ⟨rfl, hsz, hP, hKN, hD0⟩ := hv
  obtain ⟨hK, hN⟩ := id hKN
  have hx := B.exec
  have hb := B.bytes
  have hr := B.returns
  have hts0 := atoms_spec (ws := w_SettingSearch_sum) B.pre
  have hts : ∀ w ∈ lw_g, w.before _ s = true := fun w h => hts0 w (List.mem_cons_of_mem _ h)
  have hown : s.vm.findClass R_SettingSearch = some m.cls := findClass_of_methodNamed B.named
  have hlocks := B.notSynchronized
  subst hsz
  have hD := hD0.self (sz := s.heap.size)
  generalize hAe : va_A [(a0, .inr (0, [.ref aM, .ref aR, .ref aW, .ref aF, .ref aS, .ref aKR])), (aS, .inr (6, [sv, .int go, .int ak, .int be, .long bw, .int pt, .int ln, .ref aSo]))] s.heap.size = A at hD ⊢
  have hA : ∀ q : Nat, s.heap.size ≤ q → A q := fun q h => by rw [← hAe]; exact Or.inr h
  have hP : va_P (dC, dI) vw_cls [(a0, .inr (0, [.ref aM, .ref aR, .ref aW, .ref aF, .ref aS, .ref aKR])), (aS, .inr (6, [sv, .int go, .int ak, .int be, .long bw, .int pt, .int ln, .ref aSo]))] s.heap := hP
  have hl := lv_entry ([.ref a0]) (n := 1) (Nat.le_of_ble_eq_true rfl)
  rw [lg_entry_eq]
  generalize (lg_sl ([.ref a0]) ++ List.replicate (1 - (lg_sl ([.ref a0])).length) Slot.unset).toArray = ls at hl ⊢
  have hl : lv_has ls 1 [(0, .ref a0)] := hl
  refine gw_start (fun H locs hH hlocs => ?_)
  rw [← hH] at hP
  have hS : va_S A s.heap H locs := by rw [hH, hlocs]; exact va_S.rf
  refine lv_aload_n hx hb d_SettingSearch_sum_0 rfl (lv_at hl 0 rfl) ?_
  refine va_get (D := (dC, dI)) (ci := 0) (v := .ref aS) (C := R_SettingSearch) (T := T_SettingSearch) (N := 6) hx hb hts in_SettingSearch hown hK hP 0 rfl rfl 4 (by decide) (hts _ tw_183) (fun _ h9 => h9) rfl d_SettingSearch_sum_1 ?_
  refine va_getN (D := (dC, dI)) (ci := 6) (v := .long bw) (C := R_Search) (T := T_Search) (N := 8) hx hb hts in_Search hown hK hP 1 rfl rfl 4 (by decide) (g_Nu hN (List.mem_of_getElem? (i := 11) rfl)) (fun _ h9 => h9) rfl d_SettingSearch_sum_4 ?_
  have hP9 := hP.sub (ws' := [(a0, .inr (0, [.ref aM, .ref aR, .ref aW, .ref aF, .ref aS, .ref aKR])), (aS, .inr (6, [sv, .int go, .int ak, .int be, .long bw, .int pt, .int ln, .ref aSo]))]) [0, 1] rfl
  have hD9 := hD.sub (ws' := [(a0, .inr (0, [.ref aM, .ref aR, .ref aW, .ref aF, .ref aS, .ref aKR])), (aS, .inr (6, [sv, .int go, .int ak, .int be, .long bw, .int pt, .int ln, .ref aSo]))]) [0, 1] (by decide) rfl
  have hpost_1 : (bw : Int64) = bw := rfl
  exact W.lret (v := bw) hx hb hr (fun t ht hW => ⟨⟨bw, (), rfl, hpost_1, by rw [ht]; exact hP9, hD9⟩, hS.F ht⟩) hS.2.2 d_SettingSearch_sum_7
set_option maxHeartbeats 4000000 in
set_option maxRecDepth 100000 in
/-- bound, nothing searched -/
theorem f_bound_n (l : Launch) (dC : Nat → ClassId) (dI : Nat → Nat → Nat) (sz : Nat) (cI : ClassId) (cZ : ClassId) (cQ : ClassId) (a0 : Nat) (aM : Nat) (aR : Nat) (aW : Nat) (aF : Nat) (aS : Nat) (aKR : Nat) (aSo : Nat) (go : Int32) (ak : Int32) (be : Int32) (bw : Int64) (pt : Int32) (ln : Int32)  : Met l y_SettingSearch_bound w_SettingSearch_bound ({ frames := 2, cells := 0, slots := 0, locals := 46 } : Room) (va_Pc [.ref a0] (fun U => U.heap.size = sz ∧ va_P (dC, dI) vw_cls [(a0, .inr (0, [.ref aM, .ref aR, .ref aW, .ref aF, .ref aS, .ref aKR])), (aS, .inr (6, [.null, .int go, .int ak, .int be, .long bw, .int pt, .int ln, .ref aSo]))] U.heap ∧ g_K dC dI [(cI, .int), (cZ, .boolean), (cQ, (.object "SettingSearch$Answers"))] U ∧ va_D (fun _ => True) [(a0, .inr (0, [.ref aM, .ref aR, .ref aW, .ref aF, .ref aS, .ref aKR])), (aS, .inr (6, [.null, .int go, .int ak, .int be, .long bw, .int pt, .int ln, .ref aSo]))])) (va_Ql (fun (r : Int64) (u : Unit) => r = -1) (fun (u : Unit) (t : State) => va_P (dC, dI) vw_cls [(a0, .inr (0, [.ref aM, .ref aR, .ref aW, .ref aF, .ref aS, .ref aKR])), (aS, .inr (6, [.null, .int go, .int ak, .int be, .long bw, .int pt, .int ln, .ref aSo]))] t.heap ∧ va_D (va_A [(a0, .inr (0, [.ref aM, .ref aR, .ref aW, .ref aF, .ref aS, .ref aKR])), (aS, .inr (6, [.null, .int go, .int ak, .int be, .long bw, .int pt, .int ln, .ref aSo]))] sz) [(a0, .inr (0, [.ref aM, .ref aR, .ref aW, .ref aF, .ref aS, .ref aKR])), (aS, .inr (6, [.null, .int go, .int ak, .int be, .long bw, .int pt, .int ln, .ref aSo]))]) (va_A [(a0, .inr (0, [.ref aM, .ref aR, .ref aW, .ref aF, .ref aS, .ref aKR])), (aS, .inr (6, [.null, .int go, .int ak, .int be, .long bw, .int pt, .int ln, .ref aSo]))] sz)) 0 0 (va_A [(a0, .inr (0, [.ref aM, .ref aR, .ref aW, .ref aF, .ref aS, .ref aKR])), (aS, .inr (6, [.null, .int go, .int ak, .int be, .long bw, .int pt, .int ln, .ref aSo]))] sz) := by
  refine Met.ofW (cc := b_SettingSearch_bound) (maxL := 2) (ret := (some .long)) (by decide) rfl ?_
  intro p e s m args below meth c s₁ B hml hv
  obtain ⟨rfl, hsz, hP, hKN, hD0⟩ := hv
  obtain ⟨hK, hN⟩ := id hKN
  have hx := B.exec
  have hb := B.bytes
  have hr := B.returns
  have hts0 := atoms_spec (ws := w_SettingSearch_bound) B.pre
  have hts : ∀ w ∈ lw_g, w.before _ s = true := fun w h => hts0 w (List.mem_cons_of_mem _ h)
  have hown : s.vm.findClass R_SettingSearch = some m.cls := findClass_of_methodNamed B.named
  have hlocks := B.notSynchronized
  subst hsz
  have hD := hD0.self (sz := s.heap.size)
  generalize hAe : va_A [(a0, .inr (0, [.ref aM, .ref aR, .ref aW, .ref aF, .ref aS, .ref aKR])), (aS, .inr (6, [.null, .int go, .int ak, .int be, .long bw, .int pt, .int ln, .ref aSo]))] s.heap.size = A at hD ⊢
  have hA : ∀ q : Nat, s.heap.size ≤ q → A q := fun q h => by rw [← hAe]; exact Or.inr h
  have hP : va_P (dC, dI) vw_cls [(a0, .inr (0, [.ref aM, .ref aR, .ref aW, .ref aF, .ref aS, .ref aKR])), (aS, .inr (6, [.null, .int go, .int ak, .int be, .long bw, .int pt, .int ln, .ref aSo]))] s.heap := hP
  have hl := lv_entry ([.ref a0]) (n := 2) (Nat.le_of_ble_eq_true rfl)
  rw [lg_entry_eq]
  generalize (lg_sl ([.ref a0]) ++ List.replicate (2 - (lg_sl ([.ref a0])).length) Slot.unset).toArray = ls at hl ⊢
  have hl : lv_has ls 2 [(0, .ref a0)] := hl
  refine gw_start (fun H locs hH hlocs => ?_)
  rw [← hH] at hP
  have hS : va_S A s.heap H locs := by rw [hH, hlocs]; exact va_S.rf
  refine lv_aload_n hx hb d_SettingSearch_bound_0 rfl (lv_at hl 0 rfl) ?_
  refine va_get (D := (dC, dI)) (ci := 0) (v := .ref aS) (C := R_SettingSearch) (T := T_SettingSearch) (N := 6) hx hb hts in_SettingSearch hown hK hP 0 rfl rfl 4 (by decide) (hts _ tw_183) (fun _ h9 => h9) rfl d_SettingSearch_bound_1 ?_
  refine va_getN (D := (dC, dI)) (ci := 6) (v := .null) (C := R_Search) (T := T_Search) (N := 8) hx hb hts in_Search hown hK hP 1 rfl rfl 0 (by decide) (g_Nu hN (List.mem_of_getElem? (i := 7) rfl)) (fun _ h9 => h9) rfl d_SettingSearch_bound_4 ?_
  refine lv_astore_nN (lv' := [(1, .null), (0, .ref a0)]) hx hb d_SettingSearch_bound_7 rfl hl (by decide) rfl (fun ls hl => ?_)
  refine lv_aload_nN hx hb d_SettingSearch_bound_8 rfl (lv_at hl 0 rfl) ?_
  refine lv_ifnonnullN hx hb d_SettingSearch_bound_9 ?_
  refine lv_ldc2 (v := (-1)) hx hb hown (hts _ tw_363) d_SettingSearch_bound_12 ?_
  refine lv_goto (tgt := 23) hx hb d_SettingSearch_bound_15 (by decide) ?_
  have hP9 := hP.sub (ws' := [(a0, .inr (0, [.ref aM, .ref aR, .ref aW, .ref aF, .ref aS, .ref aKR])), (aS, .inr (6, [.null, .int go, .int ak, .int be, .long bw, .int pt, .int ln, .ref aSo]))]) [0, 1] rfl
  have hD9 := hD.sub (ws' := [(a0, .inr (0, [.ref aM, .ref aR, .ref aW, .ref aF, .ref aS, .ref aKR])), (aS, .inr (6, [.null, .int go, .int ak, .int be, .long bw, .int pt, .int ln, .ref aSo]))]) [0, 1] (by decide) rfl
  have hpost_1 : ((-1) : Int64) = -1 := rfl
  exact W.lret (v := (-1)) hx hb hr (fun t ht hW => ⟨⟨(-1), (), rfl, hpost_1, by rw [ht]; exact hP9, hD9⟩, hS.F ht⟩) hS.2.2 d_SettingSearch_bound_23
set_option maxHeartbeats 4000000 in
set_option maxRecDepth 100000 in
/-- bound -/
theorem f_bound (l : Launch) (dC : Nat → ClassId) (dI : Nat → Nat → Nat) (sz : Nat) (cI : ClassId) (cZ : ClassId) (cQ : ClassId) (a0 : Nat) (aM : Nat) (aR : Nat) (aW : Nat) (aF : Nat) (aS : Nat) (aKR : Nat) (aSo : Nat) (go : Int32) (ak : Int32) (be : Int32) (bw : Int64) (pt : Int32) (ln : Int32) (aA : Nat) (aK : Nat) (aG : Nat) (aO : Nat) (fd : Int64) (ct : Int32) (fW : Nat → Int32)  : Met l y_SettingSearch_bound w_SettingSearch_bound ({ frames := 2, cells := 0, slots := 0, locals := 46 } : Room) (va_Pc [.ref a0] (fun U => U.heap.size = sz ∧ va_P (dC, dI) vw_cls [(a0, .inr (0, [.ref aM, .ref aR, .ref aW, .ref aF, .ref aS, .ref aKR])), (aS, .inr (6, [.ref aA, .int go, .int ak, .int be, .long bw, .int pt, .int ln, .ref aSo])), (aW, .inl (cI, 9, .inl fW)), (aA, .inr (2, [.long fd, .int ct, .ref aK, .ref aG, .ref aO]))] U.heap ∧ g_K dC dI [(cI, .int), (cZ, .boolean), (cQ, (.object "SettingSearch$Answers"))] U ∧ va_D (fun _ => True) [(a0, .inr (0, [.ref aM, .ref aR, .ref aW, .ref aF, .ref aS, .ref aKR])), (aS, .inr (6, [.ref aA, .int go, .int ak, .int be, .long bw, .int pt, .int ln, .ref aSo])), (aW, .inl (cI, 9, .inl fW)), (aA, .inr (2, [.long fd, .int ct, .ref aK, .ref aG, .ref aO]))])) (va_Ql (fun (r : Int64) (u : Unit) => r = fd * (q_mx fW 9).toInt64) (fun (u : Unit) (t : State) => va_P (dC, dI) vw_cls [(a0, .inr (0, [.ref aM, .ref aR, .ref aW, .ref aF, .ref aS, .ref aKR])), (aS, .inr (6, [.ref aA, .int go, .int ak, .int be, .long bw, .int pt, .int ln, .ref aSo])), (aW, .inl (cI, 9, .inl fW)), (aA, .inr (2, [.long fd, .int ct, .ref aK, .ref aG, .ref aO]))] t.heap ∧ va_D (va_A [(a0, .inr (0, [.ref aM, .ref aR, .ref aW, .ref aF, .ref aS, .ref aKR])), (aS, .inr (6, [.ref aA, .int go, .int ak, .int be, .long bw, .int pt, .int ln, .ref aSo])), (aW, .inl (cI, 9, .inl fW)), (aA, .inr (2, [.long fd, .int ct, .ref aK, .ref aG, .ref aO]))] sz) [(a0, .inr (0, [.ref aM, .ref aR, .ref aW, .ref aF, .ref aS, .ref aKR])), (aS, .inr (6, [.ref aA, .int go, .int ak, .int be, .long bw, .int pt, .int ln, .ref aSo])), (aW, .inl (cI, 9, .inl fW)), (aA, .inr (2, [.long fd, .int ct, .ref aK, .ref aG, .ref aO]))]) (va_A [(a0, .inr (0, [.ref aM, .ref aR, .ref aW, .ref aF, .ref aS, .ref aKR])), (aS, .inr (6, [.ref aA, .int go, .int ak, .int be, .long bw, .int pt, .int ln, .ref aSo])), (aW, .inl (cI, 9, .inl fW)), (aA, .inr (2, [.long fd, .int ct, .ref aK, .ref aG, .ref aO]))] sz)) 0 0 (va_A [(a0, .inr (0, [.ref aM, .ref aR, .ref aW, .ref aF, .ref aS, .ref aKR])), (aS, .inr (6, [.ref aA, .int go, .int ak, .int be, .long bw, .int pt, .int ln, .ref aSo])), (aW, .inl (cI, 9, .inl fW)), (aA, .inr (2, [.long fd, .int ct, .ref aK, .ref aG, .ref aO]))] sz) := by
  refine Met.ofW (cc := b_SettingSearch_bound) (maxL := 2) (ret := (some .long)) (by decide) rfl ?_
  intro p e s m args below meth c s₁ B hml hv
  obtain ⟨rfl, hsz, hP, hKN, hD0⟩ := hv
  obtain ⟨hK, hN⟩ := id hKN
  have hx := B.exec
  have hb := B.bytes
  have hr := B.returns
  have hts0 := atoms_spec (ws := w_SettingSearch_bound) B.pre
  have hts : ∀ w ∈ lw_g, w.before _ s = true := fun w h => hts0 w (List.mem_cons_of_mem _ h)
  have hown : s.vm.findClass R_SettingSearch = some m.cls := findClass_of_methodNamed B.named
  have hlocks := B.notSynchronized
  subst hsz
  have hD := hD0.self (sz := s.heap.size)
  generalize hAe : va_A [(a0, .inr (0, [.ref aM, .ref aR, .ref aW, .ref aF, .ref aS, .ref aKR])), (aS, .inr (6, [.ref aA, .int go, .int ak, .int be, .long bw, .int pt, .int ln, .ref aSo])), (aW, .inl (cI, 9, .inl fW)), (aA, .inr (2, [.long fd, .int ct, .ref aK, .ref aG, .ref aO]))] s.heap.size = A at hD ⊢
  have hA : ∀ q : Nat, s.heap.size ≤ q → A q := fun q h => by rw [← hAe]; exact Or.inr h
  have hP : va_P (dC, dI) vw_cls [(a0, .inr (0, [.ref aM, .ref aR, .ref aW, .ref aF, .ref aS, .ref aKR])), (aS, .inr (6, [.ref aA, .int go, .int ak, .int be, .long bw, .int pt, .int ln, .ref aSo])), (aW, .inl (cI, 9, .inl fW)), (aA, .inr (2, [.long fd, .int ct, .ref aK, .ref aG, .ref aO]))] s.heap := hP
  have hl := lv_entry ([.ref a0]) (n := 2) (Nat.le_of_ble_eq_true rfl)
  rw [lg_entry_eq]
  generalize (lg_sl ([.ref a0]) ++ List.replicate (2 - (lg_sl ([.ref a0])).length) Slot.unset).toArray = ls at hl ⊢
  have hl : lv_has ls 2 [(0, .ref a0)] := hl
  refine gw_start (fun H locs hH hlocs => ?_)
  rw [← hH] at hP
  have hS : va_S A s.heap H locs := by rw [hH, hlocs]; exact va_S.rf
  refine lv_aload_n hx hb d_SettingSearch_bound_0 rfl (lv_at hl 0 rfl) ?_
  refine va_get (D := (dC, dI)) (ci := 0) (v := .ref aS) (C := R_SettingSearch) (T := T_SettingSearch) (N := 6) hx hb hts in_SettingSearch hown hK hP 0 rfl rfl 4 (by decide) (hts _ tw_183) (fun _ h9 => h9) rfl d_SettingSearch_bound_1 ?_
  refine va_getN (D := (dC, dI)) (ci := 6) (v := .ref aA) (C := R_Search) (T := T_Search) (N := 8) hx hb hts in_Search hown hK hP 1 rfl rfl 0 (by decide) (g_Nu hN (List.mem_of_getElem? (i := 7) rfl)) (fun _ h9 => h9) rfl d_SettingSearch_bound_4 ?_
  refine lv_astore_n (lv' := [(1, .ref aA), (0, .ref a0)]) hx hb d_SettingSearch_bound_7 rfl hl (by decide) rfl (fun ls hl => ?_)
  refine lv_aload_n hx hb d_SettingSearch_bound_8 rfl (lv_at hl 0 rfl) ?_
  refine lv_ifnonnull (tgt := 18) hx hb d_SettingSearch_bound_9 (by decide) ?_
  refine lv_aload_n hx hb d_SettingSearch_bound_18 rfl (lv_at hl 1 rfl) ?_
  refine lv_aload_n hx hb d_SettingSearch_bound_19 rfl (lv_at hl 0 rfl) ?_
  have hPc := hP.sub (ws' := [(a0, .inr (0, [.ref aM, .ref aR, .ref aW, .ref aF, .ref aS, .ref aKR])), (aW, .inl (cI, 9, .inl fW)), (aA, .inr (2, [.long fd, .int ct, .ref aK, .ref aG, .ref aO]))]) [0, 2, 3] rfl
  have hDc := hD.sub (ws' := [(a0, .inr (0, [.ref aM, .ref aR, .ref aW, .ref aF, .ref aS, .ref aKR])), (aW, .inl (cI, 9, .inl fW)), (aA, .inr (2, [.long fd, .int ct, .ref aK, .ref aG, .ref aO]))]) [0, 2, 3] (by decide) rfl
  have hFc := va_free (wc := [(a0, .inr (0, [.ref aM, .ref aR, .ref aW, .ref aF, .ref aS, .ref aKR])), (aW, .inl (cI, 9, .inl fW)), (aA, .inr (2, [.long fd, .int ct, .ref aK, .ref aG, .ref aO]))]) hD hS hA [0, 2, 3] rfl
  refine va_calll (va_runV (As := [.ref aA]) (rest := []) ⟨hx, hb, hml, hown, hts⟩ (k_bo l dC dI H.size cI cZ cQ a0 aM aR aW aF aS aKR fW aA aK aG aO fd ct ) ⟨(callB_of 1 hts (ga_all tw_287) rfl rfl rfl (hts _ tw_22) (hts _ tw_284) (by decide +kernel) ⟨Nat.le_of_ble_eq_true rfl, Nat.le_of_ble_eq_true rfl⟩), hts _ tw_286, hts _ tw_2⟩ ⟨fun a U g mk q => by obtain ⟨q0, q1, qP, qK, qD⟩ := q; exact ⟨q0, q1, qP, g_K.same (u := U) (U := U.calling g mk a) rfl qK, qD⟩, va_recv hK hPc (ci := 0) (q0 := 0) rfl rfl, fun U hU hW => ⟨rfl, by rw [hU], by rw [hU]; exact hPc, g_K.warm hW hKN, hDc.weaken (fun _ _ _ _ => trivial)⟩⟩ rfl rfl hl.1 rfl (lv_room (Nat.le_of_ble_eq_true rfl)) d_SettingSearch_bound_20 ⟨Nat.le_of_ble_eq_true rfl, Nat.le_of_ble_eq_true rfl⟩) hS (fun q _ h => hFc q h) hFc (fun r_1 u t H1 locs htt hvm hw_2 hBB hzz hkk hS => ?_)
  have hw_2 : r_1 = fd * (q_mx fW 9).toInt64 := hw_2
  obtain ⟨hPP, hDD⟩ := hBB
  rw [htt] at hPP
  have hPP : va_P (dC, dI) vw_cls [(a0, .inr (0, [.ref aM, .ref aR, .ref aW, .ref aF, .ref aS, .ref aKR])), (aW, .inl (cI, 9, .inl fW)), (aA, .inr (2, [.long fd, .int ct, .ref aK, .ref aG, .ref aO]))] H1 := hPP
  have hDD : va_D (va_A [(a0, .inr (0, [.ref aM, .ref aR, .ref aW, .ref aF, .ref aS, .ref aKR])), (aW, .inl (cI, 9, .inl fW)), (aA, .inr (2, [.long fd, .int ct, .ref aK, .ref aG, .ref aO]))] H.size) [(a0, .inr (0, [.ref aM, .ref aR, .ref aW, .ref aF, .ref aS, .ref aKR])), (aW, .inl (cI, 9, .inl fW)), (aA, .inr (2, [.long fd, .int ct, .ref aK, .ref aG, .ref aO]))] := hDD
  obtain ⟨hP, hD⟩ := va_join (wr := [(aS, .inr (6, [.ref aA, .int go, .int ak, .int be, .long bw, .int pt, .int ln, .ref aSo]))]) (w1 := [(a0, .inr (0, [.ref aM, .ref aR, .ref aW, .ref aF, .ref aS, .ref aKR])), (aW, .inl (cI, 9, .inl fW)), (aA, .inr (2, [.long fd, .int ct, .ref aK, .ref aG, .ref aO]))]) hP hD [0, 2, 3] [1] rfl rfl (by decide) (by decide) hkk hFc hPP hDD
  generalize H1 = H at hP hS ⊢
  have hP : va_P (dC, dI) vw_cls [(aS, .inr (6, [.ref aA, .int go, .int ak, .int be, .long bw, .int pt, .int ln, .ref aSo])), (a0, .inr (0, [.ref aM, .ref aR, .ref aW, .ref aF, .ref aS, .ref aKR])), (aW, .inl (cI, 9, .inl fW)), (aA, .inr (2, [.long fd, .int ct, .ref aK, .ref aG, .ref aO]))] H := hP
  have hD : va_D A [(aS, .inr (6, [.ref aA, .int go, .int ak, .int be, .long bw, .int pt, .int ln, .ref aSo])), (a0, .inr (0, [.ref aM, .ref aR, .ref aW, .ref aF, .ref aS, .ref aKR])), (aW, .inl (cI, 9, .inl fW)), (aA, .inr (2, [.long fd, .int ct, .ref aK, .ref aG, .ref aO]))] := hD
  have hP9 := hP.sub (ws' := [(a0, .inr (0, [.ref aM, .ref aR, .ref aW, .ref aF, .ref aS, .ref aKR])), (aS, .inr (6, [.ref aA, .int go, .int ak, .int be, .long bw, .int pt, .int ln, .ref aSo])), (aW, .inl (cI, 9, .inl fW)), (aA, .inr (2, [.long fd, .int ct, .ref aK, .ref aG, .ref aO]))]) [1, 0, 2, 3] rfl
  have hD9 := hD.sub (ws' := [(a0, .inr (0, [.ref aM, .ref aR, .ref aW, .ref aF, .ref aS, .ref aKR])), (aS, .inr (6, [.ref aA, .int go, .int ak, .int be, .long bw, .int pt, .int ln, .ref aSo])), (aW, .inl (cI, 9, .inl fW)), (aA, .inr (2, [.long fd, .int ct, .ref aK, .ref aG, .ref aO]))]) [1, 0, 2, 3] (by decide) rfl
  have hpost_3 : (r_1 : Int64) = fd * (q_mx fW 9).toInt64 := hw_2
  exact W.lret (v := r_1) hx hb hr (fun t ht hW => ⟨⟨r_1, (), rfl, hpost_3, by rw [ht]; exact hP9, hD9⟩, hS.F ht⟩) hS.2.2 d_SettingSearch_bound_23
set_option maxHeartbeats 4000000 in
set_option maxRecDepth 100000 in
/-- proved, nothing searched -/
theorem f_proved_n (l : Launch) (dC : Nat → ClassId) (dI : Nat → Nat → Nat) (sz : Nat) (cI : ClassId) (cZ : ClassId) (cQ : ClassId) (a0 : Nat) (aM : Nat) (aR : Nat) (aW : Nat) (aF : Nat) (aS : Nat) (aKR : Nat) (aSo : Nat) (go : Int32) (ak : Int32) (be : Int32) (bw : Int64) (pt : Int32) (ln : Int32)  : Met l y_SettingSearch_proved w_SettingSearch_proved ({ frames := 0, cells := 0, slots := 0, locals := 0 } : Room) (va_Pc [.ref a0] (fun U => U.heap.size = sz ∧ va_P (dC, dI) vw_cls [(a0, .inr (0, [.ref aM, .ref aR, .ref aW, .ref aF, .ref aS, .ref aKR])), (aS, .inr (6, [.null, .int go, .int ak, .int be, .long bw, .int pt, .int ln, .ref aSo]))] U.heap ∧ g_K dC dI [(cI, .int), (cZ, .boolean), (cQ, (.object "SettingSearch$Answers"))] U ∧ va_D (fun _ => True) [(a0, .inr (0, [.ref aM, .ref aR, .ref aW, .ref aF, .ref aS, .ref aKR])), (aS, .inr (6, [.null, .int go, .int ak, .int be, .long bw, .int pt, .int ln, .ref aSo]))])) (va_Qi (fun (r : Int32) (u : Unit) => r = 0) (fun (u : Unit) (t : State) => va_P (dC, dI) vw_cls [(a0, .inr (0, [.ref aM, .ref aR, .ref aW, .ref aF, .ref aS, .ref aKR])), (aS, .inr (6, [.null, .int go, .int ak, .int be, .long bw, .int pt, .int ln, .ref aSo]))] t.heap ∧ va_D (va_A [(a0, .inr (0, [.ref aM, .ref aR, .ref aW, .ref aF, .ref aS, .ref aKR])), (aS, .inr (6, [.null, .int go, .int ak, .int be, .long bw, .int pt, .int ln, .ref aSo]))] sz) [(a0, .inr (0, [.ref aM, .ref aR, .ref aW, .ref aF, .ref aS, .ref aKR])), (aS, .inr (6, [.null, .int go, .int ak, .int be, .long bw, .int pt, .int ln, .ref aSo]))]) (va_A [(a0, .inr (0, [.ref aM, .ref aR, .ref aW, .ref aF, .ref aS, .ref aKR])), (aS, .inr (6, [.null, .int go, .int ak, .int be, .long bw, .int pt, .int ln, .ref aSo]))] sz)) 0 0 (va_A [(a0, .inr (0, [.ref aM, .ref aR, .ref aW, .ref aF, .ref aS, .ref aKR])), (aS, .inr (6, [.null, .int go, .int ak, .int be, .long bw, .int pt, .int ln, .ref aSo]))] sz) := by
  refine Met.ofW (cc := b_SettingSearch_proved) (maxL := 1) (ret := (some .boolean)) (by decide) rfl ?_
  intro p e s m args below meth c s₁ B hml hv
  obtain ⟨rfl, hsz, hP, hKN, hD0⟩ := hv
  obtain ⟨hK, hN⟩ := id hKN
  have hx := B.exec
  have hb := B.bytes
  have hr := B.returns
  have hts0 := atoms_spec (ws := w_SettingSearch_proved) B.pre
  have hts : ∀ w ∈ lw_g, w.before _ s = true := fun w h => hts0 w (List.mem_cons_of_mem _ h)
  have hown : s.vm.findClass R_SettingSearch = some m.cls := findClass_of_methodNamed B.named
  have hlocks := B.notSynchronized
  subst hsz
  have hD := hD0.self (sz := s.heap.size)
  generalize hAe : va_A [(a0, .inr (0, [.ref aM, .ref aR, .ref aW, .ref aF, .ref aS, .ref aKR])), (aS, .inr (6, [.null, .int go, .int ak, .int be, .long bw, .int pt, .int ln, .ref aSo]))] s.heap.size = A at hD ⊢
  have hA : ∀ q : Nat, s.heap.size ≤ q → A q := fun q h => by rw [← hAe]; exact Or.inr h
  have hP : va_P (dC, dI) vw_cls [(a0, .inr (0, [.ref aM, .ref aR, .ref aW, .ref aF, .ref aS, .ref aKR])), (aS, .inr (6, [.null, .int go, .int ak, .int be, .long bw, .int pt, .int ln, .ref aSo]))] s.heap := hP
  have hl := lv_entry ([.ref a0]) (n := 1) (Nat.le_of_ble_eq_true rfl)
  rw [lg_entry_eq]
  generalize (lg_sl ([.ref a0]) ++ List.replicate (1 - (lg_sl ([.ref a0])).length) Slot.unset).toArray = ls at hl ⊢
  have hl : lv_has ls 1 [(0, .ref a0)] := hl
  refine gw_start (fun H locs hH hlocs => ?_)
  rw [← hH] at hP
  have hS : va_S A s.heap H locs := by rw [hH, hlocs]; exact va_S.rf
  refine lv_aload_n hx hb d_SettingSearch_proved_0 rfl (lv_at hl 0 rfl) ?_
  refine va_get (D := (dC, dI)) (ci := 0) (v := .ref aS) (C := R_SettingSearch) (T := T_SettingSearch) (N := 6) hx hb hts in_SettingSearch hown hK hP 0 rfl rfl 4 (by decide) (hts _ tw_183) (fun _ h9 => h9) rfl d_SettingSearch_proved_1 ?_
  refine va_getN (D := (dC, dI)) (ci := 6) (v := .null) (C := R_Search) (T := T_Search) (N := 8) hx hb hts in_Search hown hK hP 1 rfl rfl 0 (by decide) (g_Nu hN (List.mem_of_getElem? (i := 7) rfl)) (fun _ h9 => h9) rfl d_SettingSearch_proved_4 ?_
  refine lv_ifnullN (tgt := 24) hx hb d_SettingSearch_proved_7 (by decide) ?_
  refine lv_iconst (v := 0) hx hb d_SettingSearch_proved_24 (by decide) ?_
  have hP9 := hP.sub (ws' := [(a0, .inr (0, [.ref aM, .ref aR, .ref aW, .ref aF, .ref aS, .ref aKR])), (aS, .inr (6, [.null, .int go, .int ak, .int be, .long bw, .int pt, .int ln, .ref aSo]))]) [0, 1] rfl
  have hD9 := hD.sub (ws' := [(a0, .inr (0, [.ref aM, .ref aR, .ref aW, .ref aF, .ref aS, .ref aKR])), (aS, .inr (6, [.null, .int go, .int ak, .int be, .long bw, .int pt, .int ln, .ref aSo]))]) [0, 1] (by decide) rfl
  have hpost_1 : (0 : Int32) = 0 := rfl
  exact W.zret (v := 0) hx hb hr (rfl) (fun t ht hW => ⟨⟨0, (), rfl, hpost_1, by rw [ht]; exact hP9, hD9⟩, hS.F ht⟩) hS.2.2 d_SettingSearch_proved_25
set_option maxHeartbeats 4000000 in
set_option maxRecDepth 100000 in
/-- proved -/
theorem f_proved (l : Launch) (dC : Nat → ClassId) (dI : Nat → Nat → Nat) (sz : Nat) (cI : ClassId) (cZ : ClassId) (cQ : ClassId) (a0 : Nat) (aM : Nat) (aR : Nat) (aW : Nat) (aF : Nat) (aS : Nat) (aKR : Nat) (aSo : Nat) (go : Int32) (ak : Int32) (be : Int32) (bw : Int64) (pt : Int32) (ln : Int32) (aA : Nat)  : Met l y_SettingSearch_proved w_SettingSearch_proved ({ frames := 0, cells := 0, slots := 0, locals := 0 } : Room) (va_Pc [.ref a0] (fun U => U.heap.size = sz ∧ va_P (dC, dI) vw_cls [(a0, .inr (0, [.ref aM, .ref aR, .ref aW, .ref aF, .ref aS, .ref aKR])), (aS, .inr (6, [.ref aA, .int go, .int ak, .int be, .long bw, .int pt, .int ln, .ref aSo]))] U.heap ∧ g_K dC dI [(cI, .int), (cZ, .boolean), (cQ, (.object "SettingSearch$Answers"))] U ∧ va_D (fun _ => True) [(a0, .inr (0, [.ref aM, .ref aR, .ref aW, .ref aF, .ref aS, .ref aKR])), (aS, .inr (6, [.ref aA, .int go, .int ak, .int be, .long bw, .int pt, .int ln, .ref aSo]))])) (va_Qi (fun (r : Int32) (u : Unit) => r = if go = 0 then 1 else 0) (fun (u : Unit) (t : State) => va_P (dC, dI) vw_cls [(a0, .inr (0, [.ref aM, .ref aR, .ref aW, .ref aF, .ref aS, .ref aKR])), (aS, .inr (6, [.ref aA, .int go, .int ak, .int be, .long bw, .int pt, .int ln, .ref aSo]))] t.heap ∧ va_D (va_A [(a0, .inr (0, [.ref aM, .ref aR, .ref aW, .ref aF, .ref aS, .ref aKR])), (aS, .inr (6, [.ref aA, .int go, .int ak, .int be, .long bw, .int pt, .int ln, .ref aSo]))] sz) [(a0, .inr (0, [.ref aM, .ref aR, .ref aW, .ref aF, .ref aS, .ref aKR])), (aS, .inr (6, [.ref aA, .int go, .int ak, .int be, .long bw, .int pt, .int ln, .ref aSo]))]) (va_A [(a0, .inr (0, [.ref aM, .ref aR, .ref aW, .ref aF, .ref aS, .ref aKR])), (aS, .inr (6, [.ref aA, .int go, .int ak, .int be, .long bw, .int pt, .int ln, .ref aSo]))] sz)) 0 0 (va_A [(a0, .inr (0, [.ref aM, .ref aR, .ref aW, .ref aF, .ref aS, .ref aKR])), (aS, .inr (6, [.ref aA, .int go, .int ak, .int be, .long bw, .int pt, .int ln, .ref aSo]))] sz) := by
  refine Met.ofW (cc := b_SettingSearch_proved) (maxL := 1) (ret := (some .boolean)) (by decide) rfl ?_
  intro p e s m args below meth c s₁ B hml hv
  obtain ⟨rfl, hsz, hP, hKN, hD0⟩ := hv
  obtain ⟨hK, hN⟩ := id hKN
  have hx := B.exec
  have hb := B.bytes
  have hr := B.returns
  have hts0 := atoms_spec (ws := w_SettingSearch_proved) B.pre
  have hts : ∀ w ∈ lw_g, w.before _ s = true := fun w h => hts0 w (List.mem_cons_of_mem _ h)
  have hown : s.vm.findClass R_SettingSearch = some m.cls := findClass_of_methodNamed B.named
  have hlocks := B.notSynchronized
  subst hsz
  have hD := hD0.self (sz := s.heap.size)
  generalize hAe : va_A [(a0, .inr (0, [.ref aM, .ref aR, .ref aW, .ref aF, .ref aS, .ref aKR])), (aS, .inr (6, [.ref aA, .int go, .int ak, .int be, .long bw, .int pt, .int ln, .ref aSo]))] s.heap.size = A at hD ⊢
  have hA : ∀ q : Nat, s.heap.size ≤ q → A q := fun q h => by rw [← hAe]; exact Or.inr h
  have hP : va_P (dC, dI) vw_cls [(a0, .inr (0, [.ref aM, .ref aR, .ref aW, .ref aF, .ref aS, .ref aKR])), (aS, .inr (6, [.ref aA, .int go, .int ak, .int be, .long bw, .int pt, .int ln, .ref aSo]))] s.heap := hP
  have hl := lv_entry ([.ref a0]) (n := 1) (Nat.le_of_ble_eq_true rfl)
  rw [lg_entry_eq]
  generalize (lg_sl ([.ref a0]) ++ List.replicate (1 - (lg_sl ([.ref a0])).length) Slot.unset).toArray = ls at hl ⊢
  have hl : lv_has ls 1 [(0, .ref a0)] := hl
  refine gw_start (fun H locs hH hlocs => ?_)
  rw [← hH] at hP
  have hS : va_S A s.heap H locs := by rw [hH, hlocs]; exact va_S.rf
  refine lv_aload_n hx hb d_SettingSearch_proved_0 rfl (lv_at hl 0 rfl) ?_
  refine va_get (D := (dC, dI)) (ci := 0) (v := .ref aS) (C := R_SettingSearch) (T := T_SettingSearch) (N := 6) hx hb hts in_SettingSearch hown hK hP 0 rfl rfl 4 (by decide) (hts _ tw_183) (fun _ h9 => h9) rfl d_SettingSearch_proved_1 ?_
  refine va_getN (D := (dC, dI)) (ci := 6) (v := .ref aA) (C := R_Search) (T := T_Search) (N := 8) hx hb hts in_Search hown hK hP 1 rfl rfl 0 (by decide) (g_Nu hN (List.mem_of_getElem? (i := 7) rfl)) (fun _ h9 => h9) rfl d_SettingSearch_proved_4 ?_
  refine lv_ifnull hx hb d_SettingSearch_proved_7 ?_
  refine lv_aload_n hx hb d_SettingSearch_proved_10 rfl (lv_at hl 0 rfl) ?_
  refine va_get (D := (dC, dI)) (ci := 0) (v := .ref aS) (C := R_SettingSearch) (T := T_SettingSearch) (N := 6) hx hb hts in_SettingSearch hown hK hP 0 rfl rfl 4 (by decide) (hts _ tw_183) (fun _ h9 => h9) rfl d_SettingSearch_proved_11 ?_
  refine va_getN (D := (dC, dI)) (ci := 6) (v := .int go) (C := R_Search) (T := T_Search) (N := 8) hx hb hts in_Search hown hK hP 1 rfl rfl 1 (by decide) (g_Nu hN (List.mem_of_getElem? (i := 8) rfl)) (fun _ h9 => h9) rfl d_SettingSearch_proved_14 ?_
  refine lv_if_ne (tgt := 24) hx hb d_SettingSearch_proved_17 (by decide) (fun c_1 => ?_) (fun c_1 => ?_)
  · skip
    have cg : ¬ go = 0 := c_1
    refine lv_iconst (v := 0) hx hb d_SettingSearch_proved_24 (by decide) ?_
    have hP9 := hP.sub (ws' := [(a0, .inr (0, [.ref aM, .ref aR, .ref aW, .ref aF, .ref aS, .ref aKR])), (aS, .inr (6, [.ref aA, .int go, .int ak, .int be, .long bw, .int pt, .int ln, .ref aSo]))]) [0, 1] rfl
    have hD9 := hD.sub (ws' := [(a0, .inr (0, [.ref aM, .ref aR, .ref aW, .ref aF, .ref aS, .ref aKR])), (aS, .inr (6, [.ref aA, .int go, .int ak, .int be, .long bw, .int pt, .int ln, .ref aSo]))]) [0, 1] (by decide) rfl
    have hpost_2 : (0 : Int32) = if go = 0 then 1 else 0 := by first | (rw [if_pos cg]; done) | (rw [if_neg cg]; done)
    exact W.zret (v := 0) hx hb hr (rfl) (fun t ht hW => ⟨⟨0, (), rfl, hpost_2, by rw [ht]; exact hP9, hD9⟩, hS.F ht⟩) hS.2.2 d_SettingSearch_proved_25
  · skip
    have cg : go = 0 := c_1
    refine lv_iconst (v := 1) hx hb d_SettingSearch_proved_20 (by decide) ?_
    refine lv_goto (tgt := 25) hx hb d_SettingSearch_proved_21 (by decide) ?_
    have hP9 := hP.sub (ws' := [(a0, .inr (0, [.ref aM, .ref aR, .ref aW, .ref aF, .ref aS, .ref aKR])), (aS, .inr (6, [.ref aA, .int go, .int ak, .int be, .long bw, .int pt, .int ln, .ref aSo]))]) [0, 1] rfl
    have hD9 := hD.sub (ws' := [(a0, .inr (0, [.ref aM, .ref aR, .ref aW, .ref aF, .ref aS, .ref aKR])), (aS, .inr (6, [.ref aA, .int go, .int ak, .int be, .long bw, .int pt, .int ln, .ref aSo]))]) [0, 1] (by decide) rfl
    have hpost_3 : (1 : Int32) = if go = 0 then 1 else 0 := by first | (rw [if_pos cg]; done) | (rw [if_neg cg]; done)
    exact W.zret (v := 1) hx hb hr (rfl) (fun t ht hW => ⟨⟨1, (), rfl, hpost_3, by rw [ht]; exact hP9, hD9⟩, hS.F ht⟩) hS.2.2 d_SettingSearch_proved_25
set_option maxHeartbeats 4000000 in
set_option maxRecDepth 100000 in
/-- changes -/
theorem f_changes (l : Launch) (dC : Nat → ClassId) (dI : Nat → Nat → Nat) (sz : Nat) (cI : ClassId) (cZ : ClassId) (cQ : ClassId) (a0 : Nat) (aM : Nat) (aR : Nat) (aW : Nat) (aF : Nat) (aS : Nat) (aKR : Nat) (aSo : Nat) (sv : Value) (go : Int32) (ak : Int32) (be : Int32) (bw : Int64) (pt : Int32) (ln : Int32) (aMS : Nat) (aMC : Nat) (aMT : Nat) (cnt : Int32) (vec : Int32) (fC : Nat → Int32) (fT : Nat → Int32) (nc : Nat) (nv : Nat) (hcnt : cnt = nI nc) (hvec : vec = nI nv) (hnc : nc ≤ 5) (hnv : nv ≤ 64) : Met l y_SettingSearch_changes w_SettingSearch_changes ({ frames := 3, cells := 0, slots := 0, locals := 66 } : Room) (va_Pc [.ref a0] (fun U => U.heap.size = sz ∧ va_P (dC, dI) vw_cls [(a0, .inr (0, [.ref aM, .ref aR, .ref aW, .ref aF, .ref aS, .ref aKR])), (aS, .inr (6, [sv, .int go, .int ak, .int be, .long bw, .int pt, .int ln, .ref aSo])), (aM, .inr (4, [.int cnt, .int vec, .ref aMS, .ref aMC, .ref aMT])), (aMC, .inl (cI, 5, .inl fC)), (aMT, .inl (cI, 320, .inl fT))] U.heap ∧ g_K dC dI [(cI, .int), (cZ, .boolean), (cQ, (.object "SettingSearch$Answers"))] U ∧ va_D (fun _ => True) [(a0, .inr (0, [.ref aM, .ref aR, .ref aW, .ref aF, .ref aS, .ref aKR])), (aS, .inr (6, [sv, .int go, .int ak, .int be, .long bw, .int pt, .int ln, .ref aSo])), (aM, .inr (4, [.int cnt, .int vec, .ref aMS, .ref aMC, .ref aMT])), (aMC, .inl (cI, 5, .inl fC)), (aMT, .inl (cI, 320, .inl fT))])) (va_Qi (fun (r : Int32) (u : Unit) => r = if be = -1 then -1 else q_chg cnt vec fT fC be nc) (fun (u : Unit) (t : State) => va_P (dC, dI) vw_cls [(a0, .inr (0, [.ref aM, .ref aR, .ref aW, .ref aF, .ref aS, .ref aKR])), (aS, .inr (6, [sv, .int go, .int ak, .int be, .long bw, .int pt, .int ln, .ref aSo])), (aM, .inr (4, [.int cnt, .int vec, .ref aMS, .ref aMC, .ref aMT])), (aMC, .inl (cI, 5, .inl fC)), (aMT, .inl (cI, 320, .inl fT))] t.heap ∧ va_D (va_A [(a0, .inr (0, [.ref aM, .ref aR, .ref aW, .ref aF, .ref aS, .ref aKR])), (aS, .inr (6, [sv, .int go, .int ak, .int be, .long bw, .int pt, .int ln, .ref aSo])), (aM, .inr (4, [.int cnt, .int vec, .ref aMS, .ref aMC, .ref aMT])), (aMC, .inl (cI, 5, .inl fC)), (aMT, .inl (cI, 320, .inl fT))] sz) [(a0, .inr (0, [.ref aM, .ref aR, .ref aW, .ref aF, .ref aS, .ref aKR])), (aS, .inr (6, [sv, .int go, .int ak, .int be, .long bw, .int pt, .int ln, .ref aSo])), (aM, .inr (4, [.int cnt, .int vec, .ref aMS, .ref aMC, .ref aMT])), (aMC, .inl (cI, 5, .inl fC)), (aMT, .inl (cI, 320, .inl fT))]) (va_A [(a0, .inr (0, [.ref aM, .ref aR, .ref aW, .ref aF, .ref aS, .ref aKR])), (aS, .inr (6, [sv, .int go, .int ak, .int be, .long bw, .int pt, .int ln, .ref aSo])), (aM, .inr (4, [.int cnt, .int vec, .ref aMS, .ref aMC, .ref aMT])), (aMC, .inl (cI, 5, .inl fC)), (aMT, .inl (cI, 320, .inl fT))] sz)) 0 0 (va_A [(a0, .inr (0, [.ref aM, .ref aR, .ref aW, .ref aF, .ref aS, .ref aKR])), (aS, .inr (6, [sv, .int go, .int ak, .int be, .long bw, .int pt, .int ln, .ref aSo])), (aM, .inr (4, [.int cnt, .int vec, .ref aMS, .ref aMC, .ref aMT])), (aMC, .inl (cI, 5, .inl fC)), (aMT, .inl (cI, 320, .inl fT))] sz) := by
  refine Met.ofW (cc := b_SettingSearch_changes) (maxL := 1) (ret := (some .int)) (by decide) rfl ?_
  intro p e s m args below meth c s₁ B hml hv
  obtain ⟨rfl, hsz, hP, hKN, hD0⟩ := hv
  obtain ⟨hK, hN⟩ := id hKN
  have hx := B.exec
  have hb := B.bytes
  have hr := B.returns
  have hts0 := atoms_spec (ws := w_SettingSearch_changes) B.pre
  have hts : ∀ w ∈ lw_g, w.before _ s = true := fun w h => hts0 w (List.mem_cons_of_mem _ h)
  have hown : s.vm.findClass R_SettingSearch = some m.cls := findClass_of_methodNamed B.named
  have hlocks := B.notSynchronized
  subst hsz
  have hD := hD0.self (sz := s.heap.size)
  generalize hAe : va_A [(a0, .inr (0, [.ref aM, .ref aR, .ref aW, .ref aF, .ref aS, .ref aKR])), (aS, .inr (6, [sv, .int go, .int ak, .int be, .long bw, .int pt, .int ln, .ref aSo])), (aM, .inr (4, [.int cnt, .int vec, .ref aMS, .ref aMC, .ref aMT])), (aMC, .inl (cI, 5, .inl fC)), (aMT, .inl (cI, 320, .inl fT))] s.heap.size = A at hD ⊢
  have hA : ∀ q : Nat, s.heap.size ≤ q → A q := fun q h => by rw [← hAe]; exact Or.inr h
  have hP : va_P (dC, dI) vw_cls [(a0, .inr (0, [.ref aM, .ref aR, .ref aW, .ref aF, .ref aS, .ref aKR])), (aS, .inr (6, [sv, .int go, .int ak, .int be, .long bw, .int pt, .int ln, .ref aSo])), (aM, .inr (4, [.int cnt, .int vec, .ref aMS, .ref aMC, .ref aMT])), (aMC, .inl (cI, 5, .inl fC)), (aMT, .inl (cI, 320, .inl fT))] s.heap := hP
  have hl := lv_entry ([.ref a0]) (n := 1) (Nat.le_of_ble_eq_true rfl)
  rw [lg_entry_eq]
  generalize (lg_sl ([.ref a0]) ++ List.replicate (1 - (lg_sl ([.ref a0])).length) Slot.unset).toArray = ls at hl ⊢
  have hl : lv_has ls 1 [(0, .ref a0)] := hl
  refine gw_start (fun H locs hH hlocs => ?_)
  rw [← hH] at hP
  have hS : va_S A s.heap H locs := by rw [hH, hlocs]; exact va_S.rf
  refine lv_aload_n hx hb d_SettingSearch_changes_0 rfl (lv_at hl 0 rfl) ?_
  refine va_get (D := (dC, dI)) (ci := 0) (v := .ref aS) (C := R_SettingSearch) (T := T_SettingSearch) (N := 6) hx hb hts in_SettingSearch hown hK hP 0 rfl rfl 4 (by decide) (hts _ tw_183) (fun _ h9 => h9) rfl d_SettingSearch_changes_1 ?_
  refine va_getN (D := (dC, dI)) (ci := 6) (v := .int be) (C := R_Search) (T := T_Search) (N := 8) hx hb hts in_Search hown hK hP 1 rfl rfl 3 (by decide) (g_Nu hN (List.mem_of_getElem? (i := 10) rfl)) (fun _ h9 => h9) rfl d_SettingSearch_changes_4 ?_
  refine lv_iconst (v := (-1)) hx hb d_SettingSearch_changes_7 (by decide) ?_
  refine lv_icmp_ne (tgt := 15) hx hb d_SettingSearch_changes_8 (by decide) (fun c_1 => ?_) (fun c_1 => ?_)
  · skip
    have cb : ¬ be = -1 := c_1
    refine lv_aload_n hx hb d_SettingSearch_changes_15 rfl (lv_at hl 0 rfl) ?_
    refine va_get (D := (dC, dI)) (ci := 0) (v := .ref aM) (C := R_SettingSearch) (T := T_SettingSearch) (N := 6) hx hb hts in_SettingSearch hown hK hP 0 rfl rfl 0 (by decide) (hts _ tw_179) (fun _ h9 => h9) rfl d_SettingSearch_changes_16 ?_
    refine lv_aload_n hx hb d_SettingSearch_changes_19 rfl (lv_at hl 0 rfl) ?_
    refine va_get (D := (dC, dI)) (ci := 0) (v := .ref aS) (C := R_SettingSearch) (T := T_SettingSearch) (N := 6) hx hb hts in_SettingSearch hown hK hP 0 rfl rfl 4 (by decide) (hts _ tw_183) (fun _ h9 => h9) rfl d_SettingSearch_changes_20 ?_
    refine va_getN (D := (dC, dI)) (ci := 6) (v := .int be) (C := R_Search) (T := T_Search) (N := 8) hx hb hts in_Search hown hK hP 1 rfl rfl 3 (by decide) (g_Nu hN (List.mem_of_getElem? (i := 10) rfl)) (fun _ h9 => h9) rfl d_SettingSearch_changes_23 ?_
    have hPc := hP.sub (ws' := [(aM, .inr (4, [.int cnt, .int vec, .ref aMS, .ref aMC, .ref aMT])), (aMC, .inl (cI, 5, .inl fC)), (aMT, .inl (cI, 320, .inl fT))]) [2, 3, 4] rfl
    have hDc := hD.sub (ws' := [(aM, .inr (4, [.int cnt, .int vec, .ref aMS, .ref aMC, .ref aMT])), (aMC, .inl (cI, 5, .inl fC)), (aMT, .inl (cI, 320, .inl fT))]) [2, 3, 4] (by decide) rfl
    have hFc := va_free (wc := [(aM, .inr (4, [.int cnt, .int vec, .ref aMS, .ref aMC, .ref aMT])), (aMC, .inl (cI, 5, .inl fC)), (aMT, .inl (cI, 320, .inl fT))]) hD hS hA [2, 3, 4] rfl
    refine va_calli (va_runV (As := [.int be]) (rest := []) ⟨hx, hb, hml, hown, hts⟩ (k_chg l dC dI H.size cI cZ cQ aM aMS aMC aMT cnt vec fC fT be nc nv hcnt hvec hnc hnv) ⟨(callB_of 1 hts (ga_all tw_263) rfl rfl rfl (hts _ tw_23) (hts _ tw_372) (by decide +kernel) ⟨Nat.le_of_ble_eq_true rfl, Nat.le_of_ble_eq_true rfl⟩), hts _ tw_261, hts _ tw_262⟩ ⟨fun a U g mk q => by obtain ⟨q0, q1, qP, qK, qD⟩ := q; exact ⟨q0, q1, qP, g_K.same (u := U) (U := U.calling g mk a) rfl qK, qD⟩, va_recv hK hPc (ci := 4) (q0 := 0) rfl rfl, fun U hU hW => ⟨rfl, by rw [hU], by rw [hU]; exact hPc, g_K.warm hW hKN, hDc.weaken (fun _ _ _ _ => trivial)⟩⟩ rfl rfl hl.1 rfl (lv_room (Nat.le_of_ble_eq_true rfl)) d_SettingSearch_changes_26 ⟨Nat.le_of_ble_eq_true rfl, Nat.le_of_ble_eq_true rfl⟩) hS (fun q _ h => hFc q h) hFc (fun r_2 u t H1 locs htt hvm hw_3 hBB hzz hkk hS => ?_)
    have hw_3 : r_2 = q_chg cnt vec fT fC be nc := hw_3
    obtain ⟨hPP, hDD⟩ := hBB
    rw [htt] at hPP
    have hPP : va_P (dC, dI) vw_cls [(aM, .inr (4, [.int cnt, .int vec, .ref aMS, .ref aMC, .ref aMT])), (aMC, .inl (cI, 5, .inl fC)), (aMT, .inl (cI, 320, .inl fT))] H1 := hPP
    have hDD : va_D (va_A [(aM, .inr (4, [.int cnt, .int vec, .ref aMS, .ref aMC, .ref aMT])), (aMC, .inl (cI, 5, .inl fC)), (aMT, .inl (cI, 320, .inl fT))] H.size) [(aM, .inr (4, [.int cnt, .int vec, .ref aMS, .ref aMC, .ref aMT])), (aMC, .inl (cI, 5, .inl fC)), (aMT, .inl (cI, 320, .inl fT))] := hDD
    obtain ⟨hP, hD⟩ := va_join (wr := [(a0, .inr (0, [.ref aM, .ref aR, .ref aW, .ref aF, .ref aS, .ref aKR])), (aS, .inr (6, [sv, .int go, .int ak, .int be, .long bw, .int pt, .int ln, .ref aSo]))]) (w1 := [(aM, .inr (4, [.int cnt, .int vec, .ref aMS, .ref aMC, .ref aMT])), (aMC, .inl (cI, 5, .inl fC)), (aMT, .inl (cI, 320, .inl fT))]) hP hD [2, 3, 4] [0, 1] rfl rfl (by decide) (by decide) hkk hFc hPP hDD
    generalize H1 = H at hP hS ⊢
    have hP : va_P (dC, dI) vw_cls [(a0, .inr (0, [.ref aM, .ref aR, .ref aW, .ref aF, .ref aS, .ref aKR])), (aS, .inr (6, [sv, .int go, .int ak, .int be, .long bw, .int pt, .int ln, .ref aSo])), (aM, .inr (4, [.int cnt, .int vec, .ref aMS, .ref aMC, .ref aMT])), (aMC, .inl (cI, 5, .inl fC)), (aMT, .inl (cI, 320, .inl fT))] H := hP
    have hD : va_D A [(a0, .inr (0, [.ref aM, .ref aR, .ref aW, .ref aF, .ref aS, .ref aKR])), (aS, .inr (6, [sv, .int go, .int ak, .int be, .long bw, .int pt, .int ln, .ref aSo])), (aM, .inr (4, [.int cnt, .int vec, .ref aMS, .ref aMC, .ref aMT])), (aMC, .inl (cI, 5, .inl fC)), (aMT, .inl (cI, 320, .inl fT))] := hD
    have hP9 := hP.sub (ws' := [(a0, .inr (0, [.ref aM, .ref aR, .ref aW, .ref aF, .ref aS, .ref aKR])), (aS, .inr (6, [sv, .int go, .int ak, .int be, .long bw, .int pt, .int ln, .ref aSo])), (aM, .inr (4, [.int cnt, .int vec, .ref aMS, .ref aMC, .ref aMT])), (aMC, .inl (cI, 5, .inl fC)), (aMT, .inl (cI, 320, .inl fT))]) [0, 1, 2, 3, 4] rfl
    have hD9 := hD.sub (ws' := [(a0, .inr (0, [.ref aM, .ref aR, .ref aW, .ref aF, .ref aS, .ref aKR])), (aS, .inr (6, [sv, .int go, .int ak, .int be, .long bw, .int pt, .int ln, .ref aSo])), (aM, .inr (4, [.int cnt, .int vec, .ref aMS, .ref aMC, .ref aMT])), (aMC, .inl (cI, 5, .inl fC)), (aMT, .inl (cI, 320, .inl fT))]) [0, 1, 2, 3, 4] (by decide) rfl
    have hpost_4 : (r_2 : Int32) = if be = -1 then -1 else q_chg cnt vec fT fC be nc := by rw [if_neg cb]; exact hw_3
    exact W.iret (v := r_2) hx hb hr (fun t ht hW => ⟨⟨r_2, (), rfl, hpost_4, by rw [ht]; exact hP9, hD9⟩, hS.F ht⟩) hS.2.2 d_SettingSearch_changes_29
  · skip
    have cb : be = -1 := c_1
    refine lv_iconst (v := (-1)) hx hb d_SettingSearch_changes_11 (by decide) ?_
    refine lv_goto (tgt := 29) hx hb d_SettingSearch_changes_12 (by decide) ?_
    have hP9 := hP.sub (ws' := [(a0, .inr (0, [.ref aM, .ref aR, .ref aW, .ref aF, .ref aS, .ref aKR])), (aS, .inr (6, [sv, .int go, .int ak, .int be, .long bw, .int pt, .int ln, .ref aSo])), (aM, .inr (4, [.int cnt, .int vec, .ref aMS, .ref aMC, .ref aMT])), (aMC, .inl (cI, 5, .inl fC)), (aMT, .inl (cI, 320, .inl fT))]) [0, 1, 2, 3, 4] rfl
    have hD9 := hD.sub (ws' := [(a0, .inr (0, [.ref aM, .ref aR, .ref aW, .ref aF, .ref aS, .ref aKR])), (aS, .inr (6, [sv, .int go, .int ak, .int be, .long bw, .int pt, .int ln, .ref aSo])), (aM, .inr (4, [.int cnt, .int vec, .ref aMS, .ref aMC, .ref aMT])), (aMC, .inl (cI, 5, .inl fC)), (aMT, .inl (cI, 320, .inl fT))]) [0, 1, 2, 3, 4] (by decide) rfl
    have hpost_5 : ((-1) : Int32) = if be = -1 then -1 else q_chg cnt vec fT fC be nc := by rw [if_pos cb]
    exact W.iret (v := (-1)) hx hb hr (fun t ht hW => ⟨⟨(-1), (), rfl, hpost_5, by rw [ht]; exact hP9, hD9⟩, hS.F ht⟩) hS.2.2 d_SettingSearch_changes_29
set_option maxHeartbeats 4000000 in
set_option maxRecDepth 100000 in
/-- take -/
theorem f_take (l : Launch) (dC : Nat → ClassId) (dI : Nat → Nat → Nat) (sz : Nat) (cI : ClassId) (cZ : ClassId) (cQ : ClassId) (a0 : Nat) (aM : Nat) (aR : Nat) (aW : Nat) (aF : Nat) (aS : Nat) (aKR : Nat) (aSo : Nat) (sv : Value) (go : Int32) (ak : Int32) (be : Int32) (bw : Int64) (pt : Int32) (ln : Int32) (aMS : Nat) (aMC : Nat) (aMT : Nat) (cnt : Int32) (vec : Int32) (fC : Nat → Int32) (fT : Nat → Int32) (nc : Nat) (nv : Nat) (hcnt : cnt = nI nc) (hvec : vec = nI nv) (hnc : nc ≤ 5) (hnv : nv ≤ 64) : Met l y_SettingSearch_take w_SettingSearch_take ({ frames := 3, cells := 0, slots := 0, locals := 66 } : Room) (va_Pc [.ref a0] (fun U => U.heap.size = sz ∧ va_P (dC, dI) vw_cls [(a0, .inr (0, [.ref aM, .ref aR, .ref aW, .ref aF, .ref aS, .ref aKR])), (aS, .inr (6, [sv, .int go, .int ak, .int be, .long bw, .int pt, .int ln, .ref aSo])), (aM, .inr (4, [.int cnt, .int vec, .ref aMS, .ref aMC, .ref aMT])), (aMC, .inl (cI, 5, .inl fC)), (aMT, .inl (cI, 320, .inl fT))] U.heap ∧ g_K dC dI [(cI, .int), (cZ, .boolean), (cQ, (.object "SettingSearch$Answers"))] U ∧ va_D (fun _ => True) [(a0, .inr (0, [.ref aM, .ref aR, .ref aW, .ref aF, .ref aS, .ref aKR])), (aS, .inr (6, [sv, .int go, .int ak, .int be, .long bw, .int pt, .int ln, .ref aSo])), (aM, .inr (4, [.int cnt, .int vec, .ref aMS, .ref aMC, .ref aMT])), (aMC, .inl (cI, 5, .inl fC)), (aMT, .inl (cI, 320, .inl fT))])) (va_Qi (fun (r : Int32) (u : (Nat → Int32)) => (go = 0 ∧ ¬ be = -1 ∧ r = q_chg cnt vec fT fC be nc ∧ u = q_bec cnt vec fT fC be nc) ∨ ((¬ go = 0 ∨ be = -1) ∧ r = -1 ∧ u = fC)) (fun (u : (Nat → Int32)) (t : State) => va_P (dC, dI) vw_cls [(a0, .inr (0, [.ref aM, .ref aR, .ref aW, .ref aF, .ref aS, .ref aKR])), (aS, .inr (6, [sv, .int go, .int ak, .int be, .long bw, .int pt, .int ln, .ref aSo])), (aM, .inr (4, [.int cnt, .int vec, .ref aMS, .ref aMC, .ref aMT])), (aMC, .inl (cI, 5, .inl u)), (aMT, .inl (cI, 320, .inl fT))] t.heap ∧ va_D (va_A [(a0, .inr (0, [.ref aM, .ref aR, .ref aW, .ref aF, .ref aS, .ref aKR])), (aS, .inr (6, [sv, .int go, .int ak, .int be, .long bw, .int pt, .int ln, .ref aSo])), (aM, .inr (4, [.int cnt, .int vec, .ref aMS, .ref aMC, .ref aMT])), (aMC, .inl (cI, 5, .inl fC)), (aMT, .inl (cI, 320, .inl fT))] sz) [(a0, .inr (0, [.ref aM, .ref aR, .ref aW, .ref aF, .ref aS, .ref aKR])), (aS, .inr (6, [sv, .int go, .int ak, .int be, .long bw, .int pt, .int ln, .ref aSo])), (aM, .inr (4, [.int cnt, .int vec, .ref aMS, .ref aMC, .ref aMT])), (aMC, .inl (cI, 5, .inl u)), (aMT, .inl (cI, 320, .inl fT))]) (va_A [(a0, .inr (0, [.ref aM, .ref aR, .ref aW, .ref aF, .ref aS, .ref aKR])), (aS, .inr (6, [sv, .int go, .int ak, .int be, .long bw, .int pt, .int ln, .ref aSo])), (aM, .inr (4, [.int cnt, .int vec, .ref aMS, .ref aMC, .ref aMT])), (aMC, .inl (cI, 5, .inl fC)), (aMT, .inl (cI, 320, .inl fT))] sz)) 0 0 (va_A [(a0, .inr (0, [.ref aM, .ref aR, .ref aW, .ref aF, .ref aS, .ref aKR])), (aS, .inr (6, [sv, .int go, .int ak, .int be, .long bw, .int pt, .int ln, .ref aSo])), (aM, .inr (4, [.int cnt, .int vec, .ref aMS, .ref aMC, .ref aMT])), (aMC, .inl (cI, 5, .inl fC)), (aMT, .inl (cI, 320, .inl fT))] sz) := by
  refine Met.ofW (cc := b_SettingSearch_take) (maxL := 2) (ret := (some .int)) (by decide) rfl ?_
  intro p e s m args below meth c s₁ B hml hv
  obtain ⟨rfl, hsz, hP, hKN, hD0⟩ := hv
  obtain ⟨hK, hN⟩ := id hKN
  have hx := B.exec
  have hb := B.bytes
  have hr := B.returns
  have hts0 := atoms_spec (ws := w_SettingSearch_take) B.pre
  have hts : ∀ w ∈ lw_g, w.before _ s = true := fun w h => hts0 w (List.mem_cons_of_mem _ h)
  have hown : s.vm.findClass R_SettingSearch = some m.cls := findClass_of_methodNamed B.named
  have hlocks := B.notSynchronized
  subst hsz
  have hD := hD0.self (sz := s.heap.size)
  generalize hAe : va_A [(a0, .inr (0, [.ref aM, .ref aR, .ref aW, .ref aF, .ref aS, .ref aKR])), (aS, .inr (6, [sv, .int go, .int ak, .int be, .long bw, .int pt, .int ln, .ref aSo])), (aM, .inr (4, [.int cnt, .int vec, .ref aMS, .ref aMC, .ref aMT])), (aMC, .inl (cI, 5, .inl fC)), (aMT, .inl (cI, 320, .inl fT))] s.heap.size = A at hD ⊢
  have hA : ∀ q : Nat, s.heap.size ≤ q → A q := fun q h => by rw [← hAe]; exact Or.inr h
  have hP : va_P (dC, dI) vw_cls [(a0, .inr (0, [.ref aM, .ref aR, .ref aW, .ref aF, .ref aS, .ref aKR])), (aS, .inr (6, [sv, .int go, .int ak, .int be, .long bw, .int pt, .int ln, .ref aSo])), (aM, .inr (4, [.int cnt, .int vec, .ref aMS, .ref aMC, .ref aMT])), (aMC, .inl (cI, 5, .inl fC)), (aMT, .inl (cI, 320, .inl fT))] s.heap := hP
  have hl := lv_entry ([.ref a0]) (n := 2) (Nat.le_of_ble_eq_true rfl)
  rw [lg_entry_eq]
  generalize (lg_sl ([.ref a0]) ++ List.replicate (2 - (lg_sl ([.ref a0])).length) Slot.unset).toArray = ls at hl ⊢
  have hl : lv_has ls 2 [(0, .ref a0)] := hl
  refine gw_start (fun H locs hH hlocs => ?_)
  rw [← hH] at hP
  have hS : va_S A s.heap H locs := by rw [hH, hlocs]; exact va_S.rf
  refine lv_aload_n hx hb d_SettingSearch_take_0 rfl (lv_at hl 0 rfl) ?_
  refine va_get (D := (dC, dI)) (ci := 0) (v := .ref aS) (C := R_SettingSearch) (T := T_SettingSearch) (N := 6) hx hb hts in_SettingSearch hown hK hP 0 rfl rfl 4 (by decide) (hts _ tw_183) (fun _ h9 => h9) rfl d_SettingSearch_take_1 ?_
  refine va_getN (D := (dC, dI)) (ci := 6) (v := .int go) (C := R_Search) (T := T_Search) (N := 8) hx hb hts in_Search hown hK hP 1 rfl rfl 1 (by decide) (g_Nu hN (List.mem_of_getElem? (i := 8) rfl)) (fun _ h9 => h9) rfl d_SettingSearch_take_4 ?_
  refine lv_if_ne (tgt := 21) hx hb d_SettingSearch_take_7 (by decide) (fun c_1 => ?_) (fun c_1 => ?_)
  · skip
    have cg : ¬ go = 0 := c_1
    refine lv_iconst (v := (-1)) hx hb d_SettingSearch_take_21 (by decide) ?_
    have hP9 := hP.sub (ws' := [(a0, .inr (0, [.ref aM, .ref aR, .ref aW, .ref aF, .ref aS, .ref aKR])), (aS, .inr (6, [sv, .int go, .int ak, .int be, .long bw, .int pt, .int ln, .ref aSo])), (aM, .inr (4, [.int cnt, .int vec, .ref aMS, .ref aMC, .ref aMT])), (aMC, .inl (cI, 5, .inl fC)), (aMT, .inl (cI, 320, .inl fT))]) [0, 1, 2, 3, 4] rfl
    have hD9 := hD.sub (ws' := [(a0, .inr (0, [.ref aM, .ref aR, .ref aW, .ref aF, .ref aS, .ref aKR])), (aS, .inr (6, [sv, .int go, .int ak, .int be, .long bw, .int pt, .int ln, .ref aSo])), (aM, .inr (4, [.int cnt, .int vec, .ref aMS, .ref aMC, .ref aMT])), (aMC, .inl (cI, 5, .inl fC)), (aMT, .inl (cI, 320, .inl fT))]) [0, 1, 2, 3, 4] (by decide) rfl
    have hpost_2 : (go = 0 ∧ ¬ be = -1 ∧ ((-1) : Int32) = q_chg cnt vec fT fC be nc ∧ fC = q_bec cnt vec fT fC be nc) ∨ ((¬ go = 0 ∨ be = -1) ∧ ((-1) : Int32) = -1 ∧ fC = fC) := Or.inr ⟨by first | exact Or.inl cg | exact Or.inr cb, rfl, rfl⟩
    exact W.iret (v := (-1)) hx hb hr (fun t ht hW => ⟨⟨(-1), fC, rfl, hpost_2, by rw [ht]; exact hP9, hD9⟩, hS.F ht⟩) hS.2.2 d_SettingSearch_take_22
  · skip
    have cg : go = 0 := c_1
    refine lv_aload_n hx hb d_SettingSearch_take_10 rfl (lv_at hl 0 rfl) ?_
    refine va_get (D := (dC, dI)) (ci := 0) (v := .ref aS) (C := R_SettingSearch) (T := T_SettingSearch) (N := 6) hx hb hts in_SettingSearch hown hK hP 0 rfl rfl 4 (by decide) (hts _ tw_183) (fun _ h9 => h9) rfl d_SettingSearch_take_11 ?_
    refine va_getN (D := (dC, dI)) (ci := 6) (v := .int be) (C := R_Search) (T := T_Search) (N := 8) hx hb hts in_Search hown hK hP 1 rfl rfl 3 (by decide) (g_Nu hN (List.mem_of_getElem? (i := 10) rfl)) (fun _ h9 => h9) rfl d_SettingSearch_take_14 ?_
    refine lv_iconst (v := (-1)) hx hb d_SettingSearch_take_17 (by decide) ?_
    refine lv_icmp_ne (tgt := 23) hx hb d_SettingSearch_take_18 (by decide) (fun c_3 => ?_) (fun c_3 => ?_)
    · skip
      have cb : ¬ be = -1 := c_3
      refine lv_aload_n hx hb d_SettingSearch_take_23 rfl (lv_at hl 0 rfl) ?_
      refine va_get (D := (dC, dI)) (ci := 0) (v := .ref aM) (C := R_SettingSearch) (T := T_SettingSearch) (N := 6) hx hb hts in_SettingSearch hown hK hP 0 rfl rfl 0 (by decide) (hts _ tw_179) (fun _ h9 => h9) rfl d_SettingSearch_take_24 ?_
      refine lv_aload_n hx hb d_SettingSearch_take_27 rfl (lv_at hl 0 rfl) ?_
      refine va_get (D := (dC, dI)) (ci := 0) (v := .ref aS) (C := R_SettingSearch) (T := T_SettingSearch) (N := 6) hx hb hts in_SettingSearch hown hK hP 0 rfl rfl 4 (by decide) (hts _ tw_183) (fun _ h9 => h9) rfl d_SettingSearch_take_28 ?_
      refine va_getN (D := (dC, dI)) (ci := 6) (v := .int be) (C := R_Search) (T := T_Search) (N := 8) hx hb hts in_Search hown hK hP 1 rfl rfl 3 (by decide) (g_Nu hN (List.mem_of_getElem? (i := 10) rfl)) (fun _ h9 => h9) rfl d_SettingSearch_take_31 ?_
      have hPc := hP.sub (ws' := [(aM, .inr (4, [.int cnt, .int vec, .ref aMS, .ref aMC, .ref aMT])), (aMC, .inl (cI, 5, .inl fC)), (aMT, .inl (cI, 320, .inl fT))]) [2, 3, 4] rfl
      have hDc := hD.sub (ws' := [(aM, .inr (4, [.int cnt, .int vec, .ref aMS, .ref aMC, .ref aMT])), (aMC, .inl (cI, 5, .inl fC)), (aMT, .inl (cI, 320, .inl fT))]) [2, 3, 4] (by decide) rfl
      have hFc := va_free (wc := [(aM, .inr (4, [.int cnt, .int vec, .ref aMS, .ref aMC, .ref aMT])), (aMC, .inl (cI, 5, .inl fC)), (aMT, .inl (cI, 320, .inl fT))]) hD hS hA [2, 3, 4] rfl
      refine va_calli (va_runV (As := [.int be]) (rest := []) ⟨hx, hb, hml, hown, hts⟩ (k_chg l dC dI H.size cI cZ cQ aM aMS aMC aMT cnt vec fC fT be nc nv hcnt hvec hnc hnv) ⟨(callB_of 1 hts (ga_all tw_263) rfl rfl rfl (hts _ tw_23) (hts _ tw_372) (by decide +kernel) ⟨Nat.le_of_ble_eq_true rfl, Nat.le_of_ble_eq_true rfl⟩), hts _ tw_261, hts _ tw_262⟩ ⟨fun a U g mk q => by obtain ⟨q0, q1, qP, qK, qD⟩ := q; exact ⟨q0, q1, qP, g_K.same (u := U) (U := U.calling g mk a) rfl qK, qD⟩, va_recv hK hPc (ci := 4) (q0 := 0) rfl rfl, fun U hU hW => ⟨rfl, by rw [hU], by rw [hU]; exact hPc, g_K.warm hW hKN, hDc.weaken (fun _ _ _ _ => trivial)⟩⟩ rfl rfl hl.1 rfl (lv_room (Nat.le_of_ble_eq_true rfl)) d_SettingSearch_take_34 ⟨Nat.le_of_ble_eq_true rfl, Nat.le_of_ble_eq_true rfl⟩) hS (fun q _ h => hFc q h) hFc (fun r_4 u t H1 locs htt hvm hw_5 hBB hzz hkk hS => ?_)
      have hw_5 : r_4 = q_chg cnt vec fT fC be nc := hw_5
      obtain ⟨hPP, hDD⟩ := hBB
      rw [htt] at hPP
      have hPP : va_P (dC, dI) vw_cls [(aM, .inr (4, [.int cnt, .int vec, .ref aMS, .ref aMC, .ref aMT])), (aMC, .inl (cI, 5, .inl fC)), (aMT, .inl (cI, 320, .inl fT))] H1 := hPP
      have hDD : va_D (va_A [(aM, .inr (4, [.int cnt, .int vec, .ref aMS, .ref aMC, .ref aMT])), (aMC, .inl (cI, 5, .inl fC)), (aMT, .inl (cI, 320, .inl fT))] H.size) [(aM, .inr (4, [.int cnt, .int vec, .ref aMS, .ref aMC, .ref aMT])), (aMC, .inl (cI, 5, .inl fC)), (aMT, .inl (cI, 320, .inl fT))] := hDD
      obtain ⟨hP, hD⟩ := va_join (wr := [(a0, .inr (0, [.ref aM, .ref aR, .ref aW, .ref aF, .ref aS, .ref aKR])), (aS, .inr (6, [sv, .int go, .int ak, .int be, .long bw, .int pt, .int ln, .ref aSo]))]) (w1 := [(aM, .inr (4, [.int cnt, .int vec, .ref aMS, .ref aMC, .ref aMT])), (aMC, .inl (cI, 5, .inl fC)), (aMT, .inl (cI, 320, .inl fT))]) hP hD [2, 3, 4] [0, 1] rfl rfl (by decide) (by decide) hkk hFc hPP hDD
      generalize H1 = H at hP hS ⊢
      have hP : va_P (dC, dI) vw_cls [(a0, .inr (0, [.ref aM, .ref aR, .ref aW, .ref aF, .ref aS, .ref aKR])), (aS, .inr (6, [sv, .int go, .int ak, .int be, .long bw, .int pt, .int ln, .ref aSo])), (aM, .inr (4, [.int cnt, .int vec, .ref aMS, .ref aMC, .ref aMT])), (aMC, .inl (cI, 5, .inl fC)), (aMT, .inl (cI, 320, .inl fT))] H := hP
      have hD : va_D A [(a0, .inr (0, [.ref aM, .ref aR, .ref aW, .ref aF, .ref aS, .ref aKR])), (aS, .inr (6, [sv, .int go, .int ak, .int be, .long bw, .int pt, .int ln, .ref aSo])), (aM, .inr (4, [.int cnt, .int vec, .ref aMS, .ref aMC, .ref aMT])), (aMC, .inl (cI, 5, .inl fC)), (aMT, .inl (cI, 320, .inl fT))] := hD
      refine lv_istore_n (lv' := [(1, .int r_4), (0, .ref a0)]) hx hb d_SettingSearch_take_37 rfl hl (by decide) rfl (fun ls hl => ?_)
      refine lv_aload_n hx hb d_SettingSearch_take_38 rfl (lv_at hl 1 rfl) ?_
      refine va_get (D := (dC, dI)) (ci := 0) (v := .ref aM) (C := R_SettingSearch) (T := T_SettingSearch) (N := 6) hx hb hts in_SettingSearch hown hK hP 0 rfl rfl 0 (by decide) (hts _ tw_179) (fun _ h9 => h9) rfl d_SettingSearch_take_39 ?_
      refine lv_aload_n hx hb d_SettingSearch_take_42 rfl (lv_at hl 1 rfl) ?_
      refine va_get (D := (dC, dI)) (ci := 0) (v := .ref aS) (C := R_SettingSearch) (T := T_SettingSearch) (N := 6) hx hb hts in_SettingSearch hown hK hP 0 rfl rfl 4 (by decide) (hts _ tw_183) (fun _ h9 => h9) rfl d_SettingSearch_take_43 ?_
      refine va_getN (D := (dC, dI)) (ci := 6) (v := .int be) (C := R_Search) (T := T_Search) (N := 8) hx hb hts in_Search hown hK hP 1 rfl rfl 3 (by decide) (g_Nu hN (List.mem_of_getElem? (i := 10) rfl)) (fun _ h9 => h9) rfl d_SettingSearch_take_46 ?_
      have hPc := hP.sub (ws' := [(aM, .inr (4, [.int cnt, .int vec, .ref aMS, .ref aMC, .ref aMT])), (aMC, .inl (cI, 5, .inl fC)), (aMT, .inl (cI, 320, .inl fT))]) [2, 3, 4] rfl
      have hDc := hD.sub (ws' := [(aM, .inr (4, [.int cnt, .int vec, .ref aMS, .ref aMC, .ref aMT])), (aMC, .inl (cI, 5, .inl fC)), (aMT, .inl (cI, 320, .inl fT))]) [2, 3, 4] (by decide) rfl
      have hFc := va_free (wc := [(aM, .inr (4, [.int cnt, .int vec, .ref aMS, .ref aMC, .ref aMT])), (aMC, .inl (cI, 5, .inl fC)), (aMT, .inl (cI, 320, .inl fT))]) hD hS hA [2, 3, 4] rfl
      refine va_callv (va_runV (As := [.int be]) (rest := []) ⟨hx, hb, hml, hown, hts⟩ (k_bec l dC dI H.size cI cZ cQ aM aMS aMC aMT cnt vec fC fT be nc nv hcnt hvec hnc hnv) ⟨(callB_of 1 hts (ga_all tw_380) rfl rfl rfl (hts _ tw_23) (hts _ tw_377) (by decide +kernel) ⟨Nat.le_of_ble_eq_true rfl, Nat.le_of_ble_eq_true rfl⟩), hts _ tw_378, hts _ tw_379⟩ ⟨fun a U g mk q => by obtain ⟨q0, q1, qP, qK, qD⟩ := q; exact ⟨q0, q1, qP, g_K.same (u := U) (U := U.calling g mk a) rfl qK, qD⟩, va_recv hK hPc (ci := 4) (q0 := 0) rfl rfl, fun U hU hW => ⟨rfl, by rw [hU], by rw [hU]; exact hPc, g_K.warm hW hKN, hDc.weaken (fun _ _ _ _ => trivial)⟩⟩ rfl rfl hl.1 rfl (lv_room (Nat.le_of_ble_eq_true rfl)) d_SettingSearch_take_49 ⟨Nat.le_of_ble_eq_true rfl, Nat.le_of_ble_eq_true rfl⟩) hS (fun q _ h => hFc q h) hFc (fun u t H1 locs htt hvm hw_7 hBB hzz hkk hS => ?_)
      obtain ⟨fC2_8, rfl⟩ : ∃ z, z = u := ⟨_, rfl⟩
      have hw_7 : fC2_8 = q_bec cnt vec fT fC be nc := hw_7
      obtain ⟨hPP, hDD⟩ := hBB
      rw [htt] at hPP
      have hPP : va_P (dC, dI) vw_cls [(aM, .inr (4, [.int cnt, .int vec, .ref aMS, .ref aMC, .ref aMT])), (aMC, .inl (cI, 5, .inl fC2_8)), (aMT, .inl (cI, 320, .inl fT))] H1 := hPP
      have hDD : va_D (va_A [(aM, .inr (4, [.int cnt, .int vec, .ref aMS, .ref aMC, .ref aMT])), (aMC, .inl (cI, 5, .inl fC)), (aMT, .inl (cI, 320, .inl fT))] H.size) [(aM, .inr (4, [.int cnt, .int vec, .ref aMS, .ref aMC, .ref aMT])), (aMC, .inl (cI, 5, .inl fC2_8)), (aMT, .inl (cI, 320, .inl fT))] := hDD
      obtain ⟨hP, hD⟩ := va_join (wr := [(a0, .inr (0, [.ref aM, .ref aR, .ref aW, .ref aF, .ref aS, .ref aKR])), (aS, .inr (6, [sv, .int go, .int ak, .int be, .long bw, .int pt, .int ln, .ref aSo]))]) (w1 := [(aM, .inr (4, [.int cnt, .int vec, .ref aMS, .ref aMC, .ref aMT])), (aMC, .inl (cI, 5, .inl fC2_8)), (aMT, .inl (cI, 320, .inl fT))]) hP hD [2, 3, 4] [0, 1] rfl rfl (by decide) (by decide) hkk hFc hPP hDD
      generalize H1 = H at hP hS ⊢
      have hP : va_P (dC, dI) vw_cls [(a0, .inr (0, [.ref aM, .ref aR, .ref aW, .ref aF, .ref aS, .ref aKR])), (aS, .inr (6, [sv, .int go, .int ak, .int be, .long bw, .int pt, .int ln, .ref aSo])), (aM, .inr (4, [.int cnt, .int vec, .ref aMS, .ref aMC, .ref aMT])), (aMC, .inl (cI, 5, .inl fC2_8)), (aMT, .inl (cI, 320, .inl fT))] H := hP
      have hD : va_D A [(a0, .inr (0, [.ref aM, .ref aR, .ref aW, .ref aF, .ref aS, .ref aKR])), (aS, .inr (6, [sv, .int go, .int ak, .int be, .long bw, .int pt, .int ln, .ref aSo])), (aM, .inr (4, [.int cnt, .int vec, .ref aMS, .ref aMC, .ref aMT])), (aMC, .inl (cI, 5, .inl fC2_8)), (aMT, .inl (cI, 320, .inl fT))] := hD
      refine lv_iload_n hx hb d_SettingSearch_take_52 rfl (lv_at hl 0 rfl) ?_
      have hP9 := hP.sub (ws' := [(a0, .inr (0, [.ref aM, .ref aR, .ref aW, .ref aF, .ref aS, .ref aKR])), (aS, .inr (6, [sv, .int go, .int ak, .int be, .long bw, .int pt, .int ln, .ref aSo])), (aM, .inr (4, [.int cnt, .int vec, .ref aMS, .ref aMC, .ref aMT])), (aMC, .inl (cI, 5, .inl fC2_8)), (aMT, .inl (cI, 320, .inl fT))]) [0, 1, 2, 3, 4] rfl
      have hD9 := hD.sub (ws' := [(a0, .inr (0, [.ref aM, .ref aR, .ref aW, .ref aF, .ref aS, .ref aKR])), (aS, .inr (6, [sv, .int go, .int ak, .int be, .long bw, .int pt, .int ln, .ref aSo])), (aM, .inr (4, [.int cnt, .int vec, .ref aMS, .ref aMC, .ref aMT])), (aMC, .inl (cI, 5, .inl fC2_8)), (aMT, .inl (cI, 320, .inl fT))]) [0, 1, 2, 3, 4] (by decide) rfl
      have hpost_9 : (go = 0 ∧ ¬ be = -1 ∧ (r_4 : Int32) = q_chg cnt vec fT fC be nc ∧ fC2_8 = q_bec cnt vec fT fC be nc) ∨ ((¬ go = 0 ∨ be = -1) ∧ (r_4 : Int32) = -1 ∧ fC2_8 = fC) := Or.inl ⟨cg, cb, hw_5, hw_7⟩
      exact W.iret (v := r_4) hx hb hr (fun t ht hW => ⟨⟨r_4, fC2_8, rfl, hpost_9, by rw [ht]; exact hP9, hD9⟩, hS.F ht⟩) hS.2.2 d_SettingSearch_take_53
    · skip
      have cb : be = -1 := c_3
      refine lv_iconst (v := (-1)) hx hb d_SettingSearch_take_21 (by decide) ?_
      have hP9 := hP.sub (ws' := [(a0, .inr (0, [.ref aM, .ref aR, .ref aW, .ref aF, .ref aS, .ref aKR])), (aS, .inr (6, [sv, .int go, .int ak, .int be, .long bw, .int pt, .int ln, .ref aSo])), (aM, .inr (4, [.int cnt, .int vec, .ref aMS, .ref aMC, .ref aMT])), (aMC, .inl (cI, 5, .inl fC)), (aMT, .inl (cI, 320, .inl fT))]) [0, 1, 2, 3, 4] rfl
      have hD9 := hD.sub (ws' := [(a0, .inr (0, [.ref aM, .ref aR, .ref aW, .ref aF, .ref aS, .ref aKR])), (aS, .inr (6, [sv, .int go, .int ak, .int be, .long bw, .int pt, .int ln, .ref aSo])), (aM, .inr (4, [.int cnt, .int vec, .ref aMS, .ref aMC, .ref aMT])), (aMC, .inl (cI, 5, .inl fC)), (aMT, .inl (cI, 320, .inl fT))]) [0, 1, 2, 3, 4] (by decide) rfl
      have hpost_10 : (go = 0 ∧ ¬ be = -1 ∧ ((-1) : Int32) = q_chg cnt vec fT fC be nc ∧ fC = q_bec cnt vec fT fC be nc) ∨ ((¬ go = 0 ∨ be = -1) ∧ ((-1) : Int32) = -1 ∧ fC = fC) := Or.inr ⟨by first | exact Or.inl cg | exact Or.inr cb, rfl, rfl⟩
      exact W.iret (v := (-1)) hx hb hr (fun t ht hW => ⟨⟨(-1), fC, rfl, hpost_10, by rw [ht]; exact hP9, hD9⟩, hS.F ht⟩) hS.2.2 d_SettingSearch_take_22
set_option maxHeartbeats 4000000 in
set_option maxRecDepth 100000 in
/-- kept -/
theorem f_kept (l : Launch) (dC : Nat → ClassId) (dI : Nat → Nat → Nat) (sz : Nat) (cI : ClassId) (cZ : ClassId) (cQ : ClassId) (a0 : Nat) (aM : Nat) (aR : Nat) (aW : Nat) (aF : Nat) (aS : Nat) (aKR : Nat) (aFr : Nat) (us : Int32) (aA0 : Nat) (aK0 : Nat) (aG0 : Nat) (aO0 : Nat) (fd0 : Int64) (ct0 : Int32) (aA1 : Nat) (aK1 : Nat) (aG1 : Nat) (aO1 : Nat) (fd1 : Int64) (ct1 : Int32) (aA2 : Nat) (aK2 : Nat) (aG2 : Nat) (aO2 : Nat) (fd2 : Int64) (ct2 : Int32) (aA3 : Nat) (aK3 : Nat) (aG3 : Nat) (aO3 : Nat) (fd3 : Int64) (ct3 : Int32) (fRw : Nat → Option Nat) (g1 : Int64) (hRw : fRw 0 = some aA0 ∧ fRw 1 = some aA1 ∧ fRw 2 = some aA2 ∧ fRw 3 = some aA3) (hus4 : us ≤ 4) : Met l y_SettingSearch_kept w_SettingSearch_kept ({ frames := 1, cells := 0, slots := 0, locals := 23 } : Room) (va_Pc [.ref a0, .long g1] (fun U => U.heap.size = sz ∧ va_P (dC, dI) vw_cls [(a0, .inr (0, [.ref aM, .ref aR, .ref aW, .ref aF, .ref aS, .ref aKR])), (aF, .inr (3, [.int us, .ref aFr])), (aFr, .inl (cQ, 4, .inr (.inr (.inr (.inr fRw))))), (aA0, .inr (2, [.long fd0, .int ct0, .ref aK0, .ref aG0, .ref aO0])), (aA1, .inr (2, [.long fd1, .int ct1, .ref aK1, .ref aG1, .ref aO1])), (aA2, .inr (2, [.long fd2, .int ct2, .ref aK2, .ref aG2, .ref aO2])), (aA3, .inr (2, [.long fd3, .int ct3, .ref aK3, .ref aG3, .ref aO3]))] U.heap ∧ g_K dC dI [(cI, .int), (cZ, .boolean), (cQ, (.object "SettingSearch$Answers"))] U ∧ va_D (fun _ => True) [(a0, .inr (0, [.ref aM, .ref aR, .ref aW, .ref aF, .ref aS, .ref aKR])), (aF, .inr (3, [.int us, .ref aFr])), (aFr, .inl (cQ, 4, .inr (.inr (.inr (.inr fRw))))), (aA0, .inr (2, [.long fd0, .int ct0, .ref aK0, .ref aG0, .ref aO0])), (aA1, .inr (2, [.long fd1, .int ct1, .ref aK1, .ref aG1, .ref aO1])), (aA2, .inr (2, [.long fd2, .int ct2, .ref aK2, .ref aG2, .ref aO2])), (aA3, .inr (2, [.long fd3, .int ct3, .ref aK3, .ref aG3, .ref aO3]))])) (va_Qi (fun (r : Int32) (u : Unit) => r = match q_find us fd0 fd1 fd2 fd3 g1 with | none => 0 | some j => q_4 ct0 ct1 ct2 ct3 j) (fun (u : Unit) (t : State) => va_P (dC, dI) vw_cls [(a0, .inr (0, [.ref aM, .ref aR, .ref aW, .ref aF, .ref aS, .ref aKR])), (aF, .inr (3, [.int us, .ref aFr])), (aFr, .inl (cQ, 4, .inr (.inr (.inr (.inr fRw))))), (aA0, .inr (2, [.long fd0, .int ct0, .ref aK0, .ref aG0, .ref aO0])), (aA1, .inr (2, [.long fd1, .int ct1, .ref aK1, .ref aG1, .ref aO1])), (aA2, .inr (2, [.long fd2, .int ct2, .ref aK2, .ref aG2, .ref aO2])), (aA3, .inr (2, [.long fd3, .int ct3, .ref aK3, .ref aG3, .ref aO3]))] t.heap ∧ va_D (va_A [(a0, .inr (0, [.ref aM, .ref aR, .ref aW, .ref aF, .ref aS, .ref aKR])), (aF, .inr (3, [.int us, .ref aFr])), (aFr, .inl (cQ, 4, .inr (.inr (.inr (.inr fRw))))), (aA0, .inr (2, [.long fd0, .int ct0, .ref aK0, .ref aG0, .ref aO0])), (aA1, .inr (2, [.long fd1, .int ct1, .ref aK1, .ref aG1, .ref aO1])), (aA2, .inr (2, [.long fd2, .int ct2, .ref aK2, .ref aG2, .ref aO2])), (aA3, .inr (2, [.long fd3, .int ct3, .ref aK3, .ref aG3, .ref aO3]))] sz) [(a0, .inr (0, [.ref aM, .ref aR, .ref aW, .ref aF, .ref aS, .ref aKR])), (aF, .inr (3, [.int us, .ref aFr])), (aFr, .inl (cQ, 4, .inr (.inr (.inr (.inr fRw))))), (aA0, .inr (2, [.long fd0, .int ct0, .ref aK0, .ref aG0, .ref aO0])), (aA1, .inr (2, [.long fd1, .int ct1, .ref aK1, .ref aG1, .ref aO1])), (aA2, .inr (2, [.long fd2, .int ct2, .ref aK2, .ref aG2, .ref aO2])), (aA3, .inr (2, [.long fd3, .int ct3, .ref aK3, .ref aG3, .ref aO3]))]) (va_A [(a0, .inr (0, [.ref aM, .ref aR, .ref aW, .ref aF, .ref aS, .ref aKR])), (aF, .inr (3, [.int us, .ref aFr])), (aFr, .inl (cQ, 4, .inr (.inr (.inr (.inr fRw))))), (aA0, .inr (2, [.long fd0, .int ct0, .ref aK0, .ref aG0, .ref aO0])), (aA1, .inr (2, [.long fd1, .int ct1, .ref aK1, .ref aG1, .ref aO1])), (aA2, .inr (2, [.long fd2, .int ct2, .ref aK2, .ref aG2, .ref aO2])), (aA3, .inr (2, [.long fd3, .int ct3, .ref aK3, .ref aG3, .ref aO3]))] sz)) 0 0 (va_A [(a0, .inr (0, [.ref aM, .ref aR, .ref aW, .ref aF, .ref aS, .ref aKR])), (aF, .inr (3, [.int us, .ref aFr])), (aFr, .inl (cQ, 4, .inr (.inr (.inr (.inr fRw))))), (aA0, .inr (2, [.long fd0, .int ct0, .ref aK0, .ref aG0, .ref aO0])), (aA1, .inr (2, [.long fd1, .int ct1, .ref aK1, .ref aG1, .ref aO1])), (aA2, .inr (2, [.long fd2, .int ct2, .ref aK2, .ref aG2, .ref aO2])), (aA3, .inr (2, [.long fd3, .int ct3, .ref aK3, .ref aG3, .ref aO3]))] sz) := by
  refine Met.ofW (cc := b_SettingSearch_kept) (maxL := 4) (ret := (some .int)) (by decide) rfl ?_
  intro p e s m args below meth c s₁ B hml hv
  obtain ⟨rfl, hsz, hP, hKN, hD0⟩ := hv
  obtain ⟨hK, hN⟩ := id hKN
  have hx := B.exec
  have hb := B.bytes
  have hr := B.returns
  have hts0 := atoms_spec (ws := w_SettingSearch_kept) B.pre
  have hts : ∀ w ∈ lw_g, w.before _ s = true := fun w h => hts0 w (List.mem_cons_of_mem _ h)
  have hown : s.vm.findClass R_SettingSearch = some m.cls := findClass_of_methodNamed B.named
  have hlocks := B.notSynchronized
  subst hsz
  have hD := hD0.self (sz := s.heap.size)
  generalize hAe : va_A [(a0, .inr (0, [.ref aM, .ref aR, .ref aW, .ref aF, .ref aS, .ref aKR])), (aF, .inr (3, [.int us, .ref aFr])), (aFr, .inl (cQ, 4, .inr (.inr (.inr (.inr fRw))))), (aA0, .inr (2, [.long fd0, .int ct0, .ref aK0, .ref aG0, .ref aO0])), (aA1, .inr (2, [.long fd1, .int ct1, .ref aK1, .ref aG1, .ref aO1])), (aA2, .inr (2, [.long fd2, .int ct2, .ref aK2, .ref aG2, .ref aO2])), (aA3, .inr (2, [.long fd3, .int ct3, .ref aK3, .ref aG3, .ref aO3]))] s.heap.size = A at hD ⊢
  have hA : ∀ q : Nat, s.heap.size ≤ q → A q := fun q h => by rw [← hAe]; exact Or.inr h
  have hP : va_P (dC, dI) vw_cls [(a0, .inr (0, [.ref aM, .ref aR, .ref aW, .ref aF, .ref aS, .ref aKR])), (aF, .inr (3, [.int us, .ref aFr])), (aFr, .inl (cQ, 4, .inr (.inr (.inr (.inr fRw))))), (aA0, .inr (2, [.long fd0, .int ct0, .ref aK0, .ref aG0, .ref aO0])), (aA1, .inr (2, [.long fd1, .int ct1, .ref aK1, .ref aG1, .ref aO1])), (aA2, .inr (2, [.long fd2, .int ct2, .ref aK2, .ref aG2, .ref aO2])), (aA3, .inr (2, [.long fd3, .int ct3, .ref aK3, .ref aG3, .ref aO3]))] s.heap := hP
  have hl := lv_entry ([.ref a0, .long g1]) (n := 4) (Nat.le_of_ble_eq_true rfl)
  rw [lg_entry_eq]
  generalize (lg_sl ([.ref a0, .long g1]) ++ List.replicate (4 - (lg_sl ([.ref a0, .long g1])).length) Slot.unset).toArray = ls at hl ⊢
  have hl : lv_has ls 4 [(0, .ref a0), (1, .long g1)] := hl
  refine gw_start (fun H locs hH hlocs => ?_)
  rw [← hH] at hP
  have hS : va_S A s.heap H locs := by rw [hH, hlocs]; exact va_S.rf
  refine lv_aload_n hx hb d_SettingSearch_kept_0 rfl (lv_at hl 0 rfl) ?_
  refine va_get (D := (dC, dI)) (ci := 0) (v := .ref aF) (C := R_SettingSearch) (T := T_SettingSearch) (N := 6) hx hb hts in_SettingSearch hown hK hP 0 rfl rfl 3 (by decide) (hts _ tw_182) (fun _ h9 => h9) rfl d_SettingSearch_kept_1 ?_
  refine lv_lload_n hx hb d_SettingSearch_kept_4 rfl (lv_at hl 1 rfl) ?_
  have hPc := hP.sub (ws' := [(aF, .inr (3, [.int us, .ref aFr])), (aFr, .inl (cQ, 4, .inr (.inr (.inr (.inr fRw))))), (aA0, .inr (2, [.long fd0, .int ct0, .ref aK0, .ref aG0, .ref aO0])), (aA1, .inr (2, [.long fd1, .int ct1, .ref aK1, .ref aG1, .ref aO1])), (aA2, .inr (2, [.long fd2, .int ct2, .ref aK2, .ref aG2, .ref aO2])), (aA3, .inr (2, [.long fd3, .int ct3, .ref aK3, .ref aG3, .ref aO3]))]) [1, 2, 3, 4, 5, 6] rfl
  have hDc := hD.sub (ws' := [(aF, .inr (3, [.int us, .ref aFr])), (aFr, .inl (cQ, 4, .inr (.inr (.inr (.inr fRw))))), (aA0, .inr (2, [.long fd0, .int ct0, .ref aK0, .ref aG0, .ref aO0])), (aA1, .inr (2, [.long fd1, .int ct1, .ref aK1, .ref aG1, .ref aO1])), (aA2, .inr (2, [.long fd2, .int ct2, .ref aK2, .ref aG2, .ref aO2])), (aA3, .inr (2, [.long fd3, .int ct3, .ref aK3, .ref aG3, .ref aO3]))]) [1, 2, 3, 4, 5, 6] (by decide) rfl
  have hFc := va_free (wc := [(aF, .inr (3, [.int us, .ref aFr])), (aFr, .inl (cQ, 4, .inr (.inr (.inr (.inr fRw))))), (aA0, .inr (2, [.long fd0, .int ct0, .ref aK0, .ref aG0, .ref aO0])), (aA1, .inr (2, [.long fd1, .int ct1, .ref aK1, .ref aG1, .ref aO1])), (aA2, .inr (2, [.long fd2, .int ct2, .ref aK2, .ref aG2, .ref aO2])), (aA3, .inr (2, [.long fd3, .int ct3, .ref aK3, .ref aG3, .ref aO3]))]) hD hS hA [1, 2, 3, 4, 5, 6] rfl
  refine va_callq (va_runV (As := [.long g1]) (rest := []) ⟨hx, hb, hml, hown, hts⟩ (k_find l dC dI H.size cI cZ cQ aF aFr us aA0 aK0 aG0 aO0 fd0 ct0 aA1 aK1 aG1 aO1 fd1 ct1 aA2 aK2 aG2 aO2 fd2 ct2 aA3 aK3 aG3 aO3 fd3 ct3 fRw g1 hRw hus4) ⟨(callB_of 1 hts (ga_all tw_251) rfl rfl rfl (hts _ tw_26) (hts _ tw_385) (by decide +kernel) ⟨Nat.le_of_ble_eq_true rfl, Nat.le_of_ble_eq_true rfl⟩), hts _ tw_249, hts _ tw_250⟩ ⟨fun a U g mk q => by obtain ⟨q0, q1, qP, qK, qD⟩ := q; exact ⟨q0, q1, qP, g_K.same (u := U) (U := U.calling g mk a) rfl qK, qD⟩, va_recv hK hPc (ci := 3) (q0 := 0) rfl rfl, fun U hU hW => ⟨rfl, by rw [hU], by rw [hU]; exact hPc, g_K.warm hW hKN, hDc.weaken (fun _ _ _ _ => trivial)⟩⟩ rfl rfl hl.1 rfl (lv_room (Nat.le_of_ble_eq_true rfl)) d_SettingSearch_kept_5 ⟨Nat.le_of_ble_eq_true rfl, Nat.le_of_ble_eq_true rfl⟩) hS (fun q _ h => hFc q h) hFc (fun r_1 u t H1 locs htt hvm hw_2 hBB hzz hkk hS => ?_)
  have hw_2 : r_1 = (q_find us fd0 fd1 fd2 fd3 g1).map (q_4 aA0 aA1 aA2 aA3) := hw_2
  obtain ⟨hPP, hDD⟩ := hBB
  rw [htt] at hPP
  have hPP : va_P (dC, dI) vw_cls [(aF, .inr (3, [.int us, .ref aFr])), (aFr, .inl (cQ, 4, .inr (.inr (.inr (.inr fRw))))), (aA0, .inr (2, [.long fd0, .int ct0, .ref aK0, .ref aG0, .ref aO0])), (aA1, .inr (2, [.long fd1, .int ct1, .ref aK1, .ref aG1, .ref aO1])), (aA2, .inr (2, [.long fd2, .int ct2, .ref aK2, .ref aG2, .ref aO2])), (aA3, .inr (2, [.long fd3, .int ct3, .ref aK3, .ref aG3, .ref aO3]))] H1 := hPP
  have hDD : va_D (va_A [(aF, .inr (3, [.int us, .ref aFr])), (aFr, .inl (cQ, 4, .inr (.inr (.inr (.inr fRw))))), (aA0, .inr (2, [.long fd0, .int ct0, .ref aK0, .ref aG0, .ref aO0])), (aA1, .inr (2, [.long fd1, .int ct1, .ref aK1, .ref aG1, .ref aO1])), (aA2, .inr (2, [.long fd2, .int ct2, .ref aK2, .ref aG2, .ref aO2])), (aA3, .inr (2, [.long fd3, .int ct3, .ref aK3, .ref aG3, .ref aO3]))] H.size) [(aF, .inr (3, [.int us, .ref aFr])), (aFr, .inl (cQ, 4, .inr (.inr (.inr (.inr fRw))))), (aA0, .inr (2, [.long fd0, .int ct0, .ref aK0, .ref aG0, .ref aO0])), (aA1, .inr (2, [.long fd1, .int ct1, .ref aK1, .ref aG1, .ref aO1])), (aA2, .inr (2, [.long fd2, .int ct2, .ref aK2, .ref aG2, .ref aO2])), (aA3, .inr (2, [.long fd3, .int ct3, .ref aK3, .ref aG3, .ref aO3]))] := hDD
  obtain ⟨hP, hD⟩ := va_join (wr := [(a0, .inr (0, [.ref aM, .ref aR, .ref aW, .ref aF, .ref aS, .ref aKR]))]) (w1 := [(aF, .inr (3, [.int us, .ref aFr])), (aFr, .inl (cQ, 4, .inr (.inr (.inr (.inr fRw))))), (aA0, .inr (2, [.long fd0, .int ct0, .ref aK0, .ref aG0, .ref aO0])), (aA1, .inr (2, [.long fd1, .int ct1, .ref aK1, .ref aG1, .ref aO1])), (aA2, .inr (2, [.long fd2, .int ct2, .ref aK2, .ref aG2, .ref aO2])), (aA3, .inr (2, [.long fd3, .int ct3, .ref aK3, .ref aG3, .ref aO3]))]) hP hD [1, 2, 3, 4, 5, 6] [0] rfl rfl (by decide) (by decide) hkk hFc hPP hDD
  generalize H1 = H at hP hS ⊢
  have hP : va_P (dC, dI) vw_cls [(a0, .inr (0, [.ref aM, .ref aR, .ref aW, .ref aF, .ref aS, .ref aKR])), (aF, .inr (3, [.int us, .ref aFr])), (aFr, .inl (cQ, 4, .inr (.inr (.inr (.inr fRw))))), (aA0, .inr (2, [.long fd0, .int ct0, .ref aK0, .ref aG0, .ref aO0])), (aA1, .inr (2, [.long fd1, .int ct1, .ref aK1, .ref aG1, .ref aO1])), (aA2, .inr (2, [.long fd2, .int ct2, .ref aK2, .ref aG2, .ref aO2])), (aA3, .inr (2, [.long fd3, .int ct3, .ref aK3, .ref aG3, .ref aO3]))] H := hP
  have hD : va_D A [(a0, .inr (0, [.ref aM, .ref aR, .ref aW, .ref aF, .ref aS, .ref aKR])), (aF, .inr (3, [.int us, .ref aFr])), (aFr, .inl (cQ, 4, .inr (.inr (.inr (.inr fRw))))), (aA0, .inr (2, [.long fd0, .int ct0, .ref aK0, .ref aG0, .ref aO0])), (aA1, .inr (2, [.long fd1, .int ct1, .ref aK1, .ref aG1, .ref aO1])), (aA2, .inr (2, [.long fd2, .int ct2, .ref aK2, .ref aG2, .ref aO2])), (aA3, .inr (2, [.long fd3, .int ct3, .ref aK3, .ref aG3, .ref aO3]))] := hD
  rcases q_find_c us fd0 fd1 fd2 fd3 g1 with hq | hq | hq | hq | hq
  · skip
    obtain rfl : r_1 = none := by rw [hw_2, hq]; rfl
    refine W.eq (g2 := F0 m 8 ls [.null]) rfl ?_
    refine lv_astore_nN (lv' := [(3, .null), (0, .ref a0), (1, .long g1)]) hx hb d_SettingSearch_kept_8 rfl hl (by decide) rfl (fun ls hl => ?_)
    refine lv_aload_nN hx hb d_SettingSearch_kept_9 rfl (lv_at hl 0 rfl) ?_
    refine lv_ifnonnullN hx hb d_SettingSearch_kept_10 ?_
    refine lv_iconst (v := 0) hx hb d_SettingSearch_kept_13 (by decide) ?_
    refine lv_goto (tgt := 21) hx hb d_SettingSearch_kept_14 (by decide) ?_
    have hP9 := hP.sub (ws' := [(a0, .inr (0, [.ref aM, .ref aR, .ref aW, .ref aF, .ref aS, .ref aKR])), (aF, .inr (3, [.int us, .ref aFr])), (aFr, .inl (cQ, 4, .inr (.inr (.inr (.inr fRw))))), (aA0, .inr (2, [.long fd0, .int ct0, .ref aK0, .ref aG0, .ref aO0])), (aA1, .inr (2, [.long fd1, .int ct1, .ref aK1, .ref aG1, .ref aO1])), (aA2, .inr (2, [.long fd2, .int ct2, .ref aK2, .ref aG2, .ref aO2])), (aA3, .inr (2, [.long fd3, .int ct3, .ref aK3, .ref aG3, .ref aO3]))]) [0, 1, 2, 3, 4, 5, 6] rfl
    have hD9 := hD.sub (ws' := [(a0, .inr (0, [.ref aM, .ref aR, .ref aW, .ref aF, .ref aS, .ref aKR])), (aF, .inr (3, [.int us, .ref aFr])), (aFr, .inl (cQ, 4, .inr (.inr (.inr (.inr fRw))))), (aA0, .inr (2, [.long fd0, .int ct0, .ref aK0, .ref aG0, .ref aO0])), (aA1, .inr (2, [.long fd1, .int ct1, .ref aK1, .ref aG1, .ref aO1])), (aA2, .inr (2, [.long fd2, .int ct2, .ref aK2, .ref aG2, .ref aO2])), (aA3, .inr (2, [.long fd3, .int ct3, .ref aK3, .ref aG3, .ref aO3]))]) [0, 1, 2, 3, 4, 5, 6] (by decide) rfl
    have hpost_3 : (0 : Int32) = match q_find us fd0 fd1 fd2 fd3 g1 with | none => 0 | some j => q_4 ct0 ct1 ct2 ct3 j := by first | (rw [hq]; done) | (rw [hq]; rfl)
    exact W.iret (v := 0) hx hb hr (fun t ht hW => ⟨⟨0, (), rfl, hpost_3, by rw [ht]; exact hP9, hD9⟩, hS.F ht⟩) hS.2.2 d_SettingSearch_kept_21
  · skip
    obtain rfl : r_1 = some aA0 := by rw [hw_2, hq]; rfl
    refine W.eq (g2 := F0 m 8 ls [.ref aA0]) rfl ?_
    refine lv_astore_n (lv' := [(3, .ref aA0), (0, .ref a0), (1, .long g1)]) hx hb d_SettingSearch_kept_8 rfl hl (by decide) rfl (fun ls hl => ?_)
    refine lv_aload_n hx hb d_SettingSearch_kept_9 rfl (lv_at hl 0 rfl) ?_
    refine lv_ifnonnull (tgt := 17) hx hb d_SettingSearch_kept_10 (by decide) ?_
    refine lv_aload_n hx hb d_SettingSearch_kept_17 rfl (lv_at hl 0 rfl) ?_
    refine va_getN (D := (dC, dI)) (ci := 2) (v := .int ct0) (C := R_Answers) (T := T_Answers) (N := 5) hx hb hts in_Answers hown hK hP 3 rfl rfl 1 (by decide) (g_Nu hN (List.mem_of_getElem? (i := 6) rfl)) (fun _ h9 => h9) rfl d_SettingSearch_kept_18 ?_
    have hP9 := hP.sub (ws' := [(a0, .inr (0, [.ref aM, .ref aR, .ref aW, .ref aF, .ref aS, .ref aKR])), (aF, .inr (3, [.int us, .ref aFr])), (aFr, .inl (cQ, 4, .inr (.inr (.inr (.inr fRw))))), (aA0, .inr (2, [.long fd0, .int ct0, .ref aK0, .ref aG0, .ref aO0])), (aA1, .inr (2, [.long fd1, .int ct1, .ref aK1, .ref aG1, .ref aO1])), (aA2, .inr (2, [.long fd2, .int ct2, .ref aK2, .ref aG2, .ref aO2])), (aA3, .inr (2, [.long fd3, .int ct3, .ref aK3, .ref aG3, .ref aO3]))]) [0, 1, 2, 3, 4, 5, 6] rfl
    have hD9 := hD.sub (ws' := [(a0, .inr (0, [.ref aM, .ref aR, .ref aW, .ref aF, .ref aS, .ref aKR])), (aF, .inr (3, [.int us, .ref aFr])), (aFr, .inl (cQ, 4, .inr (.inr (.inr (.inr fRw))))), (aA0, .inr (2, [.long fd0, .int ct0, .ref aK0, .ref aG0, .ref aO0])), (aA1, .inr (2, [.long fd1, .int ct1, .ref aK1, .ref aG1, .ref aO1])), (aA2, .inr (2, [.long fd2, .int ct2, .ref aK2, .ref aG2, .ref aO2])), (aA3, .inr (2, [.long fd3, .int ct3, .ref aK3, .ref aG3, .ref aO3]))]) [0, 1, 2, 3, 4, 5, 6] (by decide) rfl
    have hpost_4 : (ct0 : Int32) = match q_find us fd0 fd1 fd2 fd3 g1 with | none => 0 | some j => q_4 ct0 ct1 ct2 ct3 j := by first | (rw [hq]; done) | (rw [hq]; rfl)
    exact W.iret (v := ct0) hx hb hr (fun t ht hW => ⟨⟨ct0, (), rfl, hpost_4, by rw [ht]; exact hP9, hD9⟩, hS.F ht⟩) hS.2.2 d_SettingSearch_kept_21
  · skip
    obtain rfl : r_1 = some aA1 := by rw [hw_2, hq]; rfl
    refine W.eq (g2 := F0 m 8 ls [.ref aA1]) rfl ?_
    refine lv_astore_n (lv' := [(3, .ref aA1), (0, .ref a0), (1, .long g1)]) hx hb d_SettingSearch_kept_8 rfl hl (by decide) rfl (fun ls hl => ?_)
    refine lv_aload_n hx hb d_SettingSearch_kept_9 rfl (lv_at hl 0 rfl) ?_
    refine lv_ifnonnull (tgt := 17) hx hb d_SettingSearch_kept_10 (by decide) ?_
    refine lv_aload_n hx hb d_SettingSearch_kept_17 rfl (lv_at hl 0 rfl) ?_
    refine va_getN (D := (dC, dI)) (ci := 2) (v := .int ct1) (C := R_Answers) (T := T_Answers) (N := 5) hx hb hts in_Answers hown hK hP 4 rfl rfl 1 (by decide) (g_Nu hN (List.mem_of_getElem? (i := 6) rfl)) (fun _ h9 => h9) rfl d_SettingSearch_kept_18 ?_
    have hP9 := hP.sub (ws' := [(a0, .inr (0, [.ref aM, .ref aR, .ref aW, .ref aF, .ref aS, .ref aKR])), (aF, .inr (3, [.int us, .ref aFr])), (aFr, .inl (cQ, 4, .inr (.inr (.inr (.inr fRw))))), (aA0, .inr (2, [.long fd0, .int ct0, .ref aK0, .ref aG0, .ref aO0])), (aA1, .inr (2, [.long fd1, .int ct1, .ref aK1, .ref aG1, .ref aO1])), (aA2, .inr (2, [.long fd2, .int ct2, .ref aK2, .ref aG2, .ref aO2])), (aA3, .inr (2, [.long fd3, .int ct3, .ref aK3, .ref aG3, .ref aO3]))]) [0, 1, 2, 3, 4, 5, 6] rfl
    have hD9 := hD.sub (ws' := [(a0, .inr (0, [.ref aM, .ref aR, .ref aW, .ref aF, .ref aS, .ref aKR])), (aF, .inr (3, [.int us, .ref aFr])), (aFr, .inl (cQ, 4, .inr (.inr (.inr (.inr fRw))))), (aA0, .inr (2, [.long fd0, .int ct0, .ref aK0, .ref aG0, .ref aO0])), (aA1, .inr (2, [.long fd1, .int ct1, .ref aK1, .ref aG1, .ref aO1])), (aA2, .inr (2, [.long fd2, .int ct2, .ref aK2, .ref aG2, .ref aO2])), (aA3, .inr (2, [.long fd3, .int ct3, .ref aK3, .ref aG3, .ref aO3]))]) [0, 1, 2, 3, 4, 5, 6] (by decide) rfl
    have hpost_5 : (ct1 : Int32) = match q_find us fd0 fd1 fd2 fd3 g1 with | none => 0 | some j => q_4 ct0 ct1 ct2 ct3 j := by first | (rw [hq]; done) | (rw [hq]; rfl)
    exact W.iret (v := ct1) hx hb hr (fun t ht hW => ⟨⟨ct1, (), rfl, hpost_5, by rw [ht]; exact hP9, hD9⟩, hS.F ht⟩) hS.2.2 d_SettingSearch_kept_21
  · skip
    obtain rfl : r_1 = some aA2 := by rw [hw_2, hq]; rfl
    refine W.eq (g2 := F0 m 8 ls [.ref aA2]) rfl ?_
    refine lv_astore_n (lv' := [(3, .ref aA2), (0, .ref a0), (1, .long g1)]) hx hb d_SettingSearch_kept_8 rfl hl (by decide) rfl (fun ls hl => ?_)
    refine lv_aload_n hx hb d_SettingSearch_kept_9 rfl (lv_at hl 0 rfl) ?_
    refine lv_ifnonnull (tgt := 17) hx hb d_SettingSearch_kept_10 (by decide) ?_
    refine lv_aload_n hx hb d_SettingSearch_kept_17 rfl (lv_at hl 0 rfl) ?_
    refine va_getN (D := (dC, dI)) (ci := 2) (v := .int ct2) (C := R_Answers) (T := T_Answers) (N := 5) hx hb hts in_Answers hown hK hP 5 rfl rfl 1 (by decide) (g_Nu hN (List.mem_of_getElem? (i := 6) rfl)) (fun _ h9 => h9) rfl d_SettingSearch_kept_18 ?_
    have hP9 := hP.sub (ws' := [(a0, .inr (0, [.ref aM, .ref aR, .ref aW, .ref aF, .ref aS, .ref aKR])), (aF, .inr (3, [.int us, .ref aFr])), (aFr, .inl (cQ, 4, .inr (.inr (.inr (.inr fRw))))), (aA0, .inr (2, [.long fd0, .int ct0, .ref aK0, .ref aG0, .ref aO0])), (aA1, .inr (2, [.long fd1, .int ct1, .ref aK1, .ref aG1, .ref aO1])), (aA2, .inr (2, [.long fd2, .int ct2, .ref aK2, .ref aG2, .ref aO2])), (aA3, .inr (2, [.long fd3, .int ct3, .ref aK3, .ref aG3, .ref aO3]))]) [0, 1, 2, 3, 4, 5, 6] rfl
    have hD9 := hD.sub (ws' := [(a0, .inr (0, [.ref aM, .ref aR, .ref aW, .ref aF, .ref aS, .ref aKR])), (aF, .inr (3, [.int us, .ref aFr])), (aFr, .inl (cQ, 4, .inr (.inr (.inr (.inr fRw))))), (aA0, .inr (2, [.long fd0, .int ct0, .ref aK0, .ref aG0, .ref aO0])), (aA1, .inr (2, [.long fd1, .int ct1, .ref aK1, .ref aG1, .ref aO1])), (aA2, .inr (2, [.long fd2, .int ct2, .ref aK2, .ref aG2, .ref aO2])), (aA3, .inr (2, [.long fd3, .int ct3, .ref aK3, .ref aG3, .ref aO3]))]) [0, 1, 2, 3, 4, 5, 6] (by decide) rfl
    have hpost_6 : (ct2 : Int32) = match q_find us fd0 fd1 fd2 fd3 g1 with | none => 0 | some j => q_4 ct0 ct1 ct2 ct3 j := by first | (rw [hq]; done) | (rw [hq]; rfl)
    exact W.iret (v := ct2) hx hb hr (fun t ht hW => ⟨⟨ct2, (), rfl, hpost_6, by rw [ht]; exact hP9, hD9⟩, hS.F ht⟩) hS.2.2 d_SettingSearch_kept_21
  · skip
    obtain rfl : r_1 = some aA3 := by rw [hw_2, hq]; rfl
    refine W.eq (g2 := F0 m 8 ls [.ref aA3]) rfl ?_
    refine lv_astore_n (lv' := [(3, .ref aA3), (0, .ref a0), (1, .long g1)]) hx hb d_SettingSearch_kept_8 rfl hl (by decide) rfl (fun ls hl => ?_)
    refine lv_aload_n hx hb d_SettingSearch_kept_9 rfl (lv_at hl 0 rfl) ?_
    refine lv_ifnonnull (tgt := 17) hx hb d_SettingSearch_kept_10 (by decide) ?_
    refine lv_aload_n hx hb d_SettingSearch_kept_17 rfl (lv_at hl 0 rfl) ?_
    refine va_getN (D := (dC, dI)) (ci := 2) (v := .int ct3) (C := R_Answers) (T := T_Answers) (N := 5) hx hb hts in_Answers hown hK hP 6 rfl rfl 1 (by decide) (g_Nu hN (List.mem_of_getElem? (i := 6) rfl)) (fun _ h9 => h9) rfl d_SettingSearch_kept_18 ?_
    have hP9 := hP.sub (ws' := [(a0, .inr (0, [.ref aM, .ref aR, .ref aW, .ref aF, .ref aS, .ref aKR])), (aF, .inr (3, [.int us, .ref aFr])), (aFr, .inl (cQ, 4, .inr (.inr (.inr (.inr fRw))))), (aA0, .inr (2, [.long fd0, .int ct0, .ref aK0, .ref aG0, .ref aO0])), (aA1, .inr (2, [.long fd1, .int ct1, .ref aK1, .ref aG1, .ref aO1])), (aA2, .inr (2, [.long fd2, .int ct2, .ref aK2, .ref aG2, .ref aO2])), (aA3, .inr (2, [.long fd3, .int ct3, .ref aK3, .ref aG3, .ref aO3]))]) [0, 1, 2, 3, 4, 5, 6] rfl
    have hD9 := hD.sub (ws' := [(a0, .inr (0, [.ref aM, .ref aR, .ref aW, .ref aF, .ref aS, .ref aKR])), (aF, .inr (3, [.int us, .ref aFr])), (aFr, .inl (cQ, 4, .inr (.inr (.inr (.inr fRw))))), (aA0, .inr (2, [.long fd0, .int ct0, .ref aK0, .ref aG0, .ref aO0])), (aA1, .inr (2, [.long fd1, .int ct1, .ref aK1, .ref aG1, .ref aO1])), (aA2, .inr (2, [.long fd2, .int ct2, .ref aK2, .ref aG2, .ref aO2])), (aA3, .inr (2, [.long fd3, .int ct3, .ref aK3, .ref aG3, .ref aO3]))]) [0, 1, 2, 3, 4, 5, 6] (by decide) rfl
    have hpost_7 : (ct3 : Int32) = match q_find us fd0 fd1 fd2 fd3 g1 with | none => 0 | some j => q_4 ct0 ct1 ct2 ct3 j := by first | (rw [hq]; done) | (rw [hq]; rfl)
    exact W.iret (v := ct3) hx hb hr (fun t ht hW => ⟨⟨ct3, (), rfl, hpost_7, by rw [ht]; exact hP9, hD9⟩, hS.F ht⟩) hS.2.2 d_SettingSearch_kept_21
