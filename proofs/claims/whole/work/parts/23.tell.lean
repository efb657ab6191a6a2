set_option maxHeartbeats 4000000 in
set_option maxRecDepth 100000 in
/-- answer, nothing searched -/
theorem f_answer_n (l : Launch) (dC : Nat → ClassId) (dI : Nat → Nat → Nat) (sz : Nat) (cI : ClassId) (cZ : ClassId) (cQ : ClassId) (a0 : Nat) (aM : Nat) (aR : Nat) (aW : Nat) (aF : Nat) (aS : Nat) (aKR : Nat) (aSo : Nat) (go : Int32) (ak : Int32) (be : Int32) (bw : Int64) (pt : Int32) (ln : Int32) (p1 : Int32) (k1 : Int32) (a1 : Int64)  : Met l y_SettingSearch_answer w_SettingSearch_answer ({ frames := 2, cells := 0, slots := 0, locals := 47 } : Room) (va_Pc [.ref a0, .int p1, .int k1, .long a1] (fun U => U.heap.size = sz ∧ va_P (dC, dI) vw_cls [(a0, .inr (0, [.ref aM, .ref aR, .ref aW, .ref aF, .ref aS, .ref aKR])), (aS, .inr (6, [.null, .int go, .int ak, .int be, .long bw, .int pt, .int ln, .ref aSo]))] U.heap ∧ g_K dC dI [(cI, .int), (cZ, .boolean), (cQ, (.object "SettingSearch$Answers"))] U ∧ va_D (fun _ => True) [(a0, .inr (0, [.ref aM, .ref aR, .ref aW, .ref aF, .ref aS, .ref aKR])), (aS, .inr (6, [.null, .int go, .int ak, .int be, .long bw, .int pt, .int ln, .ref aSo]))])) (va_Qi (fun (r : Int32) (u : Unit) => r = 0) (fun (u : Unit) (t : State) => va_P (dC, dI) vw_cls [(a0, .inr (0, [.ref aM, .ref aR, .ref aW, .ref aF, .ref aS, .ref aKR])), (aS, .inr (6, [.null, .int go, .int ak, .int be, .long bw, .int pt, .int ln, .ref aSo]))] t.heap ∧ va_D (va_A [(a0, .inr (0, [.ref aM, .ref aR, .ref aW, .ref aF, .ref aS, .ref aKR])), (aS, .inr (6, [.null, .int go, .int ak, .int be, .long bw, .int pt, .int ln, .ref aSo]))] sz) [(a0, .inr (0, [.ref aM, .ref aR, .ref aW, .ref aF, .ref aS, .ref aKR])), (aS, .inr (6, [.null, .int go, .int ak, .int be, .long bw, .int pt, .int ln, .ref aSo]))]) (va_A [(a0, .inr (0, [.ref aM, .ref aR, .ref aW, .ref aF, .ref aS, .ref aKR])), (aS, .inr (6, [.null, .int go, .int ak, .int be, .long bw, .int pt, .int ln, .ref aSo]))] sz)) 0 0 (va_A [(a0, .inr (0, [.ref aM, .ref aR, .ref aW, .ref aF, .ref aS, .ref aKR])), (aS, .inr (6, [.null, .int go, .int ak, .int be, .long bw, .int pt, .int ln, .ref aSo]))] sz) := by
  refine Met.ofW (cc := b_SettingSearch_answer) (maxL := 7) (ret := (some .boolean)) (by decide) rfl ?_
  intro p e s m args below meth c s₁ B hml hv
  obtain ⟨rfl, hsz, hP, hKN, hD0⟩ := hv
  obtain ⟨hK, hN⟩ := id hKN
  have hx := B.exec
  have hb := B.bytes
  have hr := B.returns
  have hts0 := atoms_spec (ws := w_SettingSearch_answer) B.pre
  have hts : ∀ w ∈ lw_g, w.before _ s = true := fun w h => hts0 w (List.mem_cons_of_mem _ h)
  have hown : s.vm.findClass R_SettingSearch = some m.cls := findClass_of_methodNamed B.named
  have hlocks := B.notSynchronized
  subst hsz
  have hD := hD0.self (sz := s.heap.size)
  generalize hAe : va_A [(a0, .inr (0, [.ref aM, .ref aR, .ref aW, .ref aF, .ref aS, .ref aKR])), (aS, .inr (6, [.null, .int go, .int ak, .int be, .long bw, .int pt, .int ln, .ref aSo]))] s.heap.size = A at hD ⊢
  have hA : ∀ q : Nat, s.heap.size ≤ q → A q := fun q h => by rw [← hAe]; exact Or.inr h
  have hP : va_P (dC, dI) vw_cls [(a0, .inr (0, [.ref aM, .ref aR, .ref aW, .ref aF, .ref aS, .ref aKR])), (aS, .inr (6, [.null, .int go, .int ak, .int be, .long bw, .int pt, .int ln, .ref aSo]))] s.heap := hP
  have hl := lv_entry ([.ref a0, .int p1, .int k1, .long a1]) (n := 7) (Nat.le_of_ble_eq_true rfl)
  rw [lg_entry_eq]
  generalize (lg_sl ([.ref a0, .int p1, .int k1, .long a1]) ++ List.replicate (7 - (lg_sl ([.ref a0, .int p1, .int k1, .long a1])).length) Slot.unset).toArray = ls at hl ⊢
  have hl : lv_has ls 7 [(0, .ref a0), (1, .int p1), (2, .int k1), (3, .long a1)] := hl
  refine gw_start (fun H locs hH hlocs => ?_)
  rw [← hH] at hP
  have hS : va_S A s.heap H locs := by rw [hH, hlocs]; exact va_S.rf
  refine lv_aload_n hx hb d_SettingSearch_answer_0 rfl (lv_at hl 0 rfl) ?_
  refine va_get (D := (dC, dI)) (ci := 0) (v := .ref aS) (C := R_SettingSearch) (T := T_SettingSearch) (N := 6) hx hb hts in_SettingSearch hown hK hP 0 rfl rfl 4 (by decide) (hts _ tw_183) (fun _ h9 => h9) rfl d_SettingSearch_answer_1 ?_
  refine va_getN (D := (dC, dI)) (ci := 6) (v := .null) (C := R_Search) (T := T_Search) (N := 8) hx hb hts in_Search hown hK hP 1 rfl rfl 0 (by decide) (g_Nu hN (List.mem_of_getElem? (i := 7) rfl)) (fun _ h9 => h9) rfl d_SettingSearch_answer_4 ?_
  refine lv_astoreN (lv' := [(5, .null), (0, .ref a0), (1, .int p1), (2, .int k1), (3, .long a1)]) hx hb d_SettingSearch_answer_7 hl (by decide) rfl (fun ls hl => ?_)
  refine lv_iload_n hx hb d_SettingSearch_answer_9 rfl (lv_at hl 2 rfl) ?_
  refine lv_iload_n hx hb d_SettingSearch_answer_10 rfl (lv_at hl 3 rfl) ?_
  have hPc := hP.sub (ws' := []) [] rfl
  have hDc := hD.sub (ws' := []) [] (by decide) rfl
  have hFc := va_free (wc := []) hD hS hA [] rfl
  refine va_calli (va_runS (As := [.int p1, .int k1]) (rest := []) ⟨hx, hb, hml, hown, hts⟩ (k_pl l dC dI H.size cI cZ cQ p1 k1 ) ⟨(callB_of 2 hts (ga_all tw_221) rfl rfl rfl (hts _ tw_22) (hts _ tw_219) (by decide +kernel) ⟨Nat.le_of_ble_eq_true rfl, Nat.le_of_ble_eq_true rfl⟩), hts _ tw_220⟩ ⟨fun a U g mk q => by obtain ⟨q0, q1, qP, qK, qD⟩ := q; exact ⟨q0, q1, qP, g_K.same (u := U) (U := U.calling g mk a) rfl qK, qD⟩, fun U hU hW => ⟨rfl, by rw [hU], by rw [hU]; exact hPc, g_K.warm hW hKN, hDc.weaken (fun _ _ _ _ => trivial)⟩⟩ rfl rfl hl.1 rfl (lv_room (Nat.le_of_ble_eq_true rfl)) d_SettingSearch_answer_11 ⟨Nat.le_of_ble_eq_true rfl, Nat.le_of_ble_eq_true rfl⟩) hS (fun q _ h => hFc q h) hFc (fun r_1 u t H1 locs htt hvm hw_2 hBB hzz hkk hS => ?_)
  have hw_2 : r_1 = q_pl p1 k1 := hw_2
  obtain ⟨hPP, hDD⟩ := hBB
  rw [htt] at hPP
  have hPP : va_P (dC, dI) vw_cls [] H1 := hPP
  have hDD : va_D (va_A [] H.size) [] := hDD
  obtain ⟨hP, hD⟩ := va_join (wr := [(a0, .inr (0, [.ref aM, .ref aR, .ref aW, .ref aF, .ref aS, .ref aKR])), (aS, .inr (6, [.null, .int go, .int ak, .int be, .long bw, .int pt, .int ln, .ref aSo]))]) (w1 := []) hP hD [] [0, 1] rfl rfl (by decide) (by decide) hkk hFc hPP hDD
  generalize H1 = H at hP hS ⊢
  have hP : va_P (dC, dI) vw_cls [(a0, .inr (0, [.ref aM, .ref aR, .ref aW, .ref aF, .ref aS, .ref aKR])), (aS, .inr (6, [.null, .int go, .int ak, .int be, .long bw, .int pt, .int ln, .ref aSo]))] H := hP
  have hD : va_D A [(a0, .inr (0, [.ref aM, .ref aR, .ref aW, .ref aF, .ref aS, .ref aKR])), (aS, .inr (6, [.null, .int go, .int ak, .int be, .long bw, .int pt, .int ln, .ref aSo]))] := hD
  refine lv_istore (lv' := [(6, .int r_1), (5, .null), (0, .ref a0), (1, .int p1), (2, .int k1), (3, .long a1)]) hx hb d_SettingSearch_answer_14 hl (by decide) rfl (fun ls hl => ?_)
  refine lv_aload_n hx hb d_SettingSearch_answer_16 rfl (lv_at hl 2 rfl) ?_
  refine va_get (D := (dC, dI)) (ci := 0) (v := .ref aS) (C := R_SettingSearch) (T := T_SettingSearch) (N := 6) hx hb hts in_SettingSearch hown hK hP 0 rfl rfl 4 (by decide) (hts _ tw_183) (fun _ h9 => h9) rfl d_SettingSearch_answer_17 ?_
  refine va_getN (D := (dC, dI)) (ci := 6) (v := .int ak) (C := R_Search) (T := T_Search) (N := 8) hx hb hts in_Search hown hK hP 1 rfl rfl 2 (by decide) (g_Nu hN (List.mem_of_getElem? (i := 9) rfl)) (fun _ h9 => h9) rfl d_SettingSearch_answer_20 ?_
  refine lv_iconst (v := (-1)) hx hb d_SettingSearch_answer_23 (by decide) ?_
  refine lv_icmp_eq (tgt := 38) hx hb d_SettingSearch_answer_24 (by decide) (fun c_3 => ?_) (fun c_3 => ?_)
  · skip
    refine lv_iconst (v := 0) hx hb d_SettingSearch_answer_38 (by decide) ?_
    have hP9 := hP.sub (ws' := [(a0, .inr (0, [.ref aM, .ref aR, .ref aW, .ref aF, .ref aS, .ref aKR])), (aS, .inr (6, [.null, .int go, .int ak, .int be, .long bw, .int pt, .int ln, .ref aSo]))]) [0, 1] rfl
    have hD9 := hD.sub (ws' := [(a0, .inr (0, [.ref aM, .ref aR, .ref aW, .ref aF, .ref aS, .ref aKR])), (aS, .inr (6, [.null, .int go, .int ak, .int be, .long bw, .int pt, .int ln, .ref aSo]))]) [0, 1] (by decide) rfl
    have hpost_4 : (0 : Int32) = 0 := rfl
    exact W.zret (v := 0) hx hb hr (rfl) (fun t ht hW => ⟨⟨0, (), rfl, hpost_4, by rw [ht]; exact hP9, hD9⟩, hS.F ht⟩) hS.2.2 d_SettingSearch_answer_39
  · skip
    refine lv_aloadN hx hb d_SettingSearch_answer_27 (lv_at hl 1 rfl) ?_
    refine lv_ifnullN (tgt := 38) hx hb d_SettingSearch_answer_29 (by decide) ?_
    refine lv_iconst (v := 0) hx hb d_SettingSearch_answer_38 (by decide) ?_
    have hP9 := hP.sub (ws' := [(a0, .inr (0, [.ref aM, .ref aR, .ref aW, .ref aF, .ref aS, .ref aKR])), (aS, .inr (6, [.null, .int go, .int ak, .int be, .long bw, .int pt, .int ln, .ref aSo]))]) [0, 1] rfl
    have hD9 := hD.sub (ws' := [(a0, .inr (0, [.ref aM, .ref aR, .ref aW, .ref aF, .ref aS, .ref aKR])), (aS, .inr (6, [.null, .int go, .int ak, .int be, .long bw, .int pt, .int ln, .ref aSo]))]) [0, 1] (by decide) rfl
    have hpost_5 : (0 : Int32) = 0 := rfl
    exact W.zret (v := 0) hx hb hr (rfl) (fun t ht hW => ⟨⟨0, (), rfl, hpost_5, by rw [ht]; exact hP9, hD9⟩, hS.F ht⟩) hS.2.2 d_SettingSearch_answer_39
set_option maxHeartbeats 4000000 in
set_option maxRecDepth 100000 in
/-- answer -/
theorem f_answer (l : Launch) (dC : Nat → ClassId) (dI : Nat → Nat → Nat) (sz : Nat) (cI : ClassId) (cZ : ClassId) (cQ : ClassId) (a0 : Nat) (aM : Nat) (aR : Nat) (aW : Nat) (aF : Nat) (aS : Nat) (aKR : Nat) (aSo : Nat) (go : Int32) (ak : Int32) (be : Int32) (bw : Int64) (pt : Int32) (ln : Int32) (aA : Nat) (aK : Nat) (aG : Nat) (aO : Nat) (fd : Int64) (ct : Int32) (fG : Nat → Int32) (p1 : Int32) (k1 : Int32) (a1 : Int64) (hak : ¬ ak = -1 → ak = nI ak.toNatClampNeg ∧ ak.toNatClampNeg < 64) : Met l y_SettingSearch_answer w_SettingSearch_answer ({ frames := 2, cells := 0, slots := 0, locals := 47 } : Room) (va_Pc [.ref a0, .int p1, .int k1, .long a1] (fun U => U.heap.size = sz ∧ va_P (dC, dI) vw_cls [(a0, .inr (0, [.ref aM, .ref aR, .ref aW, .ref aF, .ref aS, .ref aKR])), (aS, .inr (6, [.ref aA, .int go, .int ak, .int be, .long bw, .int pt, .int ln, .ref aSo])), (aA, .inr (2, [.long fd, .int ct, .ref aK, .ref aG, .ref aO])), (aG, .inl (cI, 576, .inl fG))] U.heap ∧ g_K dC dI [(cI, .int), (cZ, .boolean), (cQ, (.object "SettingSearch$Answers"))] U ∧ va_D (fun _ => True) [(a0, .inr (0, [.ref aM, .ref aR, .ref aW, .ref aF, .ref aS, .ref aKR])), (aS, .inr (6, [.ref aA, .int go, .int ak, .int be, .long bw, .int pt, .int ln, .ref aSo])), (aA, .inr (2, [.long fd, .int ct, .ref aK, .ref aG, .ref aO])), (aG, .inl (cI, 576, .inl fG))])) (va_Qi (fun (r : Int32) (u : (Nat → Int32)) => (¬ ak = -1 ∧ ¬ q_pl p1 k1 = -1 ∧ ((q_tgOk fd fG ak.toNatClampNeg ((q_pl p1 k1).toNatClampNeg) a1 ∧ r = 1 ∧ u = upd fG (ak.toNatClampNeg * 9 + ((q_pl p1 k1).toNatClampNeg)) a1.toInt32) ∨ (¬ q_tgOk fd fG ak.toNatClampNeg ((q_pl p1 k1).toNatClampNeg) a1 ∧ r = 0 ∧ u = fG))) ∨ ((ak = -1 ∨ q_pl p1 k1 = -1) ∧ r = 0 ∧ u = fG)) (fun (u : (Nat → Int32)) (t : State) => va_P (dC, dI) vw_cls [(a0, .inr (0, [.ref aM, .ref aR, .ref aW, .ref aF, .ref aS, .ref aKR])), (aS, .inr (6, [.ref aA, .int go, .int ak, .int be, .long bw, .int pt, .int ln, .ref aSo])), (aA, .inr (2, [.long fd, .int ct, .ref aK, .ref aG, .ref aO])), (aG, .inl (cI, 576, .inl u))] t.heap ∧ va_D (va_A [(a0, .inr (0, [.ref aM, .ref aR, .ref aW, .ref aF, .ref aS, .ref aKR])), (aS, .inr (6, [.ref aA, .int go, .int ak, .int be, .long bw, .int pt, .int ln, .ref aSo])), (aA, .inr (2, [.long fd, .int ct, .ref aK, .ref aG, .ref aO])), (aG, .inl (cI, 576, .inl fG))] sz) [(a0, .inr (0, [.ref aM, .ref aR, .ref aW, .ref aF, .ref aS, .ref aKR])), (aS, .inr (6, [.ref aA, .int go, .int ak, .int be, .long bw, .int pt, .int ln, .ref aSo])), (aA, .inr (2, [.long fd, .int ct, .ref aK, .ref aG, .ref aO])), (aG, .inl (cI, 576, .inl u))]) (va_A [(a0, .inr (0, [.ref aM, .ref aR, .ref aW, .ref aF, .ref aS, .ref aKR])), (aS, .inr (6, [.ref aA, .int go, .int ak, .int be, .long bw, .int pt, .int ln, .ref aSo])), (aA, .inr (2, [.long fd, .int ct, .ref aK, .ref aG, .ref aO])), (aG, .inl (cI, 576, .inl fG))] sz)) 0 0 (va_A [(a0, .inr (0, [.ref aM, .ref aR, .ref aW, .ref aF, .ref aS, .ref aKR])), (aS, .inr (6, [.ref aA, .int go, .int ak, .int be, .long bw, .int pt, .int ln, .ref aSo])), (aA, .inr (2, [.long fd, .int ct, .ref aK, .ref aG, .ref aO])), (aG, .inl (cI, 576, .inl fG))] sz) := by
  refine Met.ofW (cc := b_SettingSearch_answer) (maxL := 7) (ret := (some .boolean)) (by decide) rfl ?_
  intro p e s m args below meth c s₁ B hml hv
  obtain ⟨rfl, hsz, hP, hKN, hD0⟩ := hv
  obtain ⟨hK, hN⟩ := id hKN
  have hx := B.exec
  have hb := B.bytes
  have hr := B.returns
  have hts0 := atoms_spec (ws := w_SettingSearch_answer) B.pre
  have hts : ∀ w ∈ lw_g, w.before _ s = true := fun w h => hts0 w (List.mem_cons_of_mem _ h)
  have hown : s.vm.findClass R_SettingSearch = some m.cls := findClass_of_methodNamed B.named
  have hlocks := B.notSynchronized
  subst hsz
  have hD := hD0.self (sz := s.heap.size)
  generalize hAe : va_A [(a0, .inr (0, [.ref aM, .ref aR, .ref aW, .ref aF, .ref aS, .ref aKR])), (aS, .inr (6, [.ref aA, .int go, .int ak, .int be, .long bw, .int pt, .int ln, .ref aSo])), (aA, .inr (2, [.long fd, .int ct, .ref aK, .ref aG, .ref aO])), (aG, .inl (cI, 576, .inl fG))] s.heap.size = A at hD ⊢
  have hA : ∀ q : Nat, s.heap.size ≤ q → A q := fun q h => by rw [← hAe]; exact Or.inr h
  have hP : va_P (dC, dI) vw_cls [(a0, .inr (0, [.ref aM, .ref aR, .ref aW, .ref aF, .ref aS, .ref aKR])), (aS, .inr (6, [.ref aA, .int go, .int ak, .int be, .long bw, .int pt, .int ln, .ref aSo])), (aA, .inr (2, [.long fd, .int ct, .ref aK, .ref aG, .ref aO])), (aG, .inl (cI, 576, .inl fG))] s.heap := hP
  have hl := lv_entry ([.ref a0, .int p1, .int k1, .long a1]) (n := 7) (Nat.le_of_ble_eq_true rfl)
  rw [lg_entry_eq]
  generalize (lg_sl ([.ref a0, .int p1, .int k1, .long a1]) ++ List.replicate (7 - (lg_sl ([.ref a0, .int p1, .int k1, .long a1])).length) Slot.unset).toArray = ls at hl ⊢
  have hl : lv_has ls 7 [(0, .ref a0), (1, .int p1), (2, .int k1), (3, .long a1)] := hl
  refine gw_start (fun H locs hH hlocs => ?_)
  rw [← hH] at hP
  have hS : va_S A s.heap H locs := by rw [hH, hlocs]; exact va_S.rf
  refine lv_aload_n hx hb d_SettingSearch_answer_0 rfl (lv_at hl 0 rfl) ?_
  refine va_get (D := (dC, dI)) (ci := 0) (v := .ref aS) (C := R_SettingSearch) (T := T_SettingSearch) (N := 6) hx hb hts in_SettingSearch hown hK hP 0 rfl rfl 4 (by decide) (hts _ tw_183) (fun _ h9 => h9) rfl d_SettingSearch_answer_1 ?_
  refine va_getN (D := (dC, dI)) (ci := 6) (v := .ref aA) (C := R_Search) (T := T_Search) (N := 8) hx hb hts in_Search hown hK hP 1 rfl rfl 0 (by decide) (g_Nu hN (List.mem_of_getElem? (i := 7) rfl)) (fun _ h9 => h9) rfl d_SettingSearch_answer_4 ?_
  refine lv_astore (lv' := [(5, .ref aA), (0, .ref a0), (1, .int p1), (2, .int k1), (3, .long a1)]) hx hb d_SettingSearch_answer_7 hl (by decide) rfl (fun ls hl => ?_)
  refine lv_iload_n hx hb d_SettingSearch_answer_9 rfl (lv_at hl 2 rfl) ?_
  refine lv_iload_n hx hb d_SettingSearch_answer_10 rfl (lv_at hl 3 rfl) ?_
  have hPc := hP.sub (ws' := []) [] rfl
  have hDc := hD.sub (ws' := []) [] (by decide) rfl
  have hFc := va_free (wc := []) hD hS hA [] rfl
  refine va_calli (va_runS (As := [.int p1, .int k1]) (rest := []) ⟨hx, hb, hml, hown, hts⟩ (k_pl l dC dI H.size cI cZ cQ p1 k1 ) ⟨(callB_of 2 hts (ga_all tw_221) rfl rfl rfl (hts _ tw_22) (hts _ tw_219) (by decide +kernel) ⟨Nat.le_of_ble_eq_true rfl, Nat.le_of_ble_eq_true rfl⟩), hts _ tw_220⟩ ⟨fun a U g mk q => by obtain ⟨q0, q1, qP, qK, qD⟩ := q; exact ⟨q0, q1, qP, g_K.same (u := U) (U := U.calling g mk a) rfl qK, qD⟩, fun U hU hW => ⟨rfl, by rw [hU], by rw [hU]; exact hPc, g_K.warm hW hKN, hDc.weaken (fun _ _ _ _ => trivial)⟩⟩ rfl rfl hl.1 rfl (lv_room (Nat.le_of_ble_eq_true rfl)) d_SettingSearch_answer_11 ⟨Nat.le_of_ble_eq_true rfl, Nat.le_of_ble_eq_true rfl⟩) hS (fun q _ h => hFc q h) hFc (fun r_1 u t H1 locs htt hvm hw_2 hBB hzz hkk hS => ?_)
  have hw_2 : r_1 = q_pl p1 k1 := hw_2
  obtain ⟨hPP, hDD⟩ := hBB
  rw [htt] at hPP
  have hPP : va_P (dC, dI) vw_cls [] H1 := hPP
  have hDD : va_D (va_A [] H.size) [] := hDD
  obtain ⟨hP, hD⟩ := va_join (wr := [(a0, .inr (0, [.ref aM, .ref aR, .ref aW, .ref aF, .ref aS, .ref aKR])), (aS, .inr (6, [.ref aA, .int go, .int ak, .int be, .long bw, .int pt, .int ln, .ref aSo])), (aA, .inr (2, [.long fd, .int ct, .ref aK, .ref aG, .ref aO])), (aG, .inl (cI, 576, .inl fG))]) (w1 := []) hP hD [] [0, 1, 2, 3] rfl rfl (by decide) (by decide) hkk hFc hPP hDD
  generalize H1 = H at hP hS ⊢
  have hP : va_P (dC, dI) vw_cls [(a0, .inr (0, [.ref aM, .ref aR, .ref aW, .ref aF, .ref aS, .ref aKR])), (aS, .inr (6, [.ref aA, .int go, .int ak, .int be, .long bw, .int pt, .int ln, .ref aSo])), (aA, .inr (2, [.long fd, .int ct, .ref aK, .ref aG, .ref aO])), (aG, .inl (cI, 576, .inl fG))] H := hP
  have hD : va_D A [(a0, .inr (0, [.ref aM, .ref aR, .ref aW, .ref aF, .ref aS, .ref aKR])), (aS, .inr (6, [.ref aA, .int go, .int ak, .int be, .long bw, .int pt, .int ln, .ref aSo])), (aA, .inr (2, [.long fd, .int ct, .ref aK, .ref aG, .ref aO])), (aG, .inl (cI, 576, .inl fG))] := hD
  refine lv_istore (lv' := [(6, .int r_1), (5, .ref aA), (0, .ref a0), (1, .int p1), (2, .int k1), (3, .long a1)]) hx hb d_SettingSearch_answer_14 hl (by decide) rfl (fun ls hl => ?_)
  refine lv_aload_n hx hb d_SettingSearch_answer_16 rfl (lv_at hl 2 rfl) ?_
  refine va_get (D := (dC, dI)) (ci := 0) (v := .ref aS) (C := R_SettingSearch) (T := T_SettingSearch) (N := 6) hx hb hts in_SettingSearch hown hK hP 0 rfl rfl 4 (by decide) (hts _ tw_183) (fun _ h9 => h9) rfl d_SettingSearch_answer_17 ?_
  refine va_getN (D := (dC, dI)) (ci := 6) (v := .int ak) (C := R_Search) (T := T_Search) (N := 8) hx hb hts in_Search hown hK hP 1 rfl rfl 2 (by decide) (g_Nu hN (List.mem_of_getElem? (i := 9) rfl)) (fun _ h9 => h9) rfl d_SettingSearch_answer_20 ?_
  refine lv_iconst (v := (-1)) hx hb d_SettingSearch_answer_23 (by decide) ?_
  refine lv_icmp_eq (tgt := 38) hx hb d_SettingSearch_answer_24 (by decide) (fun c_3 => ?_) (fun c_3 => ?_)
  · skip
    have cq : ak = -1 ∨ q_pl p1 k1 = -1 := Or.inl c_3
    refine lv_iconst (v := 0) hx hb d_SettingSearch_answer_38 (by decide) ?_
    have hP9 := hP.sub (ws' := [(a0, .inr (0, [.ref aM, .ref aR, .ref aW, .ref aF, .ref aS, .ref aKR])), (aS, .inr (6, [.ref aA, .int go, .int ak, .int be, .long bw, .int pt, .int ln, .ref aSo])), (aA, .inr (2, [.long fd, .int ct, .ref aK, .ref aG, .ref aO])), (aG, .inl (cI, 576, .inl fG))]) [0, 1, 2, 3] rfl
    have hD9 := hD.sub (ws' := [(a0, .inr (0, [.ref aM, .ref aR, .ref aW, .ref aF, .ref aS, .ref aKR])), (aS, .inr (6, [.ref aA, .int go, .int ak, .int be, .long bw, .int pt, .int ln, .ref aSo])), (aA, .inr (2, [.long fd, .int ct, .ref aK, .ref aG, .ref aO])), (aG, .inl (cI, 576, .inl fG))]) [0, 1, 2, 3] (by decide) rfl
    have hpost_4 : (¬ ak = -1 ∧ ¬ q_pl p1 k1 = -1 ∧ ((q_tgOk fd fG ak.toNatClampNeg ((q_pl p1 k1).toNatClampNeg) a1 ∧ (0 : Int32) = 1 ∧ fG = upd fG (ak.toNatClampNeg * 9 + ((q_pl p1 k1).toNatClampNeg)) a1.toInt32) ∨ (¬ q_tgOk fd fG ak.toNatClampNeg ((q_pl p1 k1).toNatClampNeg) a1 ∧ (0 : Int32) = 0 ∧ fG = fG))) ∨ ((ak = -1 ∨ q_pl p1 k1 = -1) ∧ (0 : Int32) = 0 ∧ fG = fG) := Or.inr ⟨cq, rfl, rfl⟩
    exact W.zret (v := 0) hx hb hr (rfl) (fun t ht hW => ⟨⟨0, fG, rfl, hpost_4, by rw [ht]; exact hP9, hD9⟩, hS.F ht⟩) hS.2.2 d_SettingSearch_answer_39
  · skip
    have ca : ¬ ak = -1 := c_3
    refine lv_aload hx hb d_SettingSearch_answer_27 (lv_at hl 1 rfl) ?_
    refine lv_ifnull hx hb d_SettingSearch_answer_29 ?_
    refine lv_iload hx hb d_SettingSearch_answer_32 (lv_at hl 0 rfl) ?_
    refine lv_iconst (v := (-1)) hx hb d_SettingSearch_answer_34 (by decide) ?_
    refine lv_icmp_ne (tgt := 40) hx hb d_SettingSearch_answer_35 (by decide) (fun c_5 => ?_) (fun c_5 => ?_)
    · skip
      have cp : ¬ q_pl p1 k1 = -1 := by rw [← hw_2]; exact c_5
      refine lv_aload hx hb d_SettingSearch_answer_40 (lv_at hl 1 rfl) ?_
      refine lv_aload_n hx hb d_SettingSearch_answer_42 rfl (lv_at hl 2 rfl) ?_
      refine va_get (D := (dC, dI)) (ci := 0) (v := .ref aS) (C := R_SettingSearch) (T := T_SettingSearch) (N := 6) hx hb hts in_SettingSearch hown hK hP 0 rfl rfl 4 (by decide) (hts _ tw_183) (fun _ h9 => h9) rfl d_SettingSearch_answer_43 ?_
      refine va_getN (D := (dC, dI)) (ci := 6) (v := .int ak) (C := R_Search) (T := T_Search) (N := 8) hx hb hts in_Search hown hK hP 1 rfl rfl 2 (by decide) (g_Nu hN (List.mem_of_getElem? (i := 9) rfl)) (fun _ h9 => h9) rfl d_SettingSearch_answer_46 ?_
      refine lv_iload hx hb d_SettingSearch_answer_49 (lv_at hl 0 rfl) ?_
      refine lv_lload_n hx hb d_SettingSearch_answer_51 rfl (lv_at hl 5 rfl) ?_
      have hPc := hP.sub (ws' := [(aA, .inr (2, [.long fd, .int ct, .ref aK, .ref aG, .ref aO])), (aG, .inl (cI, 576, .inl fG))]) [2, 3] rfl
      have hDc := hD.sub (ws' := [(aA, .inr (2, [.long fd, .int ct, .ref aK, .ref aG, .ref aO])), (aG, .inl (cI, 576, .inl fG))]) [2, 3] (by decide) rfl
      have hFc := va_free (wc := [(aA, .inr (2, [.long fd, .int ct, .ref aK, .ref aG, .ref aO])), (aG, .inl (cI, 576, .inl fG))]) hD hS hA [2, 3] rfl
      refine va_calli (va_runV (As := [.int ak, .int r_1, .long a1]) (rest := []) ⟨hx, hb, hml, hown, hts⟩ (k_tg l dC dI H.size cI cZ cQ aA aK aG aO fd ct fG ak ak.toNatClampNeg r_1 ((q_pl p1 k1).toNatClampNeg) a1 ((hak ca).1) ((hak ca).2) (by rw [hw_2]; exact (q_pl_ok cp).2.2.2.2.1) ((q_pl_ok cp).2.2.2.2.2.1)) ⟨(callB_of 3 hts (ga_all tw_341) rfl rfl rfl (hts _ tw_27) (hts _ tw_338) (by decide +kernel) ⟨Nat.le_of_ble_eq_true rfl, Nat.le_of_ble_eq_true rfl⟩), hts _ tw_339, hts _ tw_340⟩ ⟨fun a U g mk q => by obtain ⟨q0, q1, qP, qK, qD⟩ := q; exact ⟨q0, q1, qP, g_K.same (u := U) (U := U.calling g mk a) rfl qK, qD⟩, va_recv hK hPc (ci := 2) (q0 := 0) rfl rfl, fun U hU hW => ⟨rfl, by rw [hU], by rw [hU]; exact hPc, g_K.warm hW hKN, hDc.weaken (fun _ _ _ _ => trivial)⟩⟩ rfl rfl hl.1 rfl (lv_room (Nat.le_of_ble_eq_true rfl)) d_SettingSearch_answer_52 ⟨Nat.le_of_ble_eq_true rfl, Nat.le_of_ble_eq_true rfl⟩) hS (fun q _ h => hFc q h) hFc (fun r_6 u t H1 locs htt hvm hw_7 hBB hzz hkk hS => ?_)
      obtain ⟨fG2_8, rfl⟩ : ∃ z, z = u := ⟨_, rfl⟩
      have hw_7 : (q_tgOk fd fG ak.toNatClampNeg ((q_pl p1 k1).toNatClampNeg) a1 ∧ r_6 = 1 ∧ fG2_8 = upd fG (ak.toNatClampNeg * 9 + ((q_pl p1 k1).toNatClampNeg)) a1.toInt32) ∨ (¬ q_tgOk fd fG ak.toNatClampNeg ((q_pl p1 k1).toNatClampNeg) a1 ∧ r_6 = 0 ∧ fG2_8 = fG) := hw_7
      obtain ⟨hPP, hDD⟩ := hBB
      rw [htt] at hPP
      have hPP : va_P (dC, dI) vw_cls [(aA, .inr (2, [.long fd, .int ct, .ref aK, .ref aG, .ref aO])), (aG, .inl (cI, 576, .inl fG2_8))] H1 := hPP
      have hDD : va_D (va_A [(aA, .inr (2, [.long fd, .int ct, .ref aK, .ref aG, .ref aO])), (aG, .inl (cI, 576, .inl fG))] H.size) [(aA, .inr (2, [.long fd, .int ct, .ref aK, .ref aG, .ref aO])), (aG, .inl (cI, 576, .inl fG2_8))] := hDD
      obtain ⟨hP, hD⟩ := va_join (wr := [(a0, .inr (0, [.ref aM, .ref aR, .ref aW, .ref aF, .ref aS, .ref aKR])), (aS, .inr (6, [.ref aA, .int go, .int ak, .int be, .long bw, .int pt, .int ln, .ref aSo]))]) (w1 := [(aA, .inr (2, [.long fd, .int ct, .ref aK, .ref aG, .ref aO])), (aG, .inl (cI, 576, .inl fG2_8))]) hP hD [2, 3] [0, 1] rfl rfl (by decide) (by decide) hkk hFc hPP hDD
      generalize H1 = H at hP hS ⊢
      have hP : va_P (dC, dI) vw_cls [(a0, .inr (0, [.ref aM, .ref aR, .ref aW, .ref aF, .ref aS, .ref aKR])), (aS, .inr (6, [.ref aA, .int go, .int ak, .int be, .long bw, .int pt, .int ln, .ref aSo])), (aA, .inr (2, [.long fd, .int ct, .ref aK, .ref aG, .ref aO])), (aG, .inl (cI, 576, .inl fG2_8))] H := hP
      have hD : va_D A [(a0, .inr (0, [.ref aM, .ref aR, .ref aW, .ref aF, .ref aS, .ref aKR])), (aS, .inr (6, [.ref aA, .int go, .int ak, .int be, .long bw, .int pt, .int ln, .ref aSo])), (aA, .inr (2, [.long fd, .int ct, .ref aK, .ref aG, .ref aO])), (aG, .inl (cI, 576, .inl fG2_8))] := hD
      have hP9 := hP.sub (ws' := [(a0, .inr (0, [.ref aM, .ref aR, .ref aW, .ref aF, .ref aS, .ref aKR])), (aS, .inr (6, [.ref aA, .int go, .int ak, .int be, .long bw, .int pt, .int ln, .ref aSo])), (aA, .inr (2, [.long fd, .int ct, .ref aK, .ref aG, .ref aO])), (aG, .inl (cI, 576, .inl fG2_8))]) [0, 1, 2, 3] rfl
      have hD9 := hD.sub (ws' := [(a0, .inr (0, [.ref aM, .ref aR, .ref aW, .ref aF, .ref aS, .ref aKR])), (aS, .inr (6, [.ref aA, .int go, .int ak, .int be, .long bw, .int pt, .int ln, .ref aSo])), (aA, .inr (2, [.long fd, .int ct, .ref aK, .ref aG, .ref aO])), (aG, .inl (cI, 576, .inl fG2_8))]) [0, 1, 2, 3] (by decide) rfl
      have hpost_9 : (¬ ak = -1 ∧ ¬ q_pl p1 k1 = -1 ∧ ((q_tgOk fd fG ak.toNatClampNeg ((q_pl p1 k1).toNatClampNeg) a1 ∧ (r_6 : Int32) = 1 ∧ fG2_8 = upd fG (ak.toNatClampNeg * 9 + ((q_pl p1 k1).toNatClampNeg)) a1.toInt32) ∨ (¬ q_tgOk fd fG ak.toNatClampNeg ((q_pl p1 k1).toNatClampNeg) a1 ∧ (r_6 : Int32) = 0 ∧ fG2_8 = fG))) ∨ ((ak = -1 ∨ q_pl p1 k1 = -1) ∧ (r_6 : Int32) = 0 ∧ fG2_8 = fG) := Or.inl ⟨ca, cp, hw_7⟩
      exact W.zret (v := r_6) hx hb hr (nz01 (hw_7.elim (fun z => Or.inr z.2.1) (fun z => Or.inl z.2.1))) (fun t ht hW => ⟨⟨r_6, fG2_8, rfl, hpost_9, by rw [ht]; exact hP9, hD9⟩, hS.F ht⟩) hS.2.2 d_SettingSearch_answer_55
    · skip
      have cq : ak = -1 ∨ q_pl p1 k1 = -1 := Or.inr (by rw [← hw_2]; exact c_5)
      refine lv_iconst (v := 0) hx hb d_SettingSearch_answer_38 (by decide) ?_
      have hP9 := hP.sub (ws' := [(a0, .inr (0, [.ref aM, .ref aR, .ref aW, .ref aF, .ref aS, .ref aKR])), (aS, .inr (6, [.ref aA, .int go, .int ak, .int be, .long bw, .int pt, .int ln, .ref aSo])), (aA, .inr (2, [.long fd, .int ct, .ref aK, .ref aG, .ref aO])), (aG, .inl (cI, 576, .inl fG))]) [0, 1, 2, 3] rfl
      have hD9 := hD.sub (ws' := [(a0, .inr (0, [.ref aM, .ref aR, .ref aW, .ref aF, .ref aS, .ref aKR])), (aS, .inr (6, [.ref aA, .int go, .int ak, .int be, .long bw, .int pt, .int ln, .ref aSo])), (aA, .inr (2, [.long fd, .int ct, .ref aK, .ref aG, .ref aO])), (aG, .inl (cI, 576, .inl fG))]) [0, 1, 2, 3] (by decide) rfl
      have hpost_10 : (¬ ak = -1 ∧ ¬ q_pl p1 k1 = -1 ∧ ((q_tgOk fd fG ak.toNatClampNeg ((q_pl p1 k1).toNatClampNeg) a1 ∧ (0 : Int32) = 1 ∧ fG = upd fG (ak.toNatClampNeg * 9 + ((q_pl p1 k1).toNatClampNeg)) a1.toInt32) ∨ (¬ q_tgOk fd fG ak.toNatClampNeg ((q_pl p1 k1).toNatClampNeg) a1 ∧ (0 : Int32) = 0 ∧ fG = fG))) ∨ ((ak = -1 ∨ q_pl p1 k1 = -1) ∧ (0 : Int32) = 0 ∧ fG = fG) := Or.inr ⟨cq, rfl, rfl⟩
      exact W.zret (v := 0) hx hb hr (rfl) (fun t ht hW => ⟨⟨0, fG, rfl, hpost_10, by rw [ht]; exact hP9, hD9⟩, hS.F ht⟩) hS.2.2 d_SettingSearch_answer_39
set_option maxHeartbeats 4000000 in
set_option maxRecDepth 100000 in
/-- load, nothing searched -/
theorem f_load_n (l : Launch) (dC : Nat → ClassId) (dI : Nat → Nat → Nat) (sz : Nat) (cI : ClassId) (cZ : ClassId) (cQ : ClassId) (a0 : Nat) (aM : Nat) (aR : Nat) (aW : Nat) (aF : Nat) (aS : Nat) (aKR : Nat) (aSo : Nat) (go : Int32) (ak : Int32) (be : Int32) (bw : Int64) (pt : Int32) (ln : Int32) (m1 : Int32) (x1 : Int32)  : Met l y_SettingSearch_load w_SettingSearch_load ({ frames := 2, cells := 0, slots := 0, locals := 43 } : Room) (va_Pc [.ref a0, .int m1, .int x1] (fun U => U.heap.size = sz ∧ va_P (dC, dI) vw_cls [(a0, .inr (0, [.ref aM, .ref aR, .ref aW, .ref aF, .ref aS, .ref aKR])), (aS, .inr (6, [.null, .int go, .int ak, .int be, .long bw, .int pt, .int ln, .ref aSo]))] U.heap ∧ g_K dC dI [(cI, .int), (cZ, .boolean), (cQ, (.object "SettingSearch$Answers"))] U ∧ va_D (fun _ => True) [(a0, .inr (0, [.ref aM, .ref aR, .ref aW, .ref aF, .ref aS, .ref aKR])), (aS, .inr (6, [.null, .int go, .int ak, .int be, .long bw, .int pt, .int ln, .ref aSo]))])) (va_Qi (fun (r : Int32) (u : Unit) => r = 0) (fun (u : Unit) (t : State) => va_P (dC, dI) vw_cls [(a0, .inr (0, [.ref aM, .ref aR, .ref aW, .ref aF, .ref aS, .ref aKR])), (aS, .inr (6, [.null, .int go, .int ak, .int be, .long bw, .int pt, .int ln, .ref aSo]))] t.heap ∧ va_D (va_A [(a0, .inr (0, [.ref aM, .ref aR, .ref aW, .ref aF, .ref aS, .ref aKR])), (aS, .inr (6, [.null, .int go, .int ak, .int be, .long bw, .int pt, .int ln, .ref aSo]))] sz) [(a0, .inr (0, [.ref aM, .ref aR, .ref aW, .ref aF, .ref aS, .ref aKR])), (aS, .inr (6, [.null, .int go, .int ak, .int be, .long bw, .int pt, .int ln, .ref aSo]))]) (va_A [(a0, .inr (0, [.ref aM, .ref aR, .ref aW, .ref aF, .ref aS, .ref aKR])), (aS, .inr (6, [.null, .int go, .int ak, .int be, .long bw, .int pt, .int ln, .ref aSo]))] sz)) 0 0 (va_A [(a0, .inr (0, [.ref aM, .ref aR, .ref aW, .ref aF, .ref aS, .ref aKR])), (aS, .inr (6, [.null, .int go, .int ak, .int be, .long bw, .int pt, .int ln, .ref aSo]))] sz) := by
  refine Met.ofW (cc := b_SettingSearch_load) (maxL := 4) (ret := (some .boolean)) (by decide) rfl ?_
  intro p e s m args below meth c s₁ B hml hv
  obtain ⟨rfl, hsz, hP, hKN, hD0⟩ := hv
  obtain ⟨hK, hN⟩ := id hKN
  have hx := B.exec
  have hb := B.bytes
  have hr := B.returns
  have hts0 := atoms_spec (ws := w_SettingSearch_load) B.pre
  have hts : ∀ w ∈ lw_g, w.before _ s = true := fun w h => hts0 w (List.mem_cons_of_mem _ h)
  have hown : s.vm.findClass R_SettingSearch = some m.cls := findClass_of_methodNamed B.named
  have hlocks := B.notSynchronized
  subst hsz
  have hD := hD0.self (sz := s.heap.size)
  generalize hAe : va_A [(a0, .inr (0, [.ref aM, .ref aR, .ref aW, .ref aF, .ref aS, .ref aKR])), (aS, .inr (6, [.null, .int go, .int ak, .int be, .long bw, .int pt, .int ln, .ref aSo]))] s.heap.size = A at hD ⊢
  have hA : ∀ q : Nat, s.heap.size ≤ q → A q := fun q h => by rw [← hAe]; exact Or.inr h
  have hP : va_P (dC, dI) vw_cls [(a0, .inr (0, [.ref aM, .ref aR, .ref aW, .ref aF, .ref aS, .ref aKR])), (aS, .inr (6, [.null, .int go, .int ak, .int be, .long bw, .int pt, .int ln, .ref aSo]))] s.heap := hP
  have hl := lv_entry ([.ref a0, .int m1, .int x1]) (n := 4) (Nat.le_of_ble_eq_true rfl)
  rw [lg_entry_eq]
  generalize (lg_sl ([.ref a0, .int m1, .int x1]) ++ List.replicate (4 - (lg_sl ([.ref a0, .int m1, .int x1])).length) Slot.unset).toArray = ls at hl ⊢
  have hl : lv_has ls 4 [(0, .ref a0), (1, .int m1), (2, .int x1)] := hl
  refine gw_start (fun H locs hH hlocs => ?_)
  rw [← hH] at hP
  have hS : va_S A s.heap H locs := by rw [hH, hlocs]; exact va_S.rf
  refine lv_aload_n hx hb d_SettingSearch_load_0 rfl (lv_at hl 0 rfl) ?_
  refine va_get (D := (dC, dI)) (ci := 0) (v := .ref aS) (C := R_SettingSearch) (T := T_SettingSearch) (N := 6) hx hb hts in_SettingSearch hown hK hP 0 rfl rfl 4 (by decide) (hts _ tw_183) (fun _ h9 => h9) rfl d_SettingSearch_load_1 ?_
  refine va_getN (D := (dC, dI)) (ci := 6) (v := .null) (C := R_Search) (T := T_Search) (N := 8) hx hb hts in_Search hown hK hP 1 rfl rfl 0 (by decide) (g_Nu hN (List.mem_of_getElem? (i := 7) rfl)) (fun _ h9 => h9) rfl d_SettingSearch_load_4 ?_
  refine lv_astore_nN (lv' := [(3, .null), (0, .ref a0), (1, .int m1), (2, .int x1)]) hx hb d_SettingSearch_load_7 rfl hl (by decide) rfl (fun ls hl => ?_)
  refine lv_aload_n hx hb d_SettingSearch_load_8 rfl (lv_at hl 1 rfl) ?_
  refine va_get (D := (dC, dI)) (ci := 0) (v := .ref aS) (C := R_SettingSearch) (T := T_SettingSearch) (N := 6) hx hb hts in_SettingSearch hown hK hP 0 rfl rfl 4 (by decide) (hts _ tw_183) (fun _ h9 => h9) rfl d_SettingSearch_load_9 ?_
  refine va_getN (D := (dC, dI)) (ci := 6) (v := .int ak) (C := R_Search) (T := T_Search) (N := 8) hx hb hts in_Search hown hK hP 1 rfl rfl 2 (by decide) (g_Nu hN (List.mem_of_getElem? (i := 9) rfl)) (fun _ h9 => h9) rfl d_SettingSearch_load_12 ?_
  refine lv_iconst (v := (-1)) hx hb d_SettingSearch_load_15 (by decide) ?_
  refine lv_icmp_eq (tgt := 34) hx hb d_SettingSearch_load_16 (by decide) (fun c_1 => ?_) (fun c_1 => ?_)
  · skip
    refine lv_iconst (v := 0) hx hb d_SettingSearch_load_34 (by decide) ?_
    have hP9 := hP.sub (ws' := [(a0, .inr (0, [.ref aM, .ref aR, .ref aW, .ref aF, .ref aS, .ref aKR])), (aS, .inr (6, [.null, .int go, .int ak, .int be, .long bw, .int pt, .int ln, .ref aSo]))]) [0, 1] rfl
    have hD9 := hD.sub (ws' := [(a0, .inr (0, [.ref aM, .ref aR, .ref aW, .ref aF, .ref aS, .ref aKR])), (aS, .inr (6, [.null, .int go, .int ak, .int be, .long bw, .int pt, .int ln, .ref aSo]))]) [0, 1] (by decide) rfl
    have hpost_2 : (0 : Int32) = 0 := rfl
    exact W.zret (v := 0) hx hb hr (rfl) (fun t ht hW => ⟨⟨0, (), rfl, hpost_2, by rw [ht]; exact hP9, hD9⟩, hS.F ht⟩) hS.2.2 d_SettingSearch_load_35
  · skip
    refine lv_aload_nN hx hb d_SettingSearch_load_19 rfl (lv_at hl 0 rfl) ?_
    refine lv_ifnullN (tgt := 34) hx hb d_SettingSearch_load_20 (by decide) ?_
    refine lv_iconst (v := 0) hx hb d_SettingSearch_load_34 (by decide) ?_
    have hP9 := hP.sub (ws' := [(a0, .inr (0, [.ref aM, .ref aR, .ref aW, .ref aF, .ref aS, .ref aKR])), (aS, .inr (6, [.null, .int go, .int ak, .int be, .long bw, .int pt, .int ln, .ref aSo]))]) [0, 1] rfl
    have hD9 := hD.sub (ws' := [(a0, .inr (0, [.ref aM, .ref aR, .ref aW, .ref aF, .ref aS, .ref aKR])), (aS, .inr (6, [.null, .int go, .int ak, .int be, .long bw, .int pt, .int ln, .ref aSo]))]) [0, 1] (by decide) rfl
    have hpost_3 : (0 : Int32) = 0 := rfl
    exact W.zret (v := 0) hx hb hr (rfl) (fun t ht hW => ⟨⟨0, (), rfl, hpost_3, by rw [ht]; exact hP9, hD9⟩, hS.F ht⟩) hS.2.2 d_SettingSearch_load_35
set_option maxHeartbeats 4000000 in
set_option maxRecDepth 100000 in
/-- load -/
theorem f_load (l : Launch) (dC : Nat → ClassId) (dI : Nat → Nat → Nat) (sz : Nat) (cI : ClassId) (cZ : ClassId) (cQ : ClassId) (a0 : Nat) (aM : Nat) (aR : Nat) (aW : Nat) (aF : Nat) (aS : Nat) (aKR : Nat) (aSo : Nat) (go : Int32) (ak : Int32) (be : Int32) (bw : Int64) (pt : Int32) (ln : Int32) (aMS : Nat) (aMC : Nat) (aMT : Nat) (cnt : Int32) (vec : Int32) (aA : Nat) (aK : Nat) (aG : Nat) (aO : Nat) (fd : Int64) (ct : Int32) (fO : Nat → Int32) (m1 : Int32) (x1 : Int32) (nc : Nat) (hak : ¬ ak = -1 → ak = nI ak.toNatClampNeg ∧ ak.toNatClampNeg < 64) (hcnt : cnt = nI nc) (hnc : nc ≤ 5) : Met l y_SettingSearch_load w_SettingSearch_load ({ frames := 2, cells := 0, slots := 0, locals := 43 } : Room) (va_Pc [.ref a0, .int m1, .int x1] (fun U => U.heap.size = sz ∧ va_P (dC, dI) vw_cls [(a0, .inr (0, [.ref aM, .ref aR, .ref aW, .ref aF, .ref aS, .ref aKR])), (aS, .inr (6, [.ref aA, .int go, .int ak, .int be, .long bw, .int pt, .int ln, .ref aSo])), (aM, .inr (4, [.int cnt, .int vec, .ref aMS, .ref aMC, .ref aMT])), (aA, .inr (2, [.long fd, .int ct, .ref aK, .ref aG, .ref aO])), (aO, .inl (cI, 320, .inl fO))] U.heap ∧ g_K dC dI [(cI, .int), (cZ, .boolean), (cQ, (.object "SettingSearch$Answers"))] U ∧ va_D (fun _ => True) [(a0, .inr (0, [.ref aM, .ref aR, .ref aW, .ref aF, .ref aS, .ref aKR])), (aS, .inr (6, [.ref aA, .int go, .int ak, .int be, .long bw, .int pt, .int ln, .ref aSo])), (aM, .inr (4, [.int cnt, .int vec, .ref aMS, .ref aMC, .ref aMT])), (aA, .inr (2, [.long fd, .int ct, .ref aK, .ref aG, .ref aO])), (aO, .inl (cI, 320, .inl fO))])) (va_Qi (fun (r : Int32) (u : (Nat → Int32)) => (¬ ak = -1 ∧ ¬ m1 < 0 ∧ ¬ cnt ≤ m1 ∧ (((¬ x1 < 0 ∧ x1 ≤ 1000000) ∧ r = 1 ∧ u = upd fO (ak.toNatClampNeg * 5 + m1.toNatClampNeg) x1) ∨ (¬ (¬ x1 < 0 ∧ x1 ≤ 1000000) ∧ r = 0 ∧ u = fO))) ∨ ((ak = -1 ∨ m1 < 0 ∨ cnt ≤ m1) ∧ r = 0 ∧ u = fO)) (fun (u : (Nat → Int32)) (t : State) => va_P (dC, dI) vw_cls [(a0, .inr (0, [.ref aM, .ref aR, .ref aW, .ref aF, .ref aS, .ref aKR])), (aS, .inr (6, [.ref aA, .int go, .int ak, .int be, .long bw, .int pt, .int ln, .ref aSo])), (aM, .inr (4, [.int cnt, .int vec, .ref aMS, .ref aMC, .ref aMT])), (aA, .inr (2, [.long fd, .int ct, .ref aK, .ref aG, .ref aO])), (aO, .inl (cI, 320, .inl u))] t.heap ∧ va_D (va_A [(a0, .inr (0, [.ref aM, .ref aR, .ref aW, .ref aF, .ref aS, .ref aKR])), (aS, .inr (6, [.ref aA, .int go, .int ak, .int be, .long bw, .int pt, .int ln, .ref aSo])), (aM, .inr (4, [.int cnt, .int vec, .ref aMS, .ref aMC, .ref aMT])), (aA, .inr (2, [.long fd, .int ct, .ref aK, .ref aG, .ref aO])), (aO, .inl (cI, 320, .inl fO))] sz) [(a0, .inr (0, [.ref aM, .ref aR, .ref aW, .ref aF, .ref aS, .ref aKR])), (aS, .inr (6, [.ref aA, .int go, .int ak, .int be, .long bw, .int pt, .int ln, .ref aSo])), (aM, .inr (4, [.int cnt, .int vec, .ref aMS, .ref aMC, .ref aMT])), (aA, .inr (2, [.long fd, .int ct, .ref aK, .ref aG, .ref aO])), (aO, .inl (cI, 320, .inl u))]) (va_A [(a0, .inr (0, [.ref aM, .ref aR, .ref aW, .ref aF, .ref aS, .ref aKR])), (aS, .inr (6, [.ref aA, .int go, .int ak, .int be, .long bw, .int pt, .int ln, .ref aSo])), (aM, .inr (4, [.int cnt, .int vec, .ref aMS, .ref aMC, .ref aMT])), (aA, .inr (2, [.long fd, .int ct, .ref aK, .ref aG, .ref aO])), (aO, .inl (cI, 320, .inl fO))] sz)) 0 0 (va_A [(a0, .inr (0, [.ref aM, .ref aR, .ref aW, .ref aF, .ref aS, .ref aKR])), (aS, .inr (6, [.ref aA, .int go, .int ak, .int be, .long bw, .int pt, .int ln, .ref aSo])), (aM, .inr (4, [.int cnt, .int vec, .ref aMS, .ref aMC, .ref aMT])), (aA, .inr (2, [.long fd, .int ct, .ref aK, .ref aG, .ref aO])), (aO, .inl (cI, 320, .inl fO))] sz) := by
  refine Met.ofW (cc := b_SettingSearch_load) (maxL := 4) (ret := (some .boolean)) (by decide) rfl ?_
  intro p e s m args below meth c s₁ B hml hv
  obtain ⟨rfl, hsz, hP, hKN, hD0⟩ := hv
  obtain ⟨hK, hN⟩ := id hKN
  have hx := B.exec
  have hb := B.bytes
  have hr := B.returns
  have hts0 := atoms_spec (ws := w_SettingSearch_load) B.pre
  have hts : ∀ w ∈ lw_g, w.before _ s = true := fun w h => hts0 w (List.mem_cons_of_mem _ h)
  have hown : s.vm.findClass R_SettingSearch = some m.cls := findClass_of_methodNamed B.named
  have hlocks := B.notSynchronized
  subst hsz
  have hD := hD0.self (sz := s.heap.size)
  generalize hAe : va_A [(a0, .inr (0, [.ref aM, .ref aR, .ref aW, .ref aF, .ref aS, .ref aKR])), (aS, .inr (6, [.ref aA, .int go, .int ak, .int be, .long bw, .int pt, .int ln, .ref aSo])), (aM, .inr (4, [.int cnt, .int vec, .ref aMS, .ref aMC, .ref aMT])), (aA, .inr (2, [.long fd, .int ct, .ref aK, .ref aG, .ref aO])), (aO, .inl (cI, 320, .inl fO))] s.heap.size = A at hD ⊢
  have hA : ∀ q : Nat, s.heap.size ≤ q → A q := fun q h => by rw [← hAe]; exact Or.inr h
  have hP : va_P (dC, dI) vw_cls [(a0, .inr (0, [.ref aM, .ref aR, .ref aW, .ref aF, .ref aS, .ref aKR])), (aS, .inr (6, [.ref aA, .int go, .int ak, .int be, .long bw, .int pt, .int ln, .ref aSo])), (aM, .inr (4, [.int cnt, .int vec, .ref aMS, .ref aMC, .ref aMT])), (aA, .inr (2, [.long fd, .int ct, .ref aK, .ref aG, .ref aO])), (aO, .inl (cI, 320, .inl fO))] s.heap := hP
  have hl := lv_entry ([.ref a0, .int m1, .int x1]) (n := 4) (Nat.le_of_ble_eq_true rfl)
  rw [lg_entry_eq]
  generalize (lg_sl ([.ref a0, .int m1, .int x1]) ++ List.replicate (4 - (lg_sl ([.ref a0, .int m1, .int x1])).length) Slot.unset).toArray = ls at hl ⊢
  have hl : lv_has ls 4 [(0, .ref a0), (1, .int m1), (2, .int x1)] := hl
  refine gw_start (fun H locs hH hlocs => ?_)
  rw [← hH] at hP
  have hS : va_S A s.heap H locs := by rw [hH, hlocs]; exact va_S.rf
  refine lv_aload_n hx hb d_SettingSearch_load_0 rfl (lv_at hl 0 rfl) ?_
  refine va_get (D := (dC, dI)) (ci := 0) (v := .ref aS) (C := R_SettingSearch) (T := T_SettingSearch) (N := 6) hx hb hts in_SettingSearch hown hK hP 0 rfl rfl 4 (by decide) (hts _ tw_183) (fun _ h9 => h9) rfl d_SettingSearch_load_1 ?_
  refine va_getN (D := (dC, dI)) (ci := 6) (v := .ref aA) (C := R_Search) (T := T_Search) (N := 8) hx hb hts in_Search hown hK hP 1 rfl rfl 0 (by decide) (g_Nu hN (List.mem_of_getElem? (i := 7) rfl)) (fun _ h9 => h9) rfl d_SettingSearch_load_4 ?_
  refine lv_astore_n (lv' := [(3, .ref aA), (0, .ref a0), (1, .int m1), (2, .int x1)]) hx hb d_SettingSearch_load_7 rfl hl (by decide) rfl (fun ls hl => ?_)
  refine lv_aload_n hx hb d_SettingSearch_load_8 rfl (lv_at hl 1 rfl) ?_
  refine va_get (D := (dC, dI)) (ci := 0) (v := .ref aS) (C := R_SettingSearch) (T := T_SettingSearch) (N := 6) hx hb hts in_SettingSearch hown hK hP 0 rfl rfl 4 (by decide) (hts _ tw_183) (fun _ h9 => h9) rfl d_SettingSearch_load_9 ?_
  refine va_getN (D := (dC, dI)) (ci := 6) (v := .int ak) (C := R_Search) (T := T_Search) (N := 8) hx hb hts in_Search hown hK hP 1 rfl rfl 2 (by decide) (g_Nu hN (List.mem_of_getElem? (i := 9) rfl)) (fun _ h9 => h9) rfl d_SettingSearch_load_12 ?_
  refine lv_iconst (v := (-1)) hx hb d_SettingSearch_load_15 (by decide) ?_
  refine lv_icmp_eq (tgt := 34) hx hb d_SettingSearch_load_16 (by decide) (fun c_1 => ?_) (fun c_1 => ?_)
  · skip
    have cq : ak = -1 ∨ m1 < 0 ∨ cnt ≤ m1 := Or.inl c_1
    refine lv_iconst (v := 0) hx hb d_SettingSearch_load_34 (by decide) ?_
    have hP9 := hP.sub (ws' := [(a0, .inr (0, [.ref aM, .ref aR, .ref aW, .ref aF, .ref aS, .ref aKR])), (aS, .inr (6, [.ref aA, .int go, .int ak, .int be, .long bw, .int pt, .int ln, .ref aSo])), (aM, .inr (4, [.int cnt, .int vec, .ref aMS, .ref aMC, .ref aMT])), (aA, .inr (2, [.long fd, .int ct, .ref aK, .ref aG, .ref aO])), (aO, .inl (cI, 320, .inl fO))]) [0, 1, 2, 3, 4] rfl
    have hD9 := hD.sub (ws' := [(a0, .inr (0, [.ref aM, .ref aR, .ref aW, .ref aF, .ref aS, .ref aKR])), (aS, .inr (6, [.ref aA, .int go, .int ak, .int be, .long bw, .int pt, .int ln, .ref aSo])), (aM, .inr (4, [.int cnt, .int vec, .ref aMS, .ref aMC, .ref aMT])), (aA, .inr (2, [.long fd, .int ct, .ref aK, .ref aG, .ref aO])), (aO, .inl (cI, 320, .inl fO))]) [0, 1, 2, 3, 4] (by decide) rfl
    have hpost_2 : (¬ ak = -1 ∧ ¬ m1 < 0 ∧ ¬ cnt ≤ m1 ∧ (((¬ x1 < 0 ∧ x1 ≤ 1000000) ∧ (0 : Int32) = 1 ∧ fO = upd fO (ak.toNatClampNeg * 5 + m1.toNatClampNeg) x1) ∨ (¬ (¬ x1 < 0 ∧ x1 ≤ 1000000) ∧ (0 : Int32) = 0 ∧ fO = fO))) ∨ ((ak = -1 ∨ m1 < 0 ∨ cnt ≤ m1) ∧ (0 : Int32) = 0 ∧ fO = fO) := Or.inr ⟨cq, rfl, rfl⟩
    exact W.zret (v := 0) hx hb hr (rfl) (fun t ht hW => ⟨⟨0, fO, rfl, hpost_2, by rw [ht]; exact hP9, hD9⟩, hS.F ht⟩) hS.2.2 d_SettingSearch_load_35
  · skip
    have ca : ¬ ak = -1 := c_1
    refine lv_aload_n hx hb d_SettingSearch_load_19 rfl (lv_at hl 0 rfl) ?_
    refine lv_ifnull hx hb d_SettingSearch_load_20 ?_
    refine lv_aload_n hx hb d_SettingSearch_load_23 rfl (lv_at hl 1 rfl) ?_
    refine va_get (D := (dC, dI)) (ci := 0) (v := .ref aM) (C := R_SettingSearch) (T := T_SettingSearch) (N := 6) hx hb hts in_SettingSearch hown hK hP 0 rfl rfl 0 (by decide) (hts _ tw_179) (fun _ h9 => h9) rfl d_SettingSearch_load_24 ?_
    refine lv_iload_n hx hb d_SettingSearch_load_27 rfl (lv_at hl 2 rfl) ?_
    have hPc := hP.sub (ws' := [(aM, .inr (4, [.int cnt, .int vec, .ref aMS, .ref aMC, .ref aMT]))]) [2] rfl
    have hDc := hD.sub (ws' := [(aM, .inr (4, [.int cnt, .int vec, .ref aMS, .ref aMC, .ref aMT]))]) [2] (by decide) rfl
    have hFc := va_free (wc := [(aM, .inr (4, [.int cnt, .int vec, .ref aMS, .ref aMC, .ref aMT]))]) hD hS hA [2] rfl
    refine va_calli (va_runV (As := [.int m1]) (rest := []) ⟨hx, hb, hml, hown, hts⟩ (k_has l dC dI H.size cI cZ cQ aM aMS aMC aMT cnt vec m1 ) ⟨(callB_of 1 hts (ga_all tw_237) rfl rfl rfl (hts _ tw_23) (hts _ tw_234) (by decide +kernel) ⟨Nat.le_of_ble_eq_true rfl, Nat.le_of_ble_eq_true rfl⟩), hts _ tw_235, hts _ tw_236⟩ ⟨fun a U g mk q => by obtain ⟨q0, q1, qP, qK, qD⟩ := q; exact ⟨q0, q1, qP, g_K.same (u := U) (U := U.calling g mk a) rfl qK, qD⟩, va_recv hK hPc (ci := 4) (q0 := 0) rfl rfl, fun U hU hW => ⟨rfl, by rw [hU], by rw [hU]; exact hPc, g_K.warm hW hKN, hDc.weaken (fun _ _ _ _ => trivial)⟩⟩ rfl rfl hl.1 rfl (lv_room (Nat.le_of_ble_eq_true rfl)) d_SettingSearch_load_28 ⟨Nat.le_of_ble_eq_true rfl, Nat.le_of_ble_eq_true rfl⟩) hS (fun q _ h => hFc q h) hFc (fun r_3 u t H1 locs htt hvm hw_4 hBB hzz hkk hS => ?_)
    have hw_4 : r_3 = q_has cnt m1 := hw_4
    obtain ⟨hPP, hDD⟩ := hBB
    rw [htt] at hPP
    have hPP : va_P (dC, dI) vw_cls [(aM, .inr (4, [.int cnt, .int vec, .ref aMS, .ref aMC, .ref aMT]))] H1 := hPP
    have hDD : va_D (va_A [(aM, .inr (4, [.int cnt, .int vec, .ref aMS, .ref aMC, .ref aMT]))] H.size) [(aM, .inr (4, [.int cnt, .int vec, .ref aMS, .ref aMC, .ref aMT]))] := hDD
    obtain ⟨hP, hD⟩ := va_join (wr := [(a0, .inr (0, [.ref aM, .ref aR, .ref aW, .ref aF, .ref aS, .ref aKR])), (aS, .inr (6, [.ref aA, .int go, .int ak, .int be, .long bw, .int pt, .int ln, .ref aSo])), (aA, .inr (2, [.long fd, .int ct, .ref aK, .ref aG, .ref aO])), (aO, .inl (cI, 320, .inl fO))]) (w1 := [(aM, .inr (4, [.int cnt, .int vec, .ref aMS, .ref aMC, .ref aMT]))]) hP hD [2] [0, 1, 3, 4] rfl rfl (by decide) (by decide) hkk hFc hPP hDD
    generalize H1 = H at hP hS ⊢
    have hP : va_P (dC, dI) vw_cls [(a0, .inr (0, [.ref aM, .ref aR, .ref aW, .ref aF, .ref aS, .ref aKR])), (aS, .inr (6, [.ref aA, .int go, .int ak, .int be, .long bw, .int pt, .int ln, .ref aSo])), (aA, .inr (2, [.long fd, .int ct, .ref aK, .ref aG, .ref aO])), (aO, .inl (cI, 320, .inl fO)), (aM, .inr (4, [.int cnt, .int vec, .ref aMS, .ref aMC, .ref aMT]))] H := hP
    have hD : va_D A [(a0, .inr (0, [.ref aM, .ref aR, .ref aW, .ref aF, .ref aS, .ref aKR])), (aS, .inr (6, [.ref aA, .int go, .int ak, .int be, .long bw, .int pt, .int ln, .ref aSo])), (aA, .inr (2, [.long fd, .int ct, .ref aK, .ref aG, .ref aO])), (aO, .inl (cI, 320, .inl fO)), (aM, .inr (4, [.int cnt, .int vec, .ref aMS, .ref aMC, .ref aMT]))] := hD
    refine lv_if_ne (tgt := 36) hx hb d_SettingSearch_load_31 (by decide) (fun c_5 => ?_) (fun c_5 => ?_)
    · skip
      have ch := q_has_ne hw_4 c_5
      refine lv_aload_n hx hb d_SettingSearch_load_36 rfl (lv_at hl 0 rfl) ?_
      refine lv_aload_n hx hb d_SettingSearch_load_37 rfl (lv_at hl 1 rfl) ?_
      refine va_get (D := (dC, dI)) (ci := 0) (v := .ref aS) (C := R_SettingSearch) (T := T_SettingSearch) (N := 6) hx hb hts in_SettingSearch hown hK hP 0 rfl rfl 4 (by decide) (hts _ tw_183) (fun _ h9 => h9) rfl d_SettingSearch_load_38 ?_
      refine va_getN (D := (dC, dI)) (ci := 6) (v := .int ak) (C := R_Search) (T := T_Search) (N := 8) hx hb hts in_Search hown hK hP 1 rfl rfl 2 (by decide) (g_Nu hN (List.mem_of_getElem? (i := 9) rfl)) (fun _ h9 => h9) rfl d_SettingSearch_load_41 ?_
      refine lv_iload_n hx hb d_SettingSearch_load_44 rfl (lv_at hl 2 rfl) ?_
      refine lv_iload_n hx hb d_SettingSearch_load_45 rfl (lv_at hl 3 rfl) ?_
      have hPc := hP.sub (ws' := [(aA, .inr (2, [.long fd, .int ct, .ref aK, .ref aG, .ref aO])), (aO, .inl (cI, 320, .inl fO))]) [2, 3] rfl
      have hDc := hD.sub (ws' := [(aA, .inr (2, [.long fd, .int ct, .ref aK, .ref aG, .ref aO])), (aO, .inl (cI, 320, .inl fO))]) [2, 3] (by decide) rfl
      have hFc := va_free (wc := [(aA, .inr (2, [.long fd, .int ct, .ref aK, .ref aG, .ref aO])), (aO, .inl (cI, 320, .inl fO))]) hD hS hA [2, 3] rfl
      refine va_calli (va_runV (As := [.int ak, .int m1, .int x1]) (rest := []) ⟨hx, hb, hml, hown, hts⟩ (k_tl l dC dI H.size cI cZ cQ aA aK aG aO fd ct fO ak ak.toNatClampNeg m1 m1.toNatClampNeg x1 ((hak ca).1) ((hak ca).2) (ix_ge ch.1) (by have q := ix_lt ch.1 ch.2 hcnt (by omega); omega)) ⟨(callB_of 3 hts (ga_all tw_349) rfl rfl rfl (hts _ tw_27) (hts _ tw_346) (by decide +kernel) ⟨Nat.le_of_ble_eq_true rfl, Nat.le_of_ble_eq_true rfl⟩), hts _ tw_347, hts _ tw_348⟩ ⟨fun a U g mk q => by obtain ⟨q0, q1, qP, qK, qD⟩ := q; exact ⟨q0, q1, qP, g_K.same (u := U) (U := U.calling g mk a) rfl qK, qD⟩, va_recv hK hPc (ci := 2) (q0 := 0) rfl rfl, fun U hU hW => ⟨rfl, by rw [hU], by rw [hU]; exact hPc, g_K.warm hW hKN, hDc.weaken (fun _ _ _ _ => trivial)⟩⟩ rfl rfl hl.1 rfl (lv_room (Nat.le_of_ble_eq_true rfl)) d_SettingSearch_load_46 ⟨Nat.le_of_ble_eq_true rfl, Nat.le_of_ble_eq_true rfl⟩) hS (fun q _ h => hFc q h) hFc (fun r_6 u t H1 locs htt hvm hw_7 hBB hzz hkk hS => ?_)
      obtain ⟨fO2_8, rfl⟩ : ∃ z, z = u := ⟨_, rfl⟩
      have hw_7 : ((¬ x1 < 0 ∧ x1 ≤ 1000000) ∧ r_6 = 1 ∧ fO2_8 = upd fO (ak.toNatClampNeg * 5 + m1.toNatClampNeg) x1) ∨ (¬ (¬ x1 < 0 ∧ x1 ≤ 1000000) ∧ r_6 = 0 ∧ fO2_8 = fO) := hw_7
      obtain ⟨hPP, hDD⟩ := hBB
      rw [htt] at hPP
      have hPP : va_P (dC, dI) vw_cls [(aA, .inr (2, [.long fd, .int ct, .ref aK, .ref aG, .ref aO])), (aO, .inl (cI, 320, .inl fO2_8))] H1 := hPP
      have hDD : va_D (va_A [(aA, .inr (2, [.long fd, .int ct, .ref aK, .ref aG, .ref aO])), (aO, .inl (cI, 320, .inl fO))] H.size) [(aA, .inr (2, [.long fd, .int ct, .ref aK, .ref aG, .ref aO])), (aO, .inl (cI, 320, .inl fO2_8))] := hDD
      obtain ⟨hP, hD⟩ := va_join (wr := [(a0, .inr (0, [.ref aM, .ref aR, .ref aW, .ref aF, .ref aS, .ref aKR])), (aS, .inr (6, [.ref aA, .int go, .int ak, .int be, .long bw, .int pt, .int ln, .ref aSo])), (aM, .inr (4, [.int cnt, .int vec, .ref aMS, .ref aMC, .ref aMT]))]) (w1 := [(aA, .inr (2, [.long fd, .int ct, .ref aK, .ref aG, .ref aO])), (aO, .inl (cI, 320, .inl fO2_8))]) hP hD [2, 3] [0, 1, 4] rfl rfl (by decide) (by decide) hkk hFc hPP hDD
      generalize H1 = H at hP hS ⊢
      have hP : va_P (dC, dI) vw_cls [(a0, .inr (0, [.ref aM, .ref aR, .ref aW, .ref aF, .ref aS, .ref aKR])), (aS, .inr (6, [.ref aA, .int go, .int ak, .int be, .long bw, .int pt, .int ln, .ref aSo])), (aM, .inr (4, [.int cnt, .int vec, .ref aMS, .ref aMC, .ref aMT])), (aA, .inr (2, [.long fd, .int ct, .ref aK, .ref aG, .ref aO])), (aO, .inl (cI, 320, .inl fO2_8))] H := hP
      have hD : va_D A [(a0, .inr (0, [.ref aM, .ref aR, .ref aW, .ref aF, .ref aS, .ref aKR])), (aS, .inr (6, [.ref aA, .int go, .int ak, .int be, .long bw, .int pt, .int ln, .ref aSo])), (aM, .inr (4, [.int cnt, .int vec, .ref aMS, .ref aMC, .ref aMT])), (aA, .inr (2, [.long fd, .int ct, .ref aK, .ref aG, .ref aO])), (aO, .inl (cI, 320, .inl fO2_8))] := hD
      have hP9 := hP.sub (ws' := [(a0, .inr (0, [.ref aM, .ref aR, .ref aW, .ref aF, .ref aS, .ref aKR])), (aS, .inr (6, [.ref aA, .int go, .int ak, .int be, .long bw, .int pt, .int ln, .ref aSo])), (aM, .inr (4, [.int cnt, .int vec, .ref aMS, .ref aMC, .ref aMT])), (aA, .inr (2, [.long fd, .int ct, .ref aK, .ref aG, .ref aO])), (aO, .inl (cI, 320, .inl fO2_8))]) [0, 1, 2, 3, 4] rfl
      have hD9 := hD.sub (ws' := [(a0, .inr (0, [.ref aM, .ref aR, .ref aW, .ref aF, .ref aS, .ref aKR])), (aS, .inr (6, [.ref aA, .int go, .int ak, .int be, .long bw, .int pt, .int ln, .ref aSo])), (aM, .inr (4, [.int cnt, .int vec, .ref aMS, .ref aMC, .ref aMT])), (aA, .inr (2, [.long fd, .int ct, .ref aK, .ref aG, .ref aO])), (aO, .inl (cI, 320, .inl fO2_8))]) [0, 1, 2, 3, 4] (by decide) rfl
      have hpost_9 : (¬ ak = -1 ∧ ¬ m1 < 0 ∧ ¬ cnt ≤ m1 ∧ (((¬ x1 < 0 ∧ x1 ≤ 1000000) ∧ (r_6 : Int32) = 1 ∧ fO2_8 = upd fO (ak.toNatClampNeg * 5 + m1.toNatClampNeg) x1) ∨ (¬ (¬ x1 < 0 ∧ x1 ≤ 1000000) ∧ (r_6 : Int32) = 0 ∧ fO2_8 = fO))) ∨ ((ak = -1 ∨ m1 < 0 ∨ cnt ≤ m1) ∧ (r_6 : Int32) = 0 ∧ fO2_8 = fO) := Or.inl ⟨ca, ch.1, ch.2, hw_7⟩
      exact W.zret (v := r_6) hx hb hr (nz01 (hw_7.elim (fun z => Or.inr z.2.1) (fun z => Or.inl z.2.1))) (fun t ht hW => ⟨⟨r_6, fO2_8, rfl, hpost_9, by rw [ht]; exact hP9, hD9⟩, hS.F ht⟩) hS.2.2 d_SettingSearch_load_49
    · skip
      have cq : ak = -1 ∨ m1 < 0 ∨ cnt ≤ m1 := Or.inr (q_has_eq hw_4 c_5)
      refine lv_iconst (v := 0) hx hb d_SettingSearch_load_34 (by decide) ?_
      have hP9 := hP.sub (ws' := [(a0, .inr (0, [.ref aM, .ref aR, .ref aW, .ref aF, .ref aS, .ref aKR])), (aS, .inr (6, [.ref aA, .int go, .int ak, .int be, .long bw, .int pt, .int ln, .ref aSo])), (aM, .inr (4, [.int cnt, .int vec, .ref aMS, .ref aMC, .ref aMT])), (aA, .inr (2, [.long fd, .int ct, .ref aK, .ref aG, .ref aO])), (aO, .inl (cI, 320, .inl fO))]) [0, 1, 4, 2, 3] rfl
      have hD9 := hD.sub (ws' := [(a0, .inr (0, [.ref aM, .ref aR, .ref aW, .ref aF, .ref aS, .ref aKR])), (aS, .inr (6, [.ref aA, .int go, .int ak, .int be, .long bw, .int pt, .int ln, .ref aSo])), (aM, .inr (4, [.int cnt, .int vec, .ref aMS, .ref aMC, .ref aMT])), (aA, .inr (2, [.long fd, .int ct, .ref aK, .ref aG, .ref aO])), (aO, .inl (cI, 320, .inl fO))]) [0, 1, 4, 2, 3] (by decide) rfl
      have hpost_10 : (¬ ak = -1 ∧ ¬ m1 < 0 ∧ ¬ cnt ≤ m1 ∧ (((¬ x1 < 0 ∧ x1 ≤ 1000000) ∧ (0 : Int32) = 1 ∧ fO = upd fO (ak.toNatClampNeg * 5 + m1.toNatClampNeg) x1) ∨ (¬ (¬ x1 < 0 ∧ x1 ≤ 1000000) ∧ (0 : Int32) = 0 ∧ fO = fO))) ∨ ((ak = -1 ∨ m1 < 0 ∨ cnt ≤ m1) ∧ (0 : Int32) = 0 ∧ fO = fO) := Or.inr ⟨cq, rfl, rfl⟩
      exact W.zret (v := 0) hx hb hr (rfl) (fun t ht hW => ⟨⟨0, fO, rfl, hpost_10, by rw [ht]; exact hP9, hD9⟩, hS.F ht⟩) hS.2.2 d_SettingSearch_load_35
