set_option maxHeartbeats 4000000 in
set_option maxRecDepth 100000 in
/-- next, the plain case -/
theorem f_next_0 (l : Launch) (dC : Nat → ClassId) (dI : Nat → Nat → Nat) (sz : Nat) (cI : ClassId) (cZ : ClassId) (cQ : ClassId) (a0 : Nat) (aM : Nat) (aR : Nat) (aW : Nat) (aF : Nat) (aS : Nat) (aKR : Nat) (aSo : Nat) (go : Int32) (ak : Int32) (be : Int32) (bw : Int64) (pt : Int32) (ln : Int32) (aA : Nat) (hgo : go = 0) : Met l y_SettingSearch_next w_SettingSearch_next ({ frames := 6, cells := 0, slots := 0, locals := 143 } : Room) (va_Pc [.ref a0] (fun U => U.heap.size = sz ∧ va_P (dC, dI) vw_cls [(a0, .inr (0, [.ref aM, .ref aR, .ref aW, .ref aF, .ref aS, .ref aKR])), (aS, .inr (6, [.ref aA, .int go, .int ak, .int be, .long bw, .int pt, .int ln, .ref aSo]))] U.heap ∧ g_K dC dI [(cI, .int), (cZ, .boolean), (cQ, (.object "SettingSearch$Answers"))] U ∧ va_D (fun _ => True) [(a0, .inr (0, [.ref aM, .ref aR, .ref aW, .ref aF, .ref aS, .ref aKR])), (aS, .inr (6, [.ref aA, .int go, .int ak, .int be, .long bw, .int pt, .int ln, .ref aSo]))])) (va_Qi (fun (r : Int32) (u : Unit) => r = -1) (fun (u : Unit) (t : State) => va_P (dC, dI) vw_cls [(a0, .inr (0, [.ref aM, .ref aR, .ref aW, .ref aF, .ref aS, .ref aKR])), (aS, .inr (6, [.ref aA, .int go, .int ak, .int be, .long bw, .int pt, .int ln, .ref aSo]))] t.heap ∧ va_D (va_A [(a0, .inr (0, [.ref aM, .ref aR, .ref aW, .ref aF, .ref aS, .ref aKR])), (aS, .inr (6, [.ref aA, .int go, .int ak, .int be, .long bw, .int pt, .int ln, .ref aSo]))] sz) [(a0, .inr (0, [.ref aM, .ref aR, .ref aW, .ref aF, .ref aS, .ref aKR])), (aS, .inr (6, [.ref aA, .int go, .int ak, .int be, .long bw, .int pt, .int ln, .ref aSo]))]) (va_A [(a0, .inr (0, [.ref aM, .ref aR, .ref aW, .ref aF, .ref aS, .ref aKR])), (aS, .inr (6, [.ref aA, .int go, .int ak, .int be, .long bw, .int pt, .int ln, .ref aSo]))] sz)) 0 0 (va_A [(a0, .inr (0, [.ref aM, .ref aR, .ref aW, .ref aF, .ref aS, .ref aKR])), (aS, .inr (6, [.ref aA, .int go, .int ak, .int be, .long bw, .int pt, .int ln, .ref aSo]))] sz) := by
  refine Met.ofW (cc := b_SettingSearch_next) (maxL := 2) (ret := (some .int)) (by decide) rfl ?_
  intro p e s m args below meth c s₁ B hml hv
  obtain ⟨rfl, hsz, hP, hKN, hD0⟩ := hv
  obtain ⟨hK, hN⟩ := id hKN
  have hx := B.exec
  have hb := B.bytes
  have hr := B.returns
  have hts0 := atoms_spec (ws := w_SettingSearch_next) B.pre
  have hts : ∀ w ∈ lw_g, w.before _ s = true := fun w h => hts0 w (List.mem_cons_of_mem _ h)
  have hown : s.vm.findClass R_SettingSearch = some m.cls := findClass_of_methodNamed B.named
  have hlocks := B.notSynchronized
  subst hsz
  have hD := hD0.self (sz := s.heap.size)
  generalize hAe : va_A [(a0, .inr (0, [.ref aM, .ref aR, .ref aW, .ref aF, .ref aS, .ref aKR])), (aS, .inr (6, [.ref aA, .int go, .int ak, .int be, .long bw, .int pt, .int ln, .ref aSo]))] s.heap.size = A at hD ⊢
  have hA : ∀ q : Nat, s.heap.size ≤ q → A q := fun q h => by rw [← hAe]; exact Or.inr h
  have hP : va_P (dC, dI) vw_cls [(a0, .inr (0, [.ref aM, .ref aR, .ref aW, .ref aF, .ref aS, .ref aKR])), (aS, .inr (6, [.ref aA, .int go, .int ak, .int be, .long bw, .int pt, .int ln, .ref aSo]))] s.heap := hP
  have hl := lv_entry ([.ref a0]) (n := 2) (Nat.le_of_ble_eq_true rfl)
  rw [lg_entry_eq]
  generalize (lg_sl ([.ref a0]) ++ List.replicate (2 - (lg_sl ([.ref a0])).length) Slot.unset).toArray = ls at hl ⊢
  have hl : lv_has ls 2 [(0, .ref a0)] := hl
  refine gw_start (fun H locs hH hlocs => ?_)
  rw [← hH] at hP
  have hS : va_S A s.heap H locs := by rw [hH, hlocs]; exact va_S.rf
  refine lv_aload_n hx hb d_SettingSearch_next_0 rfl (lv_at hl 0 rfl) ?_
  refine va_get (D := (dC, dI)) (ci := 0) (v := .ref aS) (C := R_SettingSearch) (T := T_SettingSearch) (N := 6) hx hb hts in_SettingSearch hown hK hP 0 rfl rfl 4 (by decide) (hts _ tw_183) (fun _ h9 => h9) rfl d_SettingSearch_next_1 ?_
  refine va_getN (D := (dC, dI)) (ci := 6) (v := .ref aA) (C := R_Search) (T := T_Search) (N := 8) hx hb hts in_Search hown hK hP 1 rfl rfl 0 (by decide) (g_Nu hN (List.mem_of_getElem? (i := 7) rfl)) (fun _ h9 => h9) rfl d_SettingSearch_next_4 ?_
  refine lv_astore_n (lv' := [(1, .ref aA), (0, .ref a0)]) hx hb d_SettingSearch_next_7 rfl hl (by decide) rfl (fun ls hl => ?_)
  refine lv_aload_n hx hb d_SettingSearch_next_8 rfl (lv_at hl 1 rfl) ?_
  refine va_get (D := (dC, dI)) (ci := 0) (v := .ref aS) (C := R_SettingSearch) (T := T_SettingSearch) (N := 6) hx hb hts in_SettingSearch hown hK hP 0 rfl rfl 4 (by decide) (hts _ tw_183) (fun _ h9 => h9) rfl d_SettingSearch_next_9 ?_
  refine va_getN (D := (dC, dI)) (ci := 6) (v := .int go) (C := R_Search) (T := T_Search) (N := 8) hx hb hts in_Search hown hK hP 1 rfl rfl 1 (by decide) (g_Nu hN (List.mem_of_getElem? (i := 8) rfl)) (fun _ h9 => h9) rfl d_SettingSearch_next_12 ?_
  refine lv_if_eq (tgt := 22) hx hb d_SettingSearch_next_15 (by decide) (fun c_1 => ?_) (fun c_1 => ?_)
  · skip
    refine lv_iconst (v := (-1)) hx hb d_SettingSearch_next_22 (by decide) ?_
    have hP9 := hP.sub (ws' := [(a0, .inr (0, [.ref aM, .ref aR, .ref aW, .ref aF, .ref aS, .ref aKR])), (aS, .inr (6, [.ref aA, .int go, .int ak, .int be, .long bw, .int pt, .int ln, .ref aSo]))]) [0, 1] rfl
    have hD9 := hD.sub (ws' := [(a0, .inr (0, [.ref aM, .ref aR, .ref aW, .ref aF, .ref aS, .ref aKR])), (aS, .inr (6, [.ref aA, .int go, .int ak, .int be, .long bw, .int pt, .int ln, .ref aSo]))]) [0, 1] (by decide) rfl
    have hpost_2 : ((-1) : Int32) = -1 := rfl
    exact W.iret (v := (-1)) hx hb hr (fun t ht hW => ⟨⟨(-1), (), rfl, hpost_2, by rw [ht]; exact hP9, hD9⟩, hS.F ht⟩) hS.2.2 d_SettingSearch_next_23
  · skip
    exact absurd hgo c_1
set_option maxHeartbeats 4000000 in
set_option maxRecDepth 100000 in
/-- clash, the plain case -/
theorem f_clash_g (l : Launch) (dC : Nat → ClassId) (dI : Nat → Nat → Nat) (sz : Nat) (cI : ClassId) (cZ : ClassId) (cQ : ClassId) (a0 : Nat) (aM : Nat) (aR : Nat) (aW : Nat) (aF : Nat) (aS : Nat) (aKR : Nat) (aSo : Nat) (go : Int32) (ak : Int32) (be : Int32) (bw : Int64) (pt : Int32) (ln : Int32) (aA : Nat) (k1 : Int32) (hgo : ¬ go = 0) : Met l y_SettingSearch_clash w_SettingSearch_clash ({ frames := 6, cells := 0, slots := 0, locals := 143 } : Room) (va_Pc [.ref a0, .int k1] (fun U => U.heap.size = sz ∧ va_P (dC, dI) vw_cls [(a0, .inr (0, [.ref aM, .ref aR, .ref aW, .ref aF, .ref aS, .ref aKR])), (aS, .inr (6, [.ref aA, .int go, .int ak, .int be, .long bw, .int pt, .int ln, .ref aSo]))] U.heap ∧ g_K dC dI [(cI, .int), (cZ, .boolean), (cQ, (.object "SettingSearch$Answers"))] U ∧ va_D (fun _ => True) [(a0, .inr (0, [.ref aM, .ref aR, .ref aW, .ref aF, .ref aS, .ref aKR])), (aS, .inr (6, [.ref aA, .int go, .int ak, .int be, .long bw, .int pt, .int ln, .ref aSo]))])) (va_Qi (fun (r : Int32) (u : Unit) => r = -1) (fun (u : Unit) (t : State) => va_P (dC, dI) vw_cls [(a0, .inr (0, [.ref aM, .ref aR, .ref aW, .ref aF, .ref aS, .ref aKR])), (aS, .inr (6, [.ref aA, .int go, .int ak, .int be, .long bw, .int pt, .int ln, .ref aSo]))] t.heap ∧ va_D (va_A [(a0, .inr (0, [.ref aM, .ref aR, .ref aW, .ref aF, .ref aS, .ref aKR])), (aS, .inr (6, [.ref aA, .int go, .int ak, .int be, .long bw, .int pt, .int ln, .ref aSo]))] sz) [(a0, .inr (0, [.ref aM, .ref aR, .ref aW, .ref aF, .ref aS, .ref aKR])), (aS, .inr (6, [.ref aA, .int go, .int ak, .int be, .long bw, .int pt, .int ln, .ref aSo]))]) (va_A [(a0, .inr (0, [.ref aM, .ref aR, .ref aW, .ref aF, .ref aS, .ref aKR])), (aS, .inr (6, [.ref aA, .int go, .int ak, .int be, .long bw, .int pt, .int ln, .ref aSo]))] sz)) 0 0 (va_A [(a0, .inr (0, [.ref aM, .ref aR, .ref aW, .ref aF, .ref aS, .ref aKR])), (aS, .inr (6, [.ref aA, .int go, .int ak, .int be, .long bw, .int pt, .int ln, .ref aSo]))] sz) := by
  refine Met.ofW (cc := b_SettingSearch_clash) (maxL := 3) (ret := (some .int)) (by decide) rfl ?_
  intro p e s m args below meth c s₁ B hml hv
  obtain ⟨rfl, hsz, hP, hKN, hD0⟩ := hv
  obtain ⟨hK, hN⟩ := id hKN
  have hx := B.exec
  have hb := B.bytes
  have hr := B.returns
  have hts0 := atoms_spec (ws := w_SettingSearch_clash) B.pre
  have hts : ∀ w ∈ lw_g, w.before _ s = true := fun w h => hts0 w (List.mem_cons_of_mem _ h)
  have hown : s.vm.findClass R_SettingSearch = some m.cls := findClass_of_methodNamed B.named
  have hlocks := B.notSynchronized
  subst hsz
  have hD := hD0.self (sz := s.heap.size)
  generalize hAe : va_A [(a0, .inr (0, [.ref aM, .ref aR, .ref aW, .ref aF, .ref aS, .ref aKR])), (aS, .inr (6, [.ref aA, .int go, .int ak, .int be, .long bw, .int pt, .int ln, .ref aSo]))] s.heap.size = A at hD ⊢
  have hA : ∀ q : Nat, s.heap.size ≤ q → A q := fun q h => by rw [← hAe]; exact Or.inr h
  have hP : va_P (dC, dI) vw_cls [(a0, .inr (0, [.ref aM, .ref aR, .ref aW, .ref aF, .ref aS, .ref aKR])), (aS, .inr (6, [.ref aA, .int go, .int ak, .int be, .long bw, .int pt, .int ln, .ref aSo]))] s.heap := hP
  have hl := lv_entry ([.ref a0, .int k1]) (n := 3) (Nat.le_of_ble_eq_true rfl)
  rw [lg_entry_eq]
  generalize (lg_sl ([.ref a0, .int k1]) ++ List.replicate (3 - (lg_sl ([.ref a0, .int k1])).length) Slot.unset).toArray = ls at hl ⊢
  have hl : lv_has ls 3 [(0, .ref a0), (1, .int k1)] := hl
  refine gw_start (fun H locs hH hlocs => ?_)
  rw [← hH] at hP
  have hS : va_S A s.heap H locs := by rw [hH, hlocs]; exact va_S.rf
  refine lv_aload_n hx hb d_SettingSearch_clash_0 rfl (lv_at hl 0 rfl) ?_
  refine va_get (D := (dC, dI)) (ci := 0) (v := .ref aS) (C := R_SettingSearch) (T := T_SettingSearch) (N := 6) hx hb hts in_SettingSearch hown hK hP 0 rfl rfl 4 (by decide) (hts _ tw_183) (fun _ h9 => h9) rfl d_SettingSearch_clash_1 ?_
  refine va_getN (D := (dC, dI)) (ci := 6) (v := .ref aA) (C := R_Search) (T := T_Search) (N := 8) hx hb hts in_Search hown hK hP 1 rfl rfl 0 (by decide) (g_Nu hN (List.mem_of_getElem? (i := 7) rfl)) (fun _ h9 => h9) rfl d_SettingSearch_clash_4 ?_
  refine lv_astore_n (lv' := [(2, .ref aA), (0, .ref a0), (1, .int k1)]) hx hb d_SettingSearch_clash_7 rfl hl (by decide) rfl (fun ls hl => ?_)
  refine lv_aload_n hx hb d_SettingSearch_clash_8 rfl (lv_at hl 1 rfl) ?_
  refine va_get (D := (dC, dI)) (ci := 0) (v := .ref aS) (C := R_SettingSearch) (T := T_SettingSearch) (N := 6) hx hb hts in_SettingSearch hown hK hP 0 rfl rfl 4 (by decide) (hts _ tw_183) (fun _ h9 => h9) rfl d_SettingSearch_clash_9 ?_
  refine va_getN (D := (dC, dI)) (ci := 6) (v := .int go) (C := R_Search) (T := T_Search) (N := 8) hx hb hts in_Search hown hK hP 1 rfl rfl 1 (by decide) (g_Nu hN (List.mem_of_getElem? (i := 8) rfl)) (fun _ h9 => h9) rfl d_SettingSearch_clash_12 ?_
  refine lv_if_ne (tgt := 22) hx hb d_SettingSearch_clash_15 (by decide) (fun c_1 => ?_) (fun c_1 => ?_)
  · skip
    refine lv_iconst (v := (-1)) hx hb d_SettingSearch_clash_22 (by decide) ?_
    have hP9 := hP.sub (ws' := [(a0, .inr (0, [.ref aM, .ref aR, .ref aW, .ref aF, .ref aS, .ref aKR])), (aS, .inr (6, [.ref aA, .int go, .int ak, .int be, .long bw, .int pt, .int ln, .ref aSo]))]) [0, 1] rfl
    have hD9 := hD.sub (ws' := [(a0, .inr (0, [.ref aM, .ref aR, .ref aW, .ref aF, .ref aS, .ref aKR])), (aS, .inr (6, [.ref aA, .int go, .int ak, .int be, .long bw, .int pt, .int ln, .ref aSo]))]) [0, 1] (by decide) rfl
    have hpost_2 : ((-1) : Int32) = -1 := rfl
    exact W.iret (v := (-1)) hx hb hr (fun t ht hW => ⟨⟨(-1), (), rfl, hpost_2, by rw [ht]; exact hP9, hD9⟩, hS.F ht⟩) hS.2.2 d_SettingSearch_clash_23
  · skip
    exact absurd c_1 hgo
set_option maxHeartbeats 4000000 in
set_option maxRecDepth 100000 in
/-- room, the plain case -/
theorem f_room_g (l : Launch) (dC : Nat → ClassId) (dI : Nat → Nat → Nat) (sz : Nat) (cI : ClassId) (cZ : ClassId) (cQ : ClassId) (a0 : Nat) (aM : Nat) (aR : Nat) (aW : Nat) (aF : Nat) (aS : Nat) (aKR : Nat) (aSo : Nat) (go : Int32) (ak : Int32) (be : Int32) (bw : Int64) (pt : Int32) (ln : Int32) (aA : Nat) (m1 : Int32) (hgo : ¬ go = 0) : Met l y_SettingSearch_room w_SettingSearch_room ({ frames := 5, cells := 0, slots := 0, locals := 119 } : Room) (va_Pc [.ref a0, .int m1] (fun U => U.heap.size = sz ∧ va_P (dC, dI) vw_cls [(a0, .inr (0, [.ref aM, .ref aR, .ref aW, .ref aF, .ref aS, .ref aKR])), (aS, .inr (6, [.ref aA, .int go, .int ak, .int be, .long bw, .int pt, .int ln, .ref aSo]))] U.heap ∧ g_K dC dI [(cI, .int), (cZ, .boolean), (cQ, (.object "SettingSearch$Answers"))] U ∧ va_D (fun _ => True) [(a0, .inr (0, [.ref aM, .ref aR, .ref aW, .ref aF, .ref aS, .ref aKR])), (aS, .inr (6, [.ref aA, .int go, .int ak, .int be, .long bw, .int pt, .int ln, .ref aSo]))])) (va_Ql (fun (r : Int64) (u : Unit) => r = (-9223372036854775808)) (fun (u : Unit) (t : State) => va_P (dC, dI) vw_cls [(a0, .inr (0, [.ref aM, .ref aR, .ref aW, .ref aF, .ref aS, .ref aKR])), (aS, .inr (6, [.ref aA, .int go, .int ak, .int be, .long bw, .int pt, .int ln, .ref aSo]))] t.heap ∧ va_D (va_A [(a0, .inr (0, [.ref aM, .ref aR, .ref aW, .ref aF, .ref aS, .ref aKR])), (aS, .inr (6, [.ref aA, .int go, .int ak, .int be, .long bw, .int pt, .int ln, .ref aSo]))] sz) [(a0, .inr (0, [.ref aM, .ref aR, .ref aW, .ref aF, .ref aS, .ref aKR])), (aS, .inr (6, [.ref aA, .int go, .int ak, .int be, .long bw, .int pt, .int ln, .ref aSo]))]) (va_A [(a0, .inr (0, [.ref aM, .ref aR, .ref aW, .ref aF, .ref aS, .ref aKR])), (aS, .inr (6, [.ref aA, .int go, .int ak, .int be, .long bw, .int pt, .int ln, .ref aSo]))] sz)) 0 0 (va_A [(a0, .inr (0, [.ref aM, .ref aR, .ref aW, .ref aF, .ref aS, .ref aKR])), (aS, .inr (6, [.ref aA, .int go, .int ak, .int be, .long bw, .int pt, .int ln, .ref aSo]))] sz) := by
  refine Met.ofW (cc := b_SettingSearch_room) (maxL := 6) (ret := (some .long)) (by decide) rfl ?_
  intro p e s m args below meth c s₁ B hml hv
  obtain ⟨rfl, hsz, hP, hKN, hD0⟩ := hv
  obtain ⟨hK, hN⟩ := id hKN
  have hx := B.exec
  have hb := B.bytes
  have hr := B.returns
  have hts0 := atoms_spec (ws := w_SettingSearch_room) B.pre
  have hts : ∀ w ∈ lw_g, w.before _ s = true := fun w h => hts0 w (List.mem_cons_of_mem _ h)
  have hown : s.vm.findClass R_SettingSearch = some m.cls := findClass_of_methodNamed B.named
  have hlocks := B.notSynchronized
  subst hsz
  have hD := hD0.self (sz := s.heap.size)
  generalize hAe : va_A [(a0, .inr (0, [.ref aM, .ref aR, .ref aW, .ref aF, .ref aS, .ref aKR])), (aS, .inr (6, [.ref aA, .int go, .int ak, .int be, .long bw, .int pt, .int ln, .ref aSo]))] s.heap.size = A at hD ⊢
  have hA : ∀ q : Nat, s.heap.size ≤ q → A q := fun q h => by rw [← hAe]; exact Or.inr h
  have hP : va_P (dC, dI) vw_cls [(a0, .inr (0, [.ref aM, .ref aR, .ref aW, .ref aF, .ref aS, .ref aKR])), (aS, .inr (6, [.ref aA, .int go, .int ak, .int be, .long bw, .int pt, .int ln, .ref aSo]))] s.heap := hP
  have hl := lv_entry ([.ref a0, .int m1]) (n := 6) (Nat.le_of_ble_eq_true rfl)
  rw [lg_entry_eq]
  generalize (lg_sl ([.ref a0, .int m1]) ++ List.replicate (6 - (lg_sl ([.ref a0, .int m1])).length) Slot.unset).toArray = ls at hl ⊢
  have hl : lv_has ls 6 [(0, .ref a0), (1, .int m1)] := hl
  refine gw_start (fun H locs hH hlocs => ?_)
  rw [← hH] at hP
  have hS : va_S A s.heap H locs := by rw [hH, hlocs]; exact va_S.rf
  refine lv_aload_n hx hb d_SettingSearch_room_0 rfl (lv_at hl 0 rfl) ?_
  refine va_get (D := (dC, dI)) (ci := 0) (v := .ref aS) (C := R_SettingSearch) (T := T_SettingSearch) (N := 6) hx hb hts in_SettingSearch hown hK hP 0 rfl rfl 4 (by decide) (hts _ tw_183) (fun _ h9 => h9) rfl d_SettingSearch_room_1 ?_
  refine va_getN (D := (dC, dI)) (ci := 6) (v := .ref aA) (C := R_Search) (T := T_Search) (N := 8) hx hb hts in_Search hown hK hP 1 rfl rfl 0 (by decide) (g_Nu hN (List.mem_of_getElem? (i := 7) rfl)) (fun _ h9 => h9) rfl d_SettingSearch_room_4 ?_
  refine lv_astore_n (lv' := [(2, .ref aA), (0, .ref a0), (1, .int m1)]) hx hb d_SettingSearch_room_7 rfl hl (by decide) rfl (fun ls hl => ?_)
  refine lv_aload_n hx hb d_SettingSearch_room_8 rfl (lv_at hl 1 rfl) ?_
  refine va_get (D := (dC, dI)) (ci := 0) (v := .ref aS) (C := R_SettingSearch) (T := T_SettingSearch) (N := 6) hx hb hts in_SettingSearch hown hK hP 0 rfl rfl 4 (by decide) (hts _ tw_183) (fun _ h9 => h9) rfl d_SettingSearch_room_9 ?_
  refine va_getN (D := (dC, dI)) (ci := 6) (v := .int go) (C := R_Search) (T := T_Search) (N := 8) hx hb hts in_Search hown hK hP 1 rfl rfl 1 (by decide) (g_Nu hN (List.mem_of_getElem? (i := 8) rfl)) (fun _ h9 => h9) rfl d_SettingSearch_room_12 ?_
  refine lv_if_ne (tgt := 33) hx hb d_SettingSearch_room_15 (by decide) (fun c_1 => ?_) (fun c_1 => ?_)
  · skip
    refine lv_ldc2 (v := (-9223372036854775808)) hx hb hown (hts _ tw_415) d_SettingSearch_room_33 ?_
    have hP9 := hP.sub (ws' := [(a0, .inr (0, [.ref aM, .ref aR, .ref aW, .ref aF, .ref aS, .ref aKR])), (aS, .inr (6, [.ref aA, .int go, .int ak, .int be, .long bw, .int pt, .int ln, .ref aSo]))]) [0, 1] rfl
    have hD9 := hD.sub (ws' := [(a0, .inr (0, [.ref aM, .ref aR, .ref aW, .ref aF, .ref aS, .ref aKR])), (aS, .inr (6, [.ref aA, .int go, .int ak, .int be, .long bw, .int pt, .int ln, .ref aSo]))]) [0, 1] (by decide) rfl
    have hpost_2 : ((-9223372036854775808) : Int64) = (-9223372036854775808) := rfl
    exact W.lret (v := (-9223372036854775808)) hx hb hr (fun t ht hW => ⟨⟨(-9223372036854775808), (), rfl, hpost_2, by rw [ht]; exact hP9, hD9⟩, hS.F ht⟩) hS.2.2 d_SettingSearch_room_36
  · skip
    exact absurd c_1 hgo
set_option maxHeartbeats 4000000 in
set_option maxRecDepth 100000 in
/-- answer, the plain case -/
theorem f_answer_0 (l : Launch) (dC : Nat → ClassId) (dI : Nat → Nat → Nat) (sz : Nat) (cI : ClassId) (cZ : ClassId) (cQ : ClassId) (a0 : Nat) (aM : Nat) (aR : Nat) (aW : Nat) (aF : Nat) (aS : Nat) (aKR : Nat) (aSo : Nat) (go : Int32) (ak : Int32) (be : Int32) (bw : Int64) (pt : Int32) (ln : Int32) (aA : Nat) (p1 : Int32) (k1 : Int32) (a1 : Int64) (hak : ak = -1) : Met l y_SettingSearch_answer w_SettingSearch_answer ({ frames := 2, cells := 0, slots := 0, locals := 47 } : Room) (va_Pc [.ref a0, .int p1, .int k1, .long a1] (fun U => U.heap.size = sz ∧ va_P (dC, dI) vw_cls [(a0, .inr (0, [.ref aM, .ref aR, .ref aW, .ref aF, .ref aS, .ref aKR])), (aS, .inr (6, [.ref aA, .int go, .int ak, .int be, .long bw, .int pt, .int ln, .ref aSo]))] U.heap ∧ g_K dC dI [(cI, .int), (cZ, .boolean), (cQ, (.object "SettingSearch$Answers"))] U ∧ va_D (fun _ => True) [(a0, .inr (0, [.ref aM, .ref aR, .ref aW, .ref aF, .ref aS, .ref aKR])), (aS, .inr (6, [.ref aA, .int go, .int ak, .int be, .long bw, .int pt, .int ln, .ref aSo]))])) (va_Qi (fun (r : Int32) (u : Unit) => r = 0) (fun (u : Unit) (t : State) => va_P (dC, dI) vw_cls [(a0, .inr (0, [.ref aM, .ref aR, .ref aW, .ref aF, .ref aS, .ref aKR])), (aS, .inr (6, [.ref aA, .int go, .int ak, .int be, .long bw, .int pt, .int ln, .ref aSo]))] t.heap ∧ va_D (va_A [(a0, .inr (0, [.ref aM, .ref aR, .ref aW, .ref aF, .ref aS, .ref aKR])), (aS, .inr (6, [.ref aA, .int go, .int ak, .int be, .long bw, .int pt, .int ln, .ref aSo]))] sz) [(a0, .inr (0, [.ref aM, .ref aR, .ref aW, .ref aF, .ref aS, .ref aKR])), (aS, .inr (6, [.ref aA, .int go, .int ak, .int be, .long bw, .int pt, .int ln, .ref aSo]))]) (va_A [(a0, .inr (0, [.ref aM, .ref aR, .ref aW, .ref aF, .ref aS, .ref aKR])), (aS, .inr (6, [.ref aA, .int go, .int ak, .int be, .long bw, .int pt, .int ln, .ref aSo]))] sz)) 0 0 (va_A [(a0, .inr (0, [.ref aM, .ref aR, .ref aW, .ref aF, .ref aS, .ref aKR])), (aS, .inr (6, [.ref aA, .int go, .int ak, .int be, .long bw, .int pt, .int ln, .ref aSo]))] sz) := by
  refine Met.ofW (cc := b_SettingSearch_answer) (maxL := 7) (ret := (some .boolean)) (by decide) rfl ?_
  intro p e s m args below meth c s₁ B hml hv
  obtain ⟨rfl, hsz, hP, hKN, hD0⟩ := hv
  obtain ⟨hK, hN⟩ := id hKN
  have hx := B.exec
  have hb := B.bytes
  have hr := B.returns
  have hts0 := atoms_spec (ws := w_SettingSearch_answer) B.pre
  have hts : ∀ w ∈ lw_g, w.before _ s = true := fun w h => hts0 w (List.mem_cons_of_mem _ h)
  have hown : s.vm.findClass R_SettingSearch = some m.cls := findClass_of_methodNamed B.named
  have hlocks := B.notSynchronized
  subst hsz
  have hD := hD0.self (sz := s.heap.size)
  generalize hAe : va_A [(a0, .inr (0, [.ref aM, .ref aR, .ref aW, .ref aF, .ref aS, .ref aKR])), (aS, .inr (6, [.ref aA, .int go, .int ak, .int be, .long bw, .int pt, .int ln, .ref aSo]))] s.heap.size = A at hD ⊢
  have hA : ∀ q : Nat, s.heap.size ≤ q → A q := fun q h => by rw [← hAe]; exact Or.inr h
  have hP : va_P (dC, dI) vw_cls [(a0, .inr (0, [.ref aM, .ref aR, .ref aW, .ref aF, .ref aS, .ref aKR])), (aS, .inr (6, [.ref aA, .int go, .int ak, .int be, .long bw, .int pt, .int ln, .ref aSo]))] s.heap := hP
  have hl := lv_entry ([.ref a0, .int p1, .int k1, .long a1]) (n := 7) (Nat.le_of_ble_eq_true rfl)
  rw [lg_entry_eq]
  generalize (lg_sl ([.ref a0, .int p1, .int k1, .long a1]) ++ List.replicate (7 - (lg_sl ([.ref a0, .int p1, .int k1, .long a1])).length) Slot.unset).toArray = ls at hl ⊢
  have hl : lv_has ls 7 [(0, .ref a0), (1, .int p1), (2, .int k1), (3, .long a1)] := hl
  refine gw_start (fun H locs hH hlocs => ?_)
  rw [← hH] at hP
  have hS : va_S A s.heap H locs := by rw [hH, hlocs]; exact va_S.rf
  refine lv_aload_n hx hb d_SettingSearch_answer_0 rfl (lv_at hl 0 rfl) ?_
  refine va_get (D := (dC, dI)) (ci := 0) (v := .ref aS) (C := R_SettingSearch) (T := T_SettingSearch) (N := 6) hx hb hts in_SettingSearch hown hK hP 0 rfl rfl 4 (by decide) (hts _ tw_183) (fun _ h9 => h9) rfl d_SettingSearch_answer_1 ?_
  refine va_getN (D := (dC, dI)) (ci := 6) (v := .ref aA) (C := R_Search) (T := T_Search) (N := 8) hx hb hts in_Search hown hK hP 1 rfl rfl 0 (by decide) (g_Nu hN (List.mem_of_getElem? (i := 7) rfl)) (fun _ h9 => h9) rfl d_SettingSearch_answer_4 ?_
  refine lv_astore (lv' := [(5, .ref aA), (0, .ref a0), (1, .int p1), (2, .int k1), (3, .long a1)]) hx hb d_SettingSearch_answer_7 hl (by decide) rfl (fun ls hl => ?_)
  refine lv_iload_n hx hb d_SettingSearch_answer_9 rfl (lv_at hl 2 rfl) ?_
  refine lv_iload_n hx hb d_SettingSearch_answer_10 rfl (lv_at hl 3 rfl) ?_
  have hPc := hP.sub (ws' := []) [] rfl
  have hDc := hD.sub (ws' := []) [] (by decide) rfl
  have hFc := va_free (wc := []) hD hS hA [] rfl
  refine va_calli (va_runS (As := [.int p1, .int k1]) (rest := []) ⟨hx, hb, hml, hown, hts⟩ (k_pl l dC dI H.size cI cZ cQ p1 k1 ) ⟨(callB_of 2 hts (ga_all tw_221) rfl rfl rfl (hts _ tw_22) (hts _ tw_219) (by decide +kernel) ⟨Nat.le_of_ble_eq_true rfl, Nat.le_of_ble_eq_true rfl⟩), hts _ tw_220⟩ ⟨fun a U g mk q => by obtain ⟨q0, q1, qP, qK, qD⟩ := q; exact ⟨q0, q1, qP, g_K.same (u := U) (U := U.calling g mk a) rfl qK, qD⟩, fun U hU hW => ⟨rfl, by rw [hU], by rw [hU]; exact hPc, g_K.warm hW hKN, hDc.weaken (fun _ _ _ _ => trivial)⟩⟩ rfl rfl hl.1 rfl (lv_room (Nat.le_of_ble_eq_true rfl)) d_SettingSearch_answer_11 ⟨Nat.le_of_ble_eq_true rfl, Nat.le_of_ble_eq_true rfl⟩) hS (fun q _ h => hFc q h) hFc (fun r_1 u t H1 locs htt hvm hw_2 hBB hzz hkk hS => ?_)
  have hw_2 : r_1 = q_pl p1 k1 := hw_2
  obtain ⟨hPP, hDD⟩ := hBB
  rw [htt] at hPP
  have hPP : va_P (dC, dI) vw_cls [] H1 := hPP
  have hDD : va_D (va_A [] H.size) [] := hDD
  obtain ⟨hP, hD⟩ := va_join (wr := [(a0, .inr (0, [.ref aM, .ref aR, .ref aW, .ref aF, .ref aS, .ref aKR])), (aS, .inr (6, [.ref aA, .int go, .int ak, .int be, .long bw, .int pt, .int ln, .ref aSo]))]) (w1 := []) hP hD [] [0, 1] rfl rfl (by decide) (by decide) hkk hFc hPP hDD
  generalize H1 = H at hP hS ⊢
  have hP : va_P (dC, dI) vw_cls [(a0, .inr (0, [.ref aM, .ref aR, .ref aW, .ref aF, .ref aS, .ref aKR])), (aS, .inr (6, [.ref aA, .int go, .int ak, .int be, .long bw, .int pt, .int ln, .ref aSo]))] H := hP
  have hD : va_D A [(a0, .inr (0, [.ref aM, .ref aR, .ref aW, .ref aF, .ref aS, .ref aKR])), (aS, .inr (6, [.ref aA, .int go, .int ak, .int be, .long bw, .int pt, .int ln, .ref aSo]))] := hD
  refine lv_istore (lv' := [(6, .int r_1), (5, .ref aA), (0, .ref a0), (1, .int p1), (2, .int k1), (3, .long a1)]) hx hb d_SettingSearch_answer_14 hl (by decide) rfl (fun ls hl => ?_)
  refine lv_aload_n hx hb d_SettingSearch_answer_16 rfl (lv_at hl 2 rfl) ?_
  refine va_get (D := (dC, dI)) (ci := 0) (v := .ref aS) (C := R_SettingSearch) (T := T_SettingSearch) (N := 6) hx hb hts in_SettingSearch hown hK hP 0 rfl rfl 4 (by decide) (hts _ tw_183) (fun _ h9 => h9) rfl d_SettingSearch_answer_17 ?_
  refine va_getN (D := (dC, dI)) (ci := 6) (v := .int ak) (C := R_Search) (T := T_Search) (N := 8) hx hb hts in_Search hown hK hP 1 rfl rfl 2 (by decide) (g_Nu hN (List.mem_of_getElem? (i := 9) rfl)) (fun _ h9 => h9) rfl d_SettingSearch_answer_20 ?_
  refine lv_iconst (v := (-1)) hx hb d_SettingSearch_answer_23 (by decide) ?_
  refine lv_icmp_eq (tgt := 38) hx hb d_SettingSearch_answer_24 (by decide) (fun c_3 => ?_) (fun c_3 => ?_)
  · skip
    refine lv_iconst (v := 0) hx hb d_SettingSearch_answer_38 (by decide) ?_
    have hP9 := hP.sub (ws' := [(a0, .inr (0, [.ref aM, .ref aR, .ref aW, .ref aF, .ref aS, .ref aKR])), (aS, .inr (6, [.ref aA, .int go, .int ak, .int be, .long bw, .int pt, .int ln, .ref aSo]))]) [0, 1] rfl
    have hD9 := hD.sub (ws' := [(a0, .inr (0, [.ref aM, .ref aR, .ref aW, .ref aF, .ref aS, .ref aKR])), (aS, .inr (6, [.ref aA, .int go, .int ak, .int be, .long bw, .int pt, .int ln, .ref aSo]))]) [0, 1] (by decide) rfl
    have hpost_4 : (0 : Int32) = 0 := rfl
    exact W.zret (v := 0) hx hb hr (rfl) (fun t ht hW => ⟨⟨0, (), rfl, hpost_4, by rw [ht]; exact hP9, hD9⟩, hS.F ht⟩) hS.2.2 d_SettingSearch_answer_39
  · skip
    exact absurd hak c_3
set_option maxHeartbeats 4000000 in
set_option maxRecDepth 100000 in
/-- load, the plain case -/
theorem f_load_0 (l : Launch) (dC : Nat → ClassId) (dI : Nat → Nat → Nat) (sz : Nat) (cI : ClassId) (cZ : ClassId) (cQ : ClassId) (a0 : Nat) (aM : Nat) (aR : Nat) (aW : Nat) (aF : Nat) (aS : Nat) (aKR : Nat) (aSo : Nat) (go : Int32) (ak : Int32) (be : Int32) (bw : Int64) (pt : Int32) (ln : Int32) (aA : Nat) (m1 : Int32) (x1 : Int32) (hak : ak = -1) : Met l y_SettingSearch_load w_SettingSearch_load ({ frames := 2, cells := 0, slots := 0, locals := 43 } : Room) (va_Pc [.ref a0, .int m1, .int x1] (fun U => U.heap.size = sz ∧ va_P (dC, dI) vw_cls [(a0, .inr (0, [.ref aM, .ref aR, .ref aW, .ref aF, .ref aS, .ref aKR])), (aS, .inr (6, [.ref aA, .int go, .int ak, .int be, .long bw, .int pt, .int ln, .ref aSo]))] U.heap ∧ g_K dC dI [(cI, .int), (cZ, .boolean), (cQ, (.object "SettingSearch$Answers"))] U ∧ va_D (fun _ => True) [(a0, .inr (0, [.ref aM, .ref aR, .ref aW, .ref aF, .ref aS, .ref aKR])), (aS, .inr (6, [.ref aA, .int go, .int ak, .int be, .long bw, .int pt, .int ln, .ref aSo]))])) (va_Qi (fun (r : Int32) (u : Unit) => r = 0) (fun (u : Unit) (t : State) => va_P (dC, dI) vw_cls [(a0, .inr (0, [.ref aM, .ref aR, .ref aW, .ref aF, .ref aS, .ref aKR])), (aS, .inr (6, [.ref aA, .int go, .int ak, .int be, .long bw, .int pt, .int ln, .ref aSo]))] t.heap ∧ va_D (va_A [(a0, .inr (0, [.ref aM, .ref aR, .ref aW, .ref aF, .ref aS, .ref aKR])), (aS, .inr (6, [.ref aA, .int go, .int ak, .int be, .long bw, .int pt, .int ln, .ref aSo]))] sz) [(a0, .inr (0, [.ref aM, .ref aR, .ref aW, .ref aF, .ref aS, .ref aKR])), (aS, .inr (6, [.ref aA, .int go, .int ak, .int be, .long bw, .int pt, .int ln, .ref aSo]))]) (va_A [(a0, .inr (0, [.ref aM, .ref aR, .ref aW, .ref aF, .ref aS, .ref aKR])), (aS, .inr (6, [.ref aA, .int go, .int ak, .int be, .long bw, .int pt, .int ln, .ref aSo]))] sz)) 0 0 (va_A [(a0, .inr (0, [.ref aM, .ref aR, .ref aW, .ref aF, .ref aS, .ref aKR])), (aS, .inr (6, [.ref aA, .int go, .int ak, .int be, .long bw, .int pt, .int ln, .ref aSo]))] sz) := by
  refine Met.ofW (cc := b_SettingSearch_load) (maxL := 4) (ret := (some .boolean)) (by decide) rfl ?_
  intro p e s m args below meth c s₁ B hml hv
  obtain ⟨rfl, hsz, hP, hKN, hD0⟩ := hv
  obtain ⟨hK, hN⟩ := id hKN
  have hx := B.exec
  have hb := B.bytes
  have hr := B.returns
  have hts0 := atoms_spec (ws := w_SettingSearch_load) B.pre
  have hts : ∀ w ∈ lw_g, w.before _ s = true := fun w h => hts0 w (List.mem_cons_of_mem _ h)
  have hown : s.vm.findClass R_SettingSearch = some m.cls := findClass_of_methodNamed B.named
  have hlocks := B.notSynchronized
  subst hsz
  have hD := hD0.self (sz := s.heap.size)
  generalize hAe : va_A [(a0, .inr (0, [.ref aM, .ref aR, .ref aW, .ref aF, .ref aS, .ref aKR])), (aS, .inr (6, [.ref aA, .int go, .int ak, .int be, .long bw, .int pt, .int ln, .ref aSo]))] s.heap.size = A at hD ⊢
  have hA : ∀ q : Nat, s.heap.size ≤ q → A q := fun q h => by rw [← hAe]; exact Or.inr h
  have hP : va_P (dC, dI) vw_cls [(a0, .inr (0, [.ref aM, .ref aR, .ref aW, .ref aF, .ref aS, .ref aKR])), (aS, .inr (6, [.ref aA, .int go, .int ak, .int be, .long bw, .int pt, .int ln, .ref aSo]))] s.heap := hP
  have hl := lv_entry ([.ref a0, .int m1, .int x1]) (n := 4) (Nat.le_of_ble_eq_true rfl)
  rw [lg_entry_eq]
  generalize (lg_sl ([.ref a0, .int m1, .int x1]) ++ List.replicate (4 - (lg_sl ([.ref a0, .int m1, .int x1])).length) Slot.unset).toArray = ls at hl ⊢
  have hl : lv_has ls 4 [(0, .ref a0), (1, .int m1), (2, .int x1)] := hl
  refine gw_start (fun H locs hH hlocs => ?_)
  rw [← hH] at hP
  have hS : va_S A s.heap H locs := by rw [hH, hlocs]; exact va_S.rf
  refine lv_aload_n hx hb d_SettingSearch_load_0 rfl (lv_at hl 0 rfl) ?_
  refine va_get (D := (dC, dI)) (ci := 0) (v := .ref aS) (C := R_SettingSearch) (T := T_SettingSearch) (N := 6) hx hb hts in_SettingSearch hown hK hP 0 rfl rfl 4 (by decide) (hts _ tw_183) (fun _ h9 => h9) rfl d_SettingSearch_load_1 ?_
  refine va_getN (D := (dC, dI)) (ci := 6) (v := .ref aA) (C := R_Search) (T := T_Search) (N := 8) hx hb hts in_Search hown hK hP 1 rfl rfl 0 (by decide) (g_Nu hN (List.mem_of_getElem? (i := 7) rfl)) (fun _ h9 => h9) rfl d_SettingSearch_load_4 ?_
  refine lv_astore_n (lv' := [(3, .ref aA), (0, .ref a0), (1, .int m1), (2, .int x1)]) hx hb d_SettingSearch_load_7 rfl hl (by decide) rfl (fun ls hl => ?_)
  refine lv_aload_n hx hb d_SettingSearch_load_8 rfl (lv_at hl 1 rfl) ?_
  refine va_get (D := (dC, dI)) (ci := 0) (v := .ref aS) (C := R_SettingSearch) (T := T_SettingSearch) (N := 6) hx hb hts in_SettingSearch hown hK hP 0 rfl rfl 4 (by decide) (hts _ tw_183) (fun _ h9 => h9) rfl d_SettingSearch_load_9 ?_
  refine va_getN (D := (dC, dI)) (ci := 6) (v := .int ak) (C := R_Search) (T := T_Search) (N := 8) hx hb hts in_Search hown hK hP 1 rfl rfl 2 (by decide) (g_Nu hN (List.mem_of_getElem? (i := 9) rfl)) (fun _ h9 => h9) rfl d_SettingSearch_load_12 ?_
  refine lv_iconst (v := (-1)) hx hb d_SettingSearch_load_15 (by decide) ?_
  refine lv_icmp_eq (tgt := 34) hx hb d_SettingSearch_load_16 (by decide) (fun c_1 => ?_) (fun c_1 => ?_)
  · skip
    refine lv_iconst (v := 0) hx hb d_SettingSearch_load_34 (by decide) ?_
    have hP9 := hP.sub (ws' := [(a0, .inr (0, [.ref aM, .ref aR, .ref aW, .ref aF, .ref aS, .ref aKR])), (aS, .inr (6, [.ref aA, .int go, .int ak, .int be, .long bw, .int pt, .int ln, .ref aSo]))]) [0, 1] rfl
    have hD9 := hD.sub (ws' := [(a0, .inr (0, [.ref aM, .ref aR, .ref aW, .ref aF, .ref aS, .ref aKR])), (aS, .inr (6, [.ref aA, .int go, .int ak, .int be, .long bw, .int pt, .int ln, .ref aSo]))]) [0, 1] (by decide) rfl
    have hpost_2 : (0 : Int32) = 0 := rfl
    exact W.zret (v := 0) hx hb hr (rfl) (fun t ht hW => ⟨⟨0, (), rfl, hpost_2, by rw [ht]; exact hP9, hD9⟩, hS.F ht⟩) hS.2.2 d_SettingSearch_load_35
  · skip
    exact absurd hak c_1
