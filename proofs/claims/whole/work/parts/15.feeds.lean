def q_4 {α : Type} (a b c d : α) : Nat → α := fun k => match k with
  | 0 => a
  | 1 => b
  | 2 => c
  | _ => d
def q_find (us : Int32) (a b c d g : Int64) : Option Nat := if us ≤ 0 then none else if a = g then some 0 else if us ≤ 1 then none else if b = g then some 1 else if us ≤ 2 then none else if c = g then some 2 else if us ≤ 3 then none else if d = g then some 3 else none
theorem q_find_c (us : Int32) (a b c d g : Int64) : q_find us a b c d g = none ∨ q_find us a b c d g = some 0 ∨ q_find us a b c d g = some 1 ∨ q_find us a b c d g = some 2 ∨ q_find us a b c d g = some 3 := by
  unfold q_find
  repeat' (split; · simp)
  simp
set_option maxHeartbeats 4000000 in
set_option maxRecDepth 100000 in
/-- Feeds.forget -/
theorem k_ffo (l : Launch) (dC : Nat → ClassId) (dI : Nat → Nat → Nat) (sz : Nat) (cI : ClassId) (cZ : ClassId) (cQ : ClassId) (aF : Nat) (aFr : Nat) (us : Int32)  : Met l y_Feeds_forget w_Feeds_forget ({ frames := 0, cells := 0, slots := 0, locals := 0 } : Room) (va_Pc [.ref aF] (fun U => U.heap.size = sz ∧ va_P (dC, dI) vw_cls [(aF, .inr (3, [.int us, .ref aFr]))] U.heap ∧ g_K dC dI [(cI, .int), (cZ, .boolean), (cQ, (.object "SettingSearch$Answers"))] U ∧ va_D (fun _ => True) [(aF, .inr (3, [.int us, .ref aFr]))])) (va_Qv (fun (u : Unit) => True) (fun (u : Unit) (t : State) => va_P (dC, dI) vw_cls [(aF, .inr (3, [.int 0, .ref aFr]))] t.heap ∧ va_D (va_A [(aF, .inr (3, [.int us, .ref aFr]))] sz) [(aF, .inr (3, [.int 0, .ref aFr]))]) (va_A [(aF, .inr (3, [.int us, .ref aFr]))] sz)) 0 0 (va_A [(aF, .inr (3, [.int us, .ref aFr]))] sz) := by
  refine Met.ofW (cc := b_Feeds_forget) (maxL := 1) (ret := none) (by decide) rfl ?_
  intro p e s m args below meth c s₁ B hml hv
  obtain ⟨rfl, hsz, hP, hKN, hD0⟩ := hv
  obtain ⟨hK, hN⟩ := id hKN
  have hx := B.exec
  have hb := B.bytes
  have hr := B.returns
  have hts0 := atoms_spec (ws := w_Feeds_forget) B.pre
  have hts : ∀ w ∈ lw_g, w.before _ s = true := fun w h => hts0 w (List.mem_cons_of_mem _ h)
  have hown : s.vm.findClass R_Feeds = some m.cls := findClass_of_methodNamed B.named
  have hlocks := B.notSynchronized
  subst hsz
  have hD := hD0.self (sz := s.heap.size)
  generalize hAe : va_A [(aF, .inr (3, [.int us, .ref aFr]))] s.heap.size = A at hD ⊢
  have hA : ∀ q : Nat, s.heap.size ≤ q → A q := fun q h => by rw [← hAe]; exact Or.inr h
  have hP : va_P (dC, dI) vw_cls [(aF, .inr (3, [.int us, .ref aFr]))] s.heap := hP
  have hl := lv_entry ([.ref aF]) (n := 1) (Nat.le_of_ble_eq_true rfl)
  rw [lg_entry_eq]
  generalize (lg_sl ([.ref aF]) ++ List.replicate (1 - (lg_sl ([.ref aF])).length) Slot.unset).toArray = ls at hl ⊢
  have hl : lv_has ls 1 [(0, .ref aF)] := hl
  refine gw_start (fun H locs hH hlocs => ?_)
  rw [← hH] at hP
  have hS : va_S A s.heap H locs := by rw [hH, hlocs]; exact va_S.rf
  refine lv_aload_n hx hb d_Feeds_forget_0 rfl (lv_at hl 0 rfl) ?_
  refine lv_iconst (v := 0) hx hb d_Feeds_forget_1 (by decide) ?_
  refine va_put (D := (dC, dI)) (ci := 3) (v := .int 0) (ty := .int) (C := R_Feeds) (T := T_Feeds) (N := 2) hx hb hts in_Feeds ty_Feeds ty_Feeds_ok nm_Feeds hown hK hP hD hS 0 rfl rfl 0 (by decide) (hts _ tw_128) (fun _ h9 => h9) rfl (by decide +kernel) rfl rfl (Nat.le_of_ble_eq_true rfl) d_Feeds_forget_2 (fun H locs hP hD hS => ?_)
  have hP : va_P (dC, dI) vw_cls [(aF, .inr (3, [.int 0, .ref aFr]))] H := hP
  have hD : va_D A [(aF, .inr (3, [.int 0, .ref aFr]))] := hD
  have hP9 := hP.sub (ws' := [(aF, .inr (3, [.int 0, .ref aFr]))]) [0] rfl
  have hD9 := hD.sub (ws' := [(aF, .inr (3, [.int 0, .ref aFr]))]) [0] (by decide) rfl
  have hpost_1 : True := trivial
  exact W.vret hx hb hr (fun t ht hW => ⟨⟨(), rfl, hpost_1, by rw [ht]; exact hP9, hD9⟩, hS.F ht⟩) hS.2.2 d_Feeds_forget_5
set_option maxHeartbeats 4000000 in
set_option maxRecDepth 100000 in
/-- find -/
theorem k_find (l : Launch) (dC : Nat → ClassId) (dI : Nat → Nat → Nat) (sz : Nat) (cI : ClassId) (cZ : ClassId) (cQ : ClassId) (aF : Nat) (aFr : Nat) (us : Int32) (aA0 : Nat) (aK0 : Nat) (aG0 : Nat) (aO0 : Nat) (fd0 : Int64) (ct0 : Int32) (aA1 : Nat) (aK1 : Nat) (aG1 : Nat) (aO1 : Nat) (fd1 : Int64) (ct1 : Int32) (aA2 : Nat) (aK2 : Nat) (aG2 : Nat) (aO2 : Nat) (fd2 : Int64) (ct2 : Int32) (aA3 : Nat) (aK3 : Nat) (aG3 : Nat) (aO3 : Nat) (fd3 : Int64) (ct3 : Int32) (fRw : Nat → Option Nat) (g1 : Int64) (hRw : fRw 0 = some aA0 ∧ fRw 1 = some aA1 ∧ fRw 2 = some aA2 ∧ fRw 3 = some aA3) (hus4 : us ≤ 4) : Met l y_Feeds_find w_Feeds_find ({ frames := 0, cells := 0, slots := 0, locals := 0 } : Room) (va_Pc [.ref aF, .long g1] (fun U => U.heap.size = sz ∧ va_P (dC, dI) vw_cls [(aF, .inr (3, [.int us, .ref aFr])), (aFr, .inl (cQ, 4, .inr (.inr (.inr (.inr fRw))))), (aA0, .inr (2, [.long fd0, .int ct0, .ref aK0, .ref aG0, .ref aO0])), (aA1, .inr (2, [.long fd1, .int ct1, .ref aK1, .ref aG1, .ref aO1])), (aA2, .inr (2, [.long fd2, .int ct2, .ref aK2, .ref aG2, .ref aO2])), (aA3, .inr (2, [.long fd3, .int ct3, .ref aK3, .ref aG3, .ref aO3]))] U.heap ∧ g_K dC dI [(cI, .int), (cZ, .boolean), (cQ, (.object "SettingSearch$Answers"))] U ∧ va_D (fun _ => True) [(aF, .inr (3, [.int us, .ref aFr])), (aFr, .inl (cQ, 4, .inr (.inr (.inr (.inr fRw))))), (aA0, .inr (2, [.long fd0, .int ct0, .ref aK0, .ref aG0, .ref aO0])), (aA1, .inr (2, [.long fd1, .int ct1, .ref aK1, .ref aG1, .ref aO1])), (aA2, .inr (2, [.long fd2, .int ct2, .ref aK2, .ref aG2, .ref aO2])), (aA3, .inr (2, [.long fd3, .int ct3, .ref aK3, .ref aG3, .ref aO3]))])) (va_Qq (fun (r : Option Nat) (u : Unit) => r = (q_find us fd0 fd1 fd2 fd3 g1).map (q_4 aA0 aA1 aA2 aA3)) (fun (u : Unit) (t : State) => va_P (dC, dI) vw_cls [(aF, .inr (3, [.int us, .ref aFr])), (aFr, .inl (cQ, 4, .inr (.inr (.inr (.inr fRw))))), (aA0, .inr (2, [.long fd0, .int ct0, .ref aK0, .ref aG0, .ref aO0])), (aA1, .inr (2, [.long fd1, .int ct1, .ref aK1, .ref aG1, .ref aO1])), (aA2, .inr (2, [.long fd2, .int ct2, .ref aK2, .ref aG2, .ref aO2])), (aA3, .inr (2, [.long fd3, .int ct3, .ref aK3, .ref aG3, .ref aO3]))] t.heap ∧ va_D (va_A [(aF, .inr (3, [.int us, .ref aFr])), (aFr, .inl (cQ, 4, .inr (.inr (.inr (.inr fRw))))), (aA0, .inr (2, [.long fd0, .int ct0, .ref aK0, .ref aG0, .ref aO0])), (aA1, .inr (2, [.long fd1, .int ct1, .ref aK1, .ref aG1, .ref aO1])), (aA2, .inr (2, [.long fd2, .int ct2, .ref aK2, .ref aG2, .ref aO2])), (aA3, .inr (2, [.long fd3, .int ct3, .ref aK3, .ref aG3, .ref aO3]))] sz) [(aF, .inr (3, [.int us, .ref aFr])), (aFr, .inl (cQ, 4, .inr (.inr (.inr (.inr fRw))))), (aA0, .inr (2, [.long fd0, .int ct0, .ref aK0, .ref aG0, .ref aO0])), (aA1, .inr (2, [.long fd1, .int ct1, .ref aK1, .ref aG1, .ref aO1])), (aA2, .inr (2, [.long fd2, .int ct2, .ref aK2, .ref aG2, .ref aO2])), (aA3, .inr (2, [.long fd3, .int ct3, .ref aK3, .ref aG3, .ref aO3]))]) (va_A [(aF, .inr (3, [.int us, .ref aFr])), (aFr, .inl (cQ, 4, .inr (.inr (.inr (.inr fRw))))), (aA0, .inr (2, [.long fd0, .int ct0, .ref aK0, .ref aG0, .ref aO0])), (aA1, .inr (2, [.long fd1, .int ct1, .ref aK1, .ref aG1, .ref aO1])), (aA2, .inr (2, [.long fd2, .int ct2, .ref aK2, .ref aG2, .ref aO2])), (aA3, .inr (2, [.long fd3, .int ct3, .ref aK3, .ref aG3, .ref aO3]))] sz)) 0 0 (va_A [(aF, .inr (3, [.int us, .ref aFr])), (aFr, .inl (cQ, 4, .inr (.inr (.inr (.inr fRw))))), (aA0, .inr (2, [.long fd0, .int ct0, .ref aK0, .ref aG0, .ref aO0])), (aA1, .inr (2, [.long fd1, .int ct1, .ref aK1, .ref aG1, .ref aO1])), (aA2, .inr (2, [.long fd2, .int ct2, .ref aK2, .ref aG2, .ref aO2])), (aA3, .inr (2, [.long fd3, .int ct3, .ref aK3, .ref aG3, .ref aO3]))] sz) := by
  refine Met.ofW (cc := b_Feeds_find) (maxL := 4) (ret := (some (.object "SettingSearch$Answers"))) (by decide) rfl ?_
  intro p e s m args below meth c s₁ B hml hv
  obtain ⟨rfl, hsz, hP, hKN, hD0⟩ := hv
  obtain ⟨hK, hN⟩ := id hKN
  have hx := B.exec
  have hb := B.bytes
  have hr := B.returns
  have hts0 := atoms_spec (ws := w_Feeds_find) B.pre
  have hts : ∀ w ∈ lw_g, w.before _ s = true := fun w h => hts0 w (List.mem_cons_of_mem _ h)
  have hown : s.vm.findClass R_Feeds = some m.cls := findClass_of_methodNamed B.named
  have hlocks := B.notSynchronized
  subst hsz
  have hD := hD0.self (sz := s.heap.size)
  generalize hAe : va_A [(aF, .inr (3, [.int us, .ref aFr])), (aFr, .inl (cQ, 4, .inr (.inr (.inr (.inr fRw))))), (aA0, .inr (2, [.long fd0, .int ct0, .ref aK0, .ref aG0, .ref aO0])), (aA1, .inr (2, [.long fd1, .int ct1, .ref aK1, .ref aG1, .ref aO1])), (aA2, .inr (2, [.long fd2, .int ct2, .ref aK2, .ref aG2, .ref aO2])), (aA3, .inr (2, [.long fd3, .int ct3, .ref aK3, .ref aG3, .ref aO3]))] s.heap.size = A at hD ⊢
  have hA : ∀ q : Nat, s.heap.size ≤ q → A q := fun q h => by rw [← hAe]; exact Or.inr h
  have hP : va_P (dC, dI) vw_cls [(aF, .inr (3, [.int us, .ref aFr])), (aFr, .inl (cQ, 4, .inr (.inr (.inr (.inr fRw))))), (aA0, .inr (2, [.long fd0, .int ct0, .ref aK0, .ref aG0, .ref aO0])), (aA1, .inr (2, [.long fd1, .int ct1, .ref aK1, .ref aG1, .ref aO1])), (aA2, .inr (2, [.long fd2, .int ct2, .ref aK2, .ref aG2, .ref aO2])), (aA3, .inr (2, [.long fd3, .int ct3, .ref aK3, .ref aG3, .ref aO3]))] s.heap := hP
  have hl := lv_entry ([.ref aF, .long g1]) (n := 4) (Nat.le_of_ble_eq_true rfl)
  rw [lg_entry_eq]
  generalize (lg_sl ([.ref aF, .long g1]) ++ List.replicate (4 - (lg_sl ([.ref aF, .long g1])).length) Slot.unset).toArray = ls at hl ⊢
  have hl : lv_has ls 4 [(0, .ref aF), (1, .long g1)] := hl
  refine gw_start (fun H locs hH hlocs => ?_)
  rw [← hH] at hP
  have hS : va_S A s.heap H locs := by rw [hH, hlocs]; exact va_S.rf
  refine lv_iconst (v := 0) hx hb d_Feeds_find_0 (by decide) ?_
  refine lv_istore_n (lv' := [(3, .int 0), (0, .ref aF), (1, .long g1)]) hx hb d_Feeds_find_1 rfl hl (by decide) rfl (fun ls hl => ?_)
  skip
  refine lv_iload_n hx hb d_Feeds_find_2 rfl (lv_at hl 0 rfl) ?_
  refine lv_aload_n hx hb d_Feeds_find_3 rfl (lv_at hl 1 rfl) ?_
  refine va_get (D := (dC, dI)) (ci := 3) (v := .int us) (C := R_Feeds) (T := T_Feeds) (N := 2) hx hb hts in_Feeds hown hK hP 0 rfl rfl 0 (by decide) (hts _ tw_128) (fun _ h9 => h9) rfl d_Feeds_find_4 ?_
  refine lv_icmp_ge (tgt := 37) hx hb d_Feeds_find_7 (by decide) (fun c_1 => ?_) (fun c_1 => ?_)
  · skip
    refine lv_null hx hb d_Feeds_find_37 ?_
    have hP9 := hP.sub (ws' := [(aF, .inr (3, [.int us, .ref aFr])), (aFr, .inl (cQ, 4, .inr (.inr (.inr (.inr fRw))))), (aA0, .inr (2, [.long fd0, .int ct0, .ref aK0, .ref aG0, .ref aO0])), (aA1, .inr (2, [.long fd1, .int ct1, .ref aK1, .ref aG1, .ref aO1])), (aA2, .inr (2, [.long fd2, .int ct2, .ref aK2, .ref aG2, .ref aO2])), (aA3, .inr (2, [.long fd3, .int ct3, .ref aK3, .ref aG3, .ref aO3]))]) [0, 1, 2, 3, 4, 5] rfl
    have hD9 := hD.sub (ws' := [(aF, .inr (3, [.int us, .ref aFr])), (aFr, .inl (cQ, 4, .inr (.inr (.inr (.inr fRw))))), (aA0, .inr (2, [.long fd0, .int ct0, .ref aK0, .ref aG0, .ref aO0])), (aA1, .inr (2, [.long fd1, .int ct1, .ref aK1, .ref aG1, .ref aO1])), (aA2, .inr (2, [.long fd2, .int ct2, .ref aK2, .ref aG2, .ref aO2])), (aA3, .inr (2, [.long fd3, .int ct3, .ref aK3, .ref aG3, .ref aO3]))]) [0, 1, 2, 3, 4, 5] (by decide) rfl
    have hpost_2 : (none : Option Nat) = (q_find us fd0 fd1 fd2 fd3 g1).map (q_4 aA0 aA1 aA2 aA3) := by simp [q_find, c_1]
    exact W.aret hx hb hr (Or.inl ⟨_, rfl⟩) (Or.inl rfl) (fun t ht hW => ⟨⟨none, (), rfl, hpost_2, by rw [ht]; exact hP9, hD9⟩, hS.F ht⟩) hS.2.2 d_Feeds_find_38
  · skip
    refine lv_aload_n hx hb d_Feeds_find_10 rfl (lv_at hl 1 rfl) ?_
    refine va_get (D := (dC, dI)) (ci := 3) (v := .ref aFr) (C := R_Feeds) (T := T_Feeds) (N := 2) hx hb hts in_Feeds hown hK hP 0 rfl rfl 1 (by decide) (hts _ tw_129) (fun _ h9 => h9) rfl d_Feeds_find_11 ?_
    refine lv_iload_n hx hb d_Feeds_find_14 rfl (lv_at hl 0 rfl) ?_
    have eh_3 : (0 : Int32) = nI (0) := rfl
    have bh_3 : 0 < 4 := by decide
    have h_3 : vp_in (0 : Int32) 4 := by rw [eh_3]; exact vp_in_nI bh_3 (by decide)
    have kh_3 : (0 : Int32).toNatClampNeg = 0 := by rw [eh_3]; exact nI_clamp (by omega)
    refine va_aldq hx hb hK hP 1 2 rfl rfl h_3 d_Feeds_find_15 ?_
    rw [kh_3]
    rw [show fRw (0) = some aA0 from hRw.1]
    refine W.eq (g2 := F0 m 16 ls [.ref aA0]) rfl ?_
    refine va_getN (D := (dC, dI)) (ci := 2) (v := .long fd0) (C := R_Answers) (T := T_Answers) (N := 5) hx hb hts in_Answers hown hK hP 2 rfl rfl 0 (by decide) (g_Nu hN (List.mem_of_getElem? (i := 4) rfl)) (fun _ h9 => h9) rfl d_Feeds_find_16 ?_
    refine lv_lload_n hx hb d_Feeds_find_19 rfl (lv_at hl 2 rfl) ?_
    refine W.lcmp hx hb d_Feeds_find_20 ?_
    refine lv_if_ne (tgt := 31) hx hb d_Feeds_find_21 (by decide) (fun c_4 => ?_) (fun c_4 => ?_)
    · skip
      have c_4 : ¬ fd0 = g1 := fun h => c_4 ((lg_cmp_eq _ _).mpr h)
      obtain ⟨v_5, ev_5⟩ : ∃ y : Int32, y = 0 + 1 := ⟨_, rfl⟩
      refine lv_iinc (v := v_5) (lv' := [(3, .int v_5), (0, .ref aF), (1, .long g1)]) hx hb d_Feeds_find_31 hl (k := 0) rfl (by rw [ev_5]; rfl) (by decide) rfl (fun ls hl => ?_)
      refine lv_goto (tgt := 2) hx hb d_Feeds_find_34 (by decide) ?_
      obtain rfl : v_5 = 1 := by rw [ev_5]; rfl
      refine lv_iload_n hx hb d_Feeds_find_2 rfl (lv_at hl 0 rfl) ?_
      refine lv_aload_n hx hb d_Feeds_find_3 rfl (lv_at hl 1 rfl) ?_
      refine va_get (D := (dC, dI)) (ci := 3) (v := .int us) (C := R_Feeds) (T := T_Feeds) (N := 2) hx hb hts in_Feeds hown hK hP 0 rfl rfl 0 (by decide) (hts _ tw_128) (fun _ h9 => h9) rfl d_Feeds_find_4 ?_
      refine lv_icmp_ge (tgt := 37) hx hb d_Feeds_find_7 (by decide) (fun c_6 => ?_) (fun c_6 => ?_)
      · skip
        refine lv_null hx hb d_Feeds_find_37 ?_
        have hP9 := hP.sub (ws' := [(aF, .inr (3, [.int us, .ref aFr])), (aFr, .inl (cQ, 4, .inr (.inr (.inr (.inr fRw))))), (aA0, .inr (2, [.long fd0, .int ct0, .ref aK0, .ref aG0, .ref aO0])), (aA1, .inr (2, [.long fd1, .int ct1, .ref aK1, .ref aG1, .ref aO1])), (aA2, .inr (2, [.long fd2, .int ct2, .ref aK2, .ref aG2, .ref aO2])), (aA3, .inr (2, [.long fd3, .int ct3, .ref aK3, .ref aG3, .ref aO3]))]) [0, 1, 2, 3, 4, 5] rfl
        have hD9 := hD.sub (ws' := [(aF, .inr (3, [.int us, .ref aFr])), (aFr, .inl (cQ, 4, .inr (.inr (.inr (.inr fRw))))), (aA0, .inr (2, [.long fd0, .int ct0, .ref aK0, .ref aG0, .ref aO0])), (aA1, .inr (2, [.long fd1, .int ct1, .ref aK1, .ref aG1, .ref aO1])), (aA2, .inr (2, [.long fd2, .int ct2, .ref aK2, .ref aG2, .ref aO2])), (aA3, .inr (2, [.long fd3, .int ct3, .ref aK3, .ref aG3, .ref aO3]))]) [0, 1, 2, 3, 4, 5] (by decide) rfl
        have hpost_7 : (none : Option Nat) = (q_find us fd0 fd1 fd2 fd3 g1).map (q_4 aA0 aA1 aA2 aA3) := by simp [q_find, c_1, c_4, c_6]
        exact W.aret hx hb hr (Or.inl ⟨_, rfl⟩) (Or.inl rfl) (fun t ht hW => ⟨⟨none, (), rfl, hpost_7, by rw [ht]; exact hP9, hD9⟩, hS.F ht⟩) hS.2.2 d_Feeds_find_38
      · skip
        refine lv_aload_n hx hb d_Feeds_find_10 rfl (lv_at hl 1 rfl) ?_
        refine va_get (D := (dC, dI)) (ci := 3) (v := .ref aFr) (C := R_Feeds) (T := T_Feeds) (N := 2) hx hb hts in_Feeds hown hK hP 0 rfl rfl 1 (by decide) (hts _ tw_129) (fun _ h9 => h9) rfl d_Feeds_find_11 ?_
        refine lv_iload_n hx hb d_Feeds_find_14 rfl (lv_at hl 0 rfl) ?_
        have eh_8 : (1 : Int32) = nI (1) := rfl
        have bh_8 : 1 < 4 := by decide
        have h_8 : vp_in (1 : Int32) 4 := by rw [eh_8]; exact vp_in_nI bh_8 (by decide)
        have kh_8 : (1 : Int32).toNatClampNeg = 1 := by rw [eh_8]; exact nI_clamp (by omega)
        refine va_aldq hx hb hK hP 1 2 rfl rfl h_8 d_Feeds_find_15 ?_
        rw [kh_8]
        rw [show fRw (1) = some aA1 from hRw.2.1]
        refine W.eq (g2 := F0 m 16 ls [.ref aA1]) rfl ?_
        refine va_getN (D := (dC, dI)) (ci := 2) (v := .long fd1) (C := R_Answers) (T := T_Answers) (N := 5) hx hb hts in_Answers hown hK hP 3 rfl rfl 0 (by decide) (g_Nu hN (List.mem_of_getElem? (i := 4) rfl)) (fun _ h9 => h9) rfl d_Feeds_find_16 ?_
        refine lv_lload_n hx hb d_Feeds_find_19 rfl (lv_at hl 2 rfl) ?_
        refine W.lcmp hx hb d_Feeds_find_20 ?_
        refine lv_if_ne (tgt := 31) hx hb d_Feeds_find_21 (by decide) (fun c_9 => ?_) (fun c_9 => ?_)
        · skip
          have c_9 : ¬ fd1 = g1 := fun h => c_9 ((lg_cmp_eq _ _).mpr h)
          obtain ⟨v_10, ev_10⟩ : ∃ y : Int32, y = 1 + 1 := ⟨_, rfl⟩
          refine lv_iinc (v := v_10) (lv' := [(3, .int v_10), (0, .ref aF), (1, .long g1)]) hx hb d_Feeds_find_31 hl (k := 0) rfl (by rw [ev_10]; rfl) (by decide) rfl (fun ls hl => ?_)
          refine lv_goto (tgt := 2) hx hb d_Feeds_find_34 (by decide) ?_
          obtain rfl : v_10 = 2 := by rw [ev_10]; rfl
          refine lv_iload_n hx hb d_Feeds_find_2 rfl (lv_at hl 0 rfl) ?_
          refine lv_aload_n hx hb d_Feeds_find_3 rfl (lv_at hl 1 rfl) ?_
          refine va_get (D := (dC, dI)) (ci := 3) (v := .int us) (C := R_Feeds) (T := T_Feeds) (N := 2) hx hb hts in_Feeds hown hK hP 0 rfl rfl 0 (by decide) (hts _ tw_128) (fun _ h9 => h9) rfl d_Feeds_find_4 ?_
          refine lv_icmp_ge (tgt := 37) hx hb d_Feeds_find_7 (by decide) (fun c_11 => ?_) (fun c_11 => ?_)
          · skip
            refine lv_null hx hb d_Feeds_find_37 ?_
            have hP9 := hP.sub (ws' := [(aF, .inr (3, [.int us, .ref aFr])), (aFr, .inl (cQ, 4, .inr (.inr (.inr (.inr fRw))))), (aA0, .inr (2, [.long fd0, .int ct0, .ref aK0, .ref aG0, .ref aO0])), (aA1, .inr (2, [.long fd1, .int ct1, .ref aK1, .ref aG1, .ref aO1])), (aA2, .inr (2, [.long fd2, .int ct2, .ref aK2, .ref aG2, .ref aO2])), (aA3, .inr (2, [.long fd3, .int ct3, .ref aK3, .ref aG3, .ref aO3]))]) [0, 1, 2, 3, 4, 5] rfl
            have hD9 := hD.sub (ws' := [(aF, .inr (3, [.int us, .ref aFr])), (aFr, .inl (cQ, 4, .inr (.inr (.inr (.inr fRw))))), (aA0, .inr (2, [.long fd0, .int ct0, .ref aK0, .ref aG0, .ref aO0])), (aA1, .inr (2, [.long fd1, .int ct1, .ref aK1, .ref aG1, .ref aO1])), (aA2, .inr (2, [.long fd2, .int ct2, .ref aK2, .ref aG2, .ref aO2])), (aA3, .inr (2, [.long fd3, .int ct3, .ref aK3, .ref aG3, .ref aO3]))]) [0, 1, 2, 3, 4, 5] (by decide) rfl
            have hpost_12 : (none : Option Nat) = (q_find us fd0 fd1 fd2 fd3 g1).map (q_4 aA0 aA1 aA2 aA3) := by simp [q_find, c_1, c_4, c_6, c_9, c_11]
            exact W.aret hx hb hr (Or.inl ⟨_, rfl⟩) (Or.inl rfl) (fun t ht hW => ⟨⟨none, (), rfl, hpost_12, by rw [ht]; exact hP9, hD9⟩, hS.F ht⟩) hS.2.2 d_Feeds_find_38
          · skip
            refine lv_aload_n hx hb d_Feeds_find_10 rfl (lv_at hl 1 rfl) ?_
            refine va_get (D := (dC, dI)) (ci := 3) (v := .ref aFr) (C := R_Feeds) (T := T_Feeds) (N := 2) hx hb hts in_Feeds hown hK hP 0 rfl rfl 1 (by decide) (hts _ tw_129) (fun _ h9 => h9) rfl d_Feeds_find_11 ?_
            refine lv_iload_n hx hb d_Feeds_find_14 rfl (lv_at hl 0 rfl) ?_
            have eh_13 : (2 : Int32) = nI (2) := rfl
            have bh_13 : 2 < 4 := by decide
            have h_13 : vp_in (2 : Int32) 4 := by rw [eh_13]; exact vp_in_nI bh_13 (by decide)
            have kh_13 : (2 : Int32).toNatClampNeg = 2 := by rw [eh_13]; exact nI_clamp (by omega)
            refine va_aldq hx hb hK hP 1 2 rfl rfl h_13 d_Feeds_find_15 ?_
            rw [kh_13]
            rw [show fRw (2) = some aA2 from hRw.2.2.1]
            refine W.eq (g2 := F0 m 16 ls [.ref aA2]) rfl ?_
            refine va_getN (D := (dC, dI)) (ci := 2) (v := .long fd2) (C := R_Answers) (T := T_Answers) (N := 5) hx hb hts in_Answers hown hK hP 4 rfl rfl 0 (by decide) (g_Nu hN (List.mem_of_getElem? (i := 4) rfl)) (fun _ h9 => h9) rfl d_Feeds_find_16 ?_
            refine lv_lload_n hx hb d_Feeds_find_19 rfl (lv_at hl 2 rfl) ?_
            refine W.lcmp hx hb d_Feeds_find_20 ?_
            refine lv_if_ne (tgt := 31) hx hb d_Feeds_find_21 (by decide) (fun c_14 => ?_) (fun c_14 => ?_)
            · skip
              have c_14 : ¬ fd2 = g1 := fun h => c_14 ((lg_cmp_eq _ _).mpr h)
              obtain ⟨v_15, ev_15⟩ : ∃ y : Int32, y = 2 + 1 := ⟨_, rfl⟩
              refine lv_iinc (v := v_15) (lv' := [(3, .int v_15), (0, .ref aF), (1, .long g1)]) hx hb d_Feeds_find_31 hl (k := 0) rfl (by rw [ev_15]; rfl) (by decide) rfl (fun ls hl => ?_)
              refine lv_goto (tgt := 2) hx hb d_Feeds_find_34 (by decide) ?_
              obtain rfl : v_15 = 3 := by rw [ev_15]; rfl
              refine lv_iload_n hx hb d_Feeds_find_2 rfl (lv_at hl 0 rfl) ?_
              refine lv_aload_n hx hb d_Feeds_find_3 rfl (lv_at hl 1 rfl) ?_
              refine va_get (D := (dC, dI)) (ci := 3) (v := .int us) (C := R_Feeds) (T := T_Feeds) (N := 2) hx hb hts in_Feeds hown hK hP 0 rfl rfl 0 (by decide) (hts _ tw_128) (fun _ h9 => h9) rfl d_Feeds_find_4 ?_
              refine lv_icmp_ge (tgt := 37) hx hb d_Feeds_find_7 (by decide) (fun c_16 => ?_) (fun c_16 => ?_)
              · skip
                refine lv_null hx hb d_Feeds_find_37 ?_
                have hP9 := hP.sub (ws' := [(aF, .inr (3, [.int us, .ref aFr])), (aFr, .inl (cQ, 4, .inr (.inr (.inr (.inr fRw))))), (aA0, .inr (2, [.long fd0, .int ct0, .ref aK0, .ref aG0, .ref aO0])), (aA1, .inr (2, [.long fd1, .int ct1, .ref aK1, .ref aG1, .ref aO1])), (aA2, .inr (2, [.long fd2, .int ct2, .ref aK2, .ref aG2, .ref aO2])), (aA3, .inr (2, [.long fd3, .int ct3, .ref aK3, .ref aG3, .ref aO3]))]) [0, 1, 2, 3, 4, 5] rfl
                have hD9 := hD.sub (ws' := [(aF, .inr (3, [.int us, .ref aFr])), (aFr, .inl (cQ, 4, .inr (.inr (.inr (.inr fRw))))), (aA0, .inr (2, [.long fd0, .int ct0, .ref aK0, .ref aG0, .ref aO0])), (aA1, .inr (2, [.long fd1, .int ct1, .ref aK1, .ref aG1, .ref aO1])), (aA2, .inr (2, [.long fd2, .int ct2, .ref aK2, .ref aG2, .ref aO2])), (aA3, .inr (2, [.long fd3, .int ct3, .ref aK3, .ref aG3, .ref aO3]))]) [0, 1, 2, 3, 4, 5] (by decide) rfl
                have hpost_17 : (none : Option Nat) = (q_find us fd0 fd1 fd2 fd3 g1).map (q_4 aA0 aA1 aA2 aA3) := by simp [q_find, c_1, c_4, c_6, c_9, c_11, c_14, c_16]
                exact W.aret hx hb hr (Or.inl ⟨_, rfl⟩) (Or.inl rfl) (fun t ht hW => ⟨⟨none, (), rfl, hpost_17, by rw [ht]; exact hP9, hD9⟩, hS.F ht⟩) hS.2.2 d_Feeds_find_38
              · skip
                refine lv_aload_n hx hb d_Feeds_find_10 rfl (lv_at hl 1 rfl) ?_
                refine va_get (D := (dC, dI)) (ci := 3) (v := .ref aFr) (C := R_Feeds) (T := T_Feeds) (N := 2) hx hb hts in_Feeds hown hK hP 0 rfl rfl 1 (by decide) (hts _ tw_129) (fun _ h9 => h9) rfl d_Feeds_find_11 ?_
                refine lv_iload_n hx hb d_Feeds_find_14 rfl (lv_at hl 0 rfl) ?_
                have eh_18 : (3 : Int32) = nI (3) := rfl
                have bh_18 : 3 < 4 := by decide
                have h_18 : vp_in (3 : Int32) 4 := by rw [eh_18]; exact vp_in_nI bh_18 (by decide)
                have kh_18 : (3 : Int32).toNatClampNeg = 3 := by rw [eh_18]; exact nI_clamp (by omega)
                refine va_aldq hx hb hK hP 1 2 rfl rfl h_18 d_Feeds_find_15 ?_
                rw [kh_18]
                rw [show fRw (3) = some aA3 from hRw.2.2.2]
                refine W.eq (g2 := F0 m 16 ls [.ref aA3]) rfl ?_
                refine va_getN (D := (dC, dI)) (ci := 2) (v := .long fd3) (C := R_Answers) (T := T_Answers) (N := 5) hx hb hts in_Answers hown hK hP 5 rfl rfl 0 (by decide) (g_Nu hN (List.mem_of_getElem? (i := 4) rfl)) (fun _ h9 => h9) rfl d_Feeds_find_16 ?_
                refine lv_lload_n hx hb d_Feeds_find_19 rfl (lv_at hl 2 rfl) ?_
                refine W.lcmp hx hb d_Feeds_find_20 ?_
                refine lv_if_ne (tgt := 31) hx hb d_Feeds_find_21 (by decide) (fun c_19 => ?_) (fun c_19 => ?_)
                · skip
                  have c_19 : ¬ fd3 = g1 := fun h => c_19 ((lg_cmp_eq _ _).mpr h)
                  obtain ⟨v_20, ev_20⟩ : ∃ y : Int32, y = 3 + 1 := ⟨_, rfl⟩
                  refine lv_iinc (v := v_20) (lv' := [(3, .int v_20), (0, .ref aF), (1, .long g1)]) hx hb d_Feeds_find_31 hl (k := 0) rfl (by rw [ev_20]; rfl) (by decide) rfl (fun ls hl => ?_)
                  refine lv_goto (tgt := 2) hx hb d_Feeds_find_34 (by decide) ?_
                  obtain rfl : v_20 = 4 := by rw [ev_20]; rfl
                  refine lv_iload_n hx hb d_Feeds_find_2 rfl (lv_at hl 0 rfl) ?_
                  refine lv_aload_n hx hb d_Feeds_find_3 rfl (lv_at hl 1 rfl) ?_
                  refine va_get (D := (dC, dI)) (ci := 3) (v := .int us) (C := R_Feeds) (T := T_Feeds) (N := 2) hx hb hts in_Feeds hown hK hP 0 rfl rfl 0 (by decide) (hts _ tw_128) (fun _ h9 => h9) rfl d_Feeds_find_4 ?_
                  refine lv_icmp_ge (tgt := 37) hx hb d_Feeds_find_7 (by decide) (fun c_21 => ?_) (fun c_21 => ?_)
                  · skip
                    refine lv_null hx hb d_Feeds_find_37 ?_
                    have hP9 := hP.sub (ws' := [(aF, .inr (3, [.int us, .ref aFr])), (aFr, .inl (cQ, 4, .inr (.inr (.inr (.inr fRw))))), (aA0, .inr (2, [.long fd0, .int ct0, .ref aK0, .ref aG0, .ref aO0])), (aA1, .inr (2, [.long fd1, .int ct1, .ref aK1, .ref aG1, .ref aO1])), (aA2, .inr (2, [.long fd2, .int ct2, .ref aK2, .ref aG2, .ref aO2])), (aA3, .inr (2, [.long fd3, .int ct3, .ref aK3, .ref aG3, .ref aO3]))]) [0, 1, 2, 3, 4, 5] rfl
                    have hD9 := hD.sub (ws' := [(aF, .inr (3, [.int us, .ref aFr])), (aFr, .inl (cQ, 4, .inr (.inr (.inr (.inr fRw))))), (aA0, .inr (2, [.long fd0, .int ct0, .ref aK0, .ref aG0, .ref aO0])), (aA1, .inr (2, [.long fd1, .int ct1, .ref aK1, .ref aG1, .ref aO1])), (aA2, .inr (2, [.long fd2, .int ct2, .ref aK2, .ref aG2, .ref aO2])), (aA3, .inr (2, [.long fd3, .int ct3, .ref aK3, .ref aG3, .ref aO3]))]) [0, 1, 2, 3, 4, 5] (by decide) rfl
                    have hpost_22 : (none : Option Nat) = (q_find us fd0 fd1 fd2 fd3 g1).map (q_4 aA0 aA1 aA2 aA3) := by simp [q_find, c_1, c_4, c_6, c_9, c_11, c_14, c_16, c_19, c_21]
                    exact W.aret hx hb hr (Or.inl ⟨_, rfl⟩) (Or.inl rfl) (fun t ht hW => ⟨⟨none, (), rfl, hpost_22, by rw [ht]; exact hP9, hD9⟩, hS.F ht⟩) hS.2.2 d_Feeds_find_38
                  · skip
                    exact absurd hus4 c_21
                · skip
                  have c_19 : fd3 = g1 := (lg_cmp_eq _ _).mp c_19
                  refine lv_aload_n hx hb d_Feeds_find_24 rfl (lv_at hl 1 rfl) ?_
                  refine va_get (D := (dC, dI)) (ci := 3) (v := .ref aFr) (C := R_Feeds) (T := T_Feeds) (N := 2) hx hb hts in_Feeds hown hK hP 0 rfl rfl 1 (by decide) (hts _ tw_129) (fun _ h9 => h9) rfl d_Feeds_find_25 ?_
                  refine lv_iload_n hx hb d_Feeds_find_28 rfl (lv_at hl 0 rfl) ?_
                  have eh_23 : (3 : Int32) = nI (3) := rfl
                  have bh_23 : 3 < 4 := by decide
                  have h_23 : vp_in (3 : Int32) 4 := by rw [eh_23]; exact vp_in_nI bh_23 (by decide)
                  have kh_23 : (3 : Int32).toNatClampNeg = 3 := by rw [eh_23]; exact nI_clamp (by omega)
                  refine va_aldq hx hb hK hP 1 2 rfl rfl h_23 d_Feeds_find_29 ?_
                  rw [kh_23]
                  rw [show fRw (3) = some aA3 from hRw.2.2.2]
                  refine W.eq (g2 := F0 m 30 ls [.ref aA3]) rfl ?_
                  have hP9 := hP.sub (ws' := [(aF, .inr (3, [.int us, .ref aFr])), (aFr, .inl (cQ, 4, .inr (.inr (.inr (.inr fRw))))), (aA0, .inr (2, [.long fd0, .int ct0, .ref aK0, .ref aG0, .ref aO0])), (aA1, .inr (2, [.long fd1, .int ct1, .ref aK1, .ref aG1, .ref aO1])), (aA2, .inr (2, [.long fd2, .int ct2, .ref aK2, .ref aG2, .ref aO2])), (aA3, .inr (2, [.long fd3, .int ct3, .ref aK3, .ref aG3, .ref aO3]))]) [0, 1, 2, 3, 4, 5] rfl
                  have hD9 := hD.sub (ws' := [(aF, .inr (3, [.int us, .ref aFr])), (aFr, .inl (cQ, 4, .inr (.inr (.inr (.inr fRw))))), (aA0, .inr (2, [.long fd0, .int ct0, .ref aK0, .ref aG0, .ref aO0])), (aA1, .inr (2, [.long fd1, .int ct1, .ref aK1, .ref aG1, .ref aO1])), (aA2, .inr (2, [.long fd2, .int ct2, .ref aK2, .ref aG2, .ref aO2])), (aA3, .inr (2, [.long fd3, .int ct3, .ref aK3, .ref aG3, .ref aO3]))]) [0, 1, 2, 3, 4, 5] (by decide) rfl
                  have hpost_24 : (some aA3) = (q_find us fd0 fd1 fd2 fd3 g1).map (q_4 aA0 aA1 aA2 aA3) := by simp [q_find, q_4, c_1, c_4, c_6, c_9, c_11, c_14, c_16, c_19]
                  exact W.aret hx hb hr (Or.inl ⟨_, rfl⟩) (Or.inr ⟨_, rfl⟩) (fun t ht hW => ⟨⟨some aA3, (), rfl, hpost_24, by rw [ht]; exact hP9, hD9⟩, hS.F ht⟩) hS.2.2 d_Feeds_find_30
            · skip
              have c_14 : fd2 = g1 := (lg_cmp_eq _ _).mp c_14
              refine lv_aload_n hx hb d_Feeds_find_24 rfl (lv_at hl 1 rfl) ?_
              refine va_get (D := (dC, dI)) (ci := 3) (v := .ref aFr) (C := R_Feeds) (T := T_Feeds) (N := 2) hx hb hts in_Feeds hown hK hP 0 rfl rfl 1 (by decide) (hts _ tw_129) (fun _ h9 => h9) rfl d_Feeds_find_25 ?_
              refine lv_iload_n hx hb d_Feeds_find_28 rfl (lv_at hl 0 rfl) ?_
              have eh_25 : (2 : Int32) = nI (2) := rfl
              have bh_25 : 2 < 4 := by decide
              have h_25 : vp_in (2 : Int32) 4 := by rw [eh_25]; exact vp_in_nI bh_25 (by decide)
              have kh_25 : (2 : Int32).toNatClampNeg = 2 := by rw [eh_25]; exact nI_clamp (by omega)
              refine va_aldq hx hb hK hP 1 2 rfl rfl h_25 d_Feeds_find_29 ?_
              rw [kh_25]
              rw [show fRw (2) = some aA2 from hRw.2.2.1]
              refine W.eq (g2 := F0 m 30 ls [.ref aA2]) rfl ?_
              have hP9 := hP.sub (ws' := [(aF, .inr (3, [.int us, .ref aFr])), (aFr, .inl (cQ, 4, .inr (.inr (.inr (.inr fRw))))), (aA0, .inr (2, [.long fd0, .int ct0, .ref aK0, .ref aG0, .ref aO0])), (aA1, .inr (2, [.long fd1, .int ct1, .ref aK1, .ref aG1, .ref aO1])), (aA2, .inr (2, [.long fd2, .int ct2, .ref aK2, .ref aG2, .ref aO2])), (aA3, .inr (2, [.long fd3, .int ct3, .ref aK3, .ref aG3, .ref aO3]))]) [0, 1, 2, 3, 4, 5] rfl
              have hD9 := hD.sub (ws' := [(aF, .inr (3, [.int us, .ref aFr])), (aFr, .inl (cQ, 4, .inr (.inr (.inr (.inr fRw))))), (aA0, .inr (2, [.long fd0, .int ct0, .ref aK0, .ref aG0, .ref aO0])), (aA1, .inr (2, [.long fd1, .int ct1, .ref aK1, .ref aG1, .ref aO1])), (aA2, .inr (2, [.long fd2, .int ct2, .ref aK2, .ref aG2, .ref aO2])), (aA3, .inr (2, [.long fd3, .int ct3, .ref aK3, .ref aG3, .ref aO3]))]) [0, 1, 2, 3, 4, 5] (by decide) rfl
              have hpost_26 : (some aA2) = (q_find us fd0 fd1 fd2 fd3 g1).map (q_4 aA0 aA1 aA2 aA3) := by simp [q_find, q_4, c_1, c_4, c_6, c_9, c_11, c_14]
              exact W.aret hx hb hr (Or.inl ⟨_, rfl⟩) (Or.inr ⟨_, rfl⟩) (fun t ht hW => ⟨⟨some aA2, (), rfl, hpost_26, by rw [ht]; exact hP9, hD9⟩, hS.F ht⟩) hS.2.2 d_Feeds_find_30
        · skip
          have c_9 : fd1 = g1 := (lg_cmp_eq _ _).mp c_9
          refine lv_aload_n hx hb d_Feeds_find_24 rfl (lv_at hl 1 rfl) ?_
          refine va_get (D := (dC, dI)) (ci := 3) (v := .ref aFr) (C := R_Feeds) (T := T_Feeds) (N := 2) hx hb hts in_Feeds hown hK hP 0 rfl rfl 1 (by decide) (hts _ tw_129) (fun _ h9 => h9) rfl d_Feeds_find_25 ?_
          refine lv_iload_n hx hb d_Feeds_find_28 rfl (lv_at hl 0 rfl) ?_
          have eh_27 : (1 : Int32) = nI (1) := rfl
          have bh_27 : 1 < 4 := by decide
          have h_27 : vp_in (1 : Int32) 4 := by rw [eh_27]; exact vp_in_nI bh_27 (by decide)
          have kh_27 : (1 : Int32).toNatClampNeg = 1 := by rw [eh_27]; exact nI_clamp (by omega)
          refine va_aldq hx hb hK hP 1 2 rfl rfl h_27 d_Feeds_find_29 ?_
          rw [kh_27]
          rw [show fRw (1) = some aA1 from hRw.2.1]
          refine W.eq (g2 := F0 m 30 ls [.ref aA1]) rfl ?_
          have hP9 := hP.sub (ws' := [(aF, .inr (3, [.int us, .ref aFr])), (aFr, .inl (cQ, 4, .inr (.inr (.inr (.inr fRw))))), (aA0, .inr (2, [.long fd0, .int ct0, .ref aK0, .ref aG0, .ref aO0])), (aA1, .inr (2, [.long fd1, .int ct1, .ref aK1, .ref aG1, .ref aO1])), (aA2, .inr (2, [.long fd2, .int ct2, .ref aK2, .ref aG2, .ref aO2])), (aA3, .inr (2, [.long fd3, .int ct3, .ref aK3, .ref aG3, .ref aO3]))]) [0, 1, 2, 3, 4, 5] rfl
          have hD9 := hD.sub (ws' := [(aF, .inr (3, [.int us, .ref aFr])), (aFr, .inl (cQ, 4, .inr (.inr (.inr (.inr fRw))))), (aA0, .inr (2, [.long fd0, .int ct0, .ref aK0, .ref aG0, .ref aO0])), (aA1, .inr (2, [.long fd1, .int ct1, .ref aK1, .ref aG1, .ref aO1])), (aA2, .inr (2, [.long fd2, .int ct2, .ref aK2, .ref aG2, .ref aO2])), (aA3, .inr (2, [.long fd3, .int ct3, .ref aK3, .ref aG3, .ref aO3]))]) [0, 1, 2, 3, 4, 5] (by decide) rfl
          have hpost_28 : (some aA1) = (q_find us fd0 fd1 fd2 fd3 g1).map (q_4 aA0 aA1 aA2 aA3) := by simp [q_find, q_4, c_1, c_4, c_6, c_9]
          exact W.aret hx hb hr (Or.inl ⟨_, rfl⟩) (Or.inr ⟨_, rfl⟩) (fun t ht hW => ⟨⟨some aA1, (), rfl, hpost_28, by rw [ht]; exact hP9, hD9⟩, hS.F ht⟩) hS.2.2 d_Feeds_find_30
    · skip
      have c_4 : fd0 = g1 := (lg_cmp_eq _ _).mp c_4
      refine lv_aload_n hx hb d_Feeds_find_24 rfl (lv_at hl 1 rfl) ?_
      refine va_get (D := (dC, dI)) (ci := 3) (v := .ref aFr) (C := R_Feeds) (T := T_Feeds) (N := 2) hx hb hts in_Feeds hown hK hP 0 rfl rfl 1 (by decide) (hts _ tw_129) (fun _ h9 => h9) rfl d_Feeds_find_25 ?_
      refine lv_iload_n hx hb d_Feeds_find_28 rfl (lv_at hl 0 rfl) ?_
      have eh_29 : (0 : Int32) = nI (0) := rfl
      have bh_29 : 0 < 4 := by decide
      have h_29 : vp_in (0 : Int32) 4 := by rw [eh_29]; exact vp_in_nI bh_29 (by decide)
      have kh_29 : (0 : Int32).toNatClampNeg = 0 := by rw [eh_29]; exact nI_clamp (by omega)
      refine va_aldq hx hb hK hP 1 2 rfl rfl h_29 d_Feeds_find_29 ?_
      rw [kh_29]
      rw [show fRw (0) = some aA0 from hRw.1]
      refine W.eq (g2 := F0 m 30 ls [.ref aA0]) rfl ?_
      have hP9 := hP.sub (ws' := [(aF, .inr (3, [.int us, .ref aFr])), (aFr, .inl (cQ, 4, .inr (.inr (.inr (.inr fRw))))), (aA0, .inr (2, [.long fd0, .int ct0, .ref aK0, .ref aG0, .ref aO0])), (aA1, .inr (2, [.long fd1, .int ct1, .ref aK1, .ref aG1, .ref aO1])), (aA2, .inr (2, [.long fd2, .int ct2, .ref aK2, .ref aG2, .ref aO2])), (aA3, .inr (2, [.long fd3, .int ct3, .ref aK3, .ref aG3, .ref aO3]))]) [0, 1, 2, 3, 4, 5] rfl
      have hD9 := hD.sub (ws' := [(aF, .inr (3, [.int us, .ref aFr])), (aFr, .inl (cQ, 4, .inr (.inr (.inr (.inr fRw))))), (aA0, .inr (2, [.long fd0, .int ct0, .ref aK0, .ref aG0, .ref aO0])), (aA1, .inr (2, [.long fd1, .int ct1, .ref aK1, .ref aG1, .ref aO1])), (aA2, .inr (2, [.long fd2, .int ct2, .ref aK2, .ref aG2, .ref aO2])), (aA3, .inr (2, [.long fd3, .int ct3, .ref aK3, .ref aG3, .ref aO3]))]) [0, 1, 2, 3, 4, 5] (by decide) rfl
      have hpost_30 : (some aA0) = (q_find us fd0 fd1 fd2 fd3 g1).map (q_4 aA0 aA1 aA2 aA3) := by simp [q_find, q_4, c_1, c_4]
      exact W.aret hx hb hr (Or.inl ⟨_, rfl⟩) (Or.inr ⟨_, rfl⟩) (fun t ht hW => ⟨⟨some aA0, (), rfl, hpost_30, by rw [ht]; exact hP9, hD9⟩, hS.F ht⟩) hS.2.2 d_Feeds_find_30
