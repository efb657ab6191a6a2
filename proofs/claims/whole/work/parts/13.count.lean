def q_sh (x k : Int32) : Int32 := (x.toUInt32 >>> (k.toUInt32 &&& Int32.toUInt32 31)).toInt32
def q_bc1 (x : Int32) : Int32 := x - (q_sh x 1 &&& 1431655765)
def q_bc2 (x : Int32) : Int32 := (x &&& 858993459) + (q_sh x 2 &&& 858993459)
def q_bc3 (x : Int32) : Int32 := (x + q_sh x 4) &&& 252645135
def q_bc4 (x : Int32) : Int32 := x + q_sh x 8
def q_bc5 (x : Int32) : Int32 := x + q_sh x 16
def q_bc (x : Int32) : Int32 := q_bc5 (q_bc4 (q_bc3 (q_bc2 (q_bc1 x)))) &&& 63
set_option maxHeartbeats 4000000 in
set_option maxRecDepth 100000 in
/-- Integer.bitCount -/
theorem k_bc (l : Launch) (dC : Nat → ClassId) (dI : Nat → Nat → Nat) (sz : Nat) (cI : ClassId) (cZ : ClassId) (cQ : ClassId) (x1 : Int32)  : Met l y_JInteger_bitCount w_JInteger_bitCount ({ frames := 0, cells := 0, slots := 0, locals := 0 } : Room) (va_Pc [.int x1] (fun U => U.heap.size = sz ∧ va_P (dC, dI) vw_cls [] U.heap ∧ g_K dC dI [(cI, .int), (cZ, .boolean), (cQ, (.object "SettingSearch$Answers"))] U ∧ va_D (fun _ => True) [])) (va_Qi (fun (r : Int32) (u : Unit) => r = q_bc x1) (fun (u : Unit) (t : State) => va_P (dC, dI) vw_cls [] t.heap ∧ va_D (va_A [] sz) []) (va_A [] sz)) 0 0 (va_A [] sz) := by
  refine Met.ofW (cc := b_JInteger_bitCount) (maxL := 1) (ret := (some .int)) (by decide) rfl ?_
  intro p e s m args below meth c s₁ B hml hv
  obtain ⟨rfl, hsz, hP, hKN, hD0⟩ := hv
  obtain ⟨hK, hN⟩ := id hKN
  have hx := B.exec
  have hb := B.bytes
  have hr := B.returns
  have hts0 := atoms_spec (ws := w_JInteger_bitCount) B.pre
  have hts : ∀ w ∈ lw_g, w.before _ s = true := fun w h => hts0 w (List.mem_cons_of_mem _ h)
  have hown : s.vm.findClass R_JInteger = some m.cls := findClass_of_methodNamed B.named
  have hlocks := B.notSynchronized
  subst hsz
  have hD := hD0.self (sz := s.heap.size)
  generalize hAe : va_A [] s.heap.size = A at hD ⊢
  have hA : ∀ q : Nat, s.heap.size ≤ q → A q := fun q h => by rw [← hAe]; exact Or.inr h
  have hP : va_P (dC, dI) vw_cls [] s.heap := hP
  have hl := lv_entry ([.int x1]) (n := 1) (Nat.le_of_ble_eq_true rfl)
  rw [lg_entry_eq]
  generalize (lg_sl ([.int x1]) ++ List.replicate (1 - (lg_sl ([.int x1])).length) Slot.unset).toArray = ls at hl ⊢
  have hl : lv_has ls 1 [(0, .int x1)] := hl
  refine gw_start (fun H locs hH hlocs => ?_)
  rw [← hH] at hP
  have hS : va_S A s.heap H locs := by rw [hH, hlocs]; exact va_S.rf
  refine lv_iload_n hx hb d_JInteger_bitCount_0 rfl (lv_at hl 0 rfl) ?_
  refine lv_iload_n hx hb d_JInteger_bitCount_1 rfl (lv_at hl 0 rfl) ?_
  refine lv_iconst (v := 1) hx hb d_JInteger_bitCount_2 (by decide) ?_
  refine lv_iushr hx hb d_JInteger_bitCount_3 rfl ?_
  refine lv_topi (fun v_1 ev_1 => ?_)
  refine lv_ldcw (v := 1431655765) hx hb hown (hts _ tw_405) d_JInteger_bitCount_4 ?_
  refine lv_iand hx hb d_JInteger_bitCount_7 ?_
  refine lv_topi (fun v_2 ev_2 => ?_)
  refine lv_isub hx hb d_JInteger_bitCount_8 ?_
  refine lv_topi (fun v_3 ev_3 => ?_)
  refine lv_istore_n (lv' := [(0, .int v_3)]) hx hb d_JInteger_bitCount_9 rfl hl (by decide) rfl (fun ls hl => ?_)
  refine lv_iload_n hx hb d_JInteger_bitCount_10 rfl (lv_at hl 0 rfl) ?_
  refine lv_ldcw (v := 858993459) hx hb hown (hts _ tw_406) d_JInteger_bitCount_11 ?_
  refine lv_iand hx hb d_JInteger_bitCount_14 ?_
  refine lv_topi (fun v_4 ev_4 => ?_)
  refine lv_iload_n hx hb d_JInteger_bitCount_15 rfl (lv_at hl 0 rfl) ?_
  refine lv_iconst (v := 2) hx hb d_JInteger_bitCount_16 (by decide) ?_
  refine lv_iushr hx hb d_JInteger_bitCount_17 rfl ?_
  refine lv_topi (fun v_5 ev_5 => ?_)
  refine lv_ldcw (v := 858993459) hx hb hown (hts _ tw_406) d_JInteger_bitCount_18 ?_
  refine lv_iand hx hb d_JInteger_bitCount_21 ?_
  refine lv_topi (fun v_6 ev_6 => ?_)
  refine lv_iadd hx hb d_JInteger_bitCount_22 ?_
  refine lv_topi (fun v_7 ev_7 => ?_)
  refine lv_istore_n (lv' := [(0, .int v_7)]) hx hb d_JInteger_bitCount_23 rfl hl (by decide) rfl (fun ls hl => ?_)
  refine lv_iload_n hx hb d_JInteger_bitCount_24 rfl (lv_at hl 0 rfl) ?_
  refine lv_iload_n hx hb d_JInteger_bitCount_25 rfl (lv_at hl 0 rfl) ?_
  refine lv_iconst (v := 4) hx hb d_JInteger_bitCount_26 (by decide) ?_
  refine lv_iushr hx hb d_JInteger_bitCount_27 rfl ?_
  refine lv_topi (fun v_8 ev_8 => ?_)
  refine lv_iadd hx hb d_JInteger_bitCount_28 ?_
  refine lv_topi (fun v_9 ev_9 => ?_)
  refine lv_ldcw (v := 252645135) hx hb hown (hts _ tw_407) d_JInteger_bitCount_29 ?_
  refine lv_iand hx hb d_JInteger_bitCount_32 ?_
  refine lv_topi (fun v_10 ev_10 => ?_)
  refine lv_istore_n (lv' := [(0, .int v_10)]) hx hb d_JInteger_bitCount_33 rfl hl (by decide) rfl (fun ls hl => ?_)
  refine lv_iload_n hx hb d_JInteger_bitCount_34 rfl (lv_at hl 0 rfl) ?_
  refine lv_iload_n hx hb d_JInteger_bitCount_35 rfl (lv_at hl 0 rfl) ?_
  refine lv_bipush (v := 8) hx hb d_JInteger_bitCount_36 (by decide) ?_
  refine lv_iushr hx hb d_JInteger_bitCount_38 rfl ?_
  refine lv_topi (fun v_11 ev_11 => ?_)
  refine lv_iadd hx hb d_JInteger_bitCount_39 ?_
  refine lv_topi (fun v_12 ev_12 => ?_)
  refine lv_istore_n (lv' := [(0, .int v_12)]) hx hb d_JInteger_bitCount_40 rfl hl (by decide) rfl (fun ls hl => ?_)
  refine lv_iload_n hx hb d_JInteger_bitCount_41 rfl (lv_at hl 0 rfl) ?_
  refine lv_iload_n hx hb d_JInteger_bitCount_42 rfl (lv_at hl 0 rfl) ?_
  refine lv_bipush (v := 16) hx hb d_JInteger_bitCount_43 (by decide) ?_
  refine lv_iushr hx hb d_JInteger_bitCount_45 rfl ?_
  refine lv_topi (fun v_13 ev_13 => ?_)
  refine lv_iadd hx hb d_JInteger_bitCount_46 ?_
  refine lv_topi (fun v_14 ev_14 => ?_)
  refine lv_istore_n (lv' := [(0, .int v_14)]) hx hb d_JInteger_bitCount_47 rfl hl (by decide) rfl (fun ls hl => ?_)
  refine lv_iload_n hx hb d_JInteger_bitCount_48 rfl (lv_at hl 0 rfl) ?_
  refine lv_bipush (v := 63) hx hb d_JInteger_bitCount_49 (by decide) ?_
  refine lv_iand hx hb d_JInteger_bitCount_51 ?_
  refine lv_topi (fun v_15 ev_15 => ?_)
  have hP9 := hP.sub (ws' := []) [] rfl
  have hD9 := hD.sub (ws' := []) [] (by decide) rfl
  have hpost_16 : (v_15 : Int32) = q_bc x1 := by simp only [ev_1, ev_2, ev_3, ev_4, ev_5, ev_6, ev_7, ev_8, ev_9, ev_10, ev_11, ev_12, ev_13, ev_14, ev_15]; rfl
  exact W.iret (v := v_15) hx hb hr (fun t ht hW => ⟨⟨v_15, (), rfl, hpost_16, by rw [ht]; exact hP9, hD9⟩, hS.F ht⟩) hS.2.2 d_JInteger_bitCount_52
