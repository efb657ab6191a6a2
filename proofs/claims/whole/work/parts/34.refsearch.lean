set_option maxHeartbeats 4000000 in
set_option maxRecDepth 100000 in
theorem L_wor {p : Program} {l : Launch} {e : Env} {s : State} {m : MethodId} {args : Array Value} {below : List Frame} {meth : Method} {c : Code} {Q : State → Prop} {A : Nat → Prop} (hx : p.tables.exec = Jvm.exec) (hb : c.code = b_Ref_worthOf) (hml : c.maxLocals = 5) (hown : s.vm.findClass R_Ref = some m.cls) (hts : ∀ w ∈ lw_g, w.before args s = true) (hA : ∀ q, s.heap.size ≤ q → A q) {dC : Nat → ClassId} {dI : Nat → Nat → Nat} (cI : ClassId) (cZ : ClassId) (cQ : ClassId) (b0 : Nat) (rc : Int32) (bS : Nat) (bC : Nat) (rv : Int32) (bW : Nat) (rp : Int32) (bCe : Nat) (bA : Nat) (bB : Nat) (bM : Nat) (rf : Int32) (bG : Nat) (bK : Nat) (bCa : Nat) (bL : Nat) (rd : Int32) (rg : Int32) (re : Int32) (bO : Nat) (rl : Int32) (rq : Int32) (rb : Int32) (rz : Int64) (uW : Nat → Int32) (uCa : Nat → Int32) (t1 : Int32) (jt : Nat)  (ht1 : t1 = nI jt) (hjt : jt < 256)  (hKN : g_K dC dI [(cI, .int), (cZ, .boolean), (cQ, (.object "SettingSearch$Answers"))] s)
    (kx_43 : ∀ (i : Nat) (xi : Int32) (acc : Int64) (_ : i ≤ 9) (_ : xi = nI i) (_ : acc = q_wor uCa uW jt i) (_ : i = 9) (H : Heap) (locs : List Loc), va_P (dC, dI) vw_cls [(b0, .inr (1, [.int rc, .ref bS, .ref bC, .int rv, .ref bW, .int rp, .ref bCe, .ref bA, .ref bB, .ref bM, .int rf, .ref bG, .ref bK, .ref bCa, .ref bL, .int rd, .int rg, .int re, .ref bO, .int rl, .int rq, .int rb, .long rz])), (bW, .inl (cI, 9, .inl uW)), (bCa, .inl (cI, 2304, .inl uCa))] H → va_D A [(b0, .inr (1, [.int rc, .ref bS, .ref bC, .int rv, .ref bW, .int rp, .ref bCe, .ref bA, .ref bB, .ref bM, .int rf, .ref bG, .ref bK, .ref bCa, .ref bL, .int rd, .int rg, .int re, .ref bO, .int rl, .int rq, .int rb, .long rz])), (bW, .inl (cI, 9, .inl uW)), (bCa, .inl (cI, 2304, .inl uCa))] → va_S A s.heap H locs → ∀ (ls : Array Slot), lv_has ls 5 [(0, .ref b0), (1, .int t1), (2, .long acc), (4, .int xi)] → W p l e ({ frames := 0, cells := 0, slots := 0, locals := 0 } : Room) s m args below meth c H locs 0 0 Q (F0 m 43 ls [])) :
    ∀ (n : Nat) (i : Nat) (xi : Int32) (acc : Int64) (_ : i ≤ 9) (_ : xi = nI i) (_ : acc = q_wor uCa uW jt i) (_ : 9 - i < n) (H : Heap) (locs : List Loc), va_P (dC, dI) vw_cls [(b0, .inr (1, [.int rc, .ref bS, .ref bC, .int rv, .ref bW, .int rp, .ref bCe, .ref bA, .ref bB, .ref bM, .int rf, .ref bG, .ref bK, .ref bCa, .ref bL, .int rd, .int rg, .int re, .ref bO, .int rl, .int rq, .int rb, .long rz])), (bW, .inl (cI, 9, .inl uW)), (bCa, .inl (cI, 2304, .inl uCa))] H → va_D A [(b0, .inr (1, [.int rc, .ref bS, .ref bC, .int rv, .ref bW, .int rp, .ref bCe, .ref bA, .ref bB, .ref bM, .int rf, .ref bG, .ref bK, .ref bCa, .ref bL, .int rd, .int rg, .int re, .ref bO, .int rl, .int rq, .int rb, .long rz])), (bW, .inl (cI, 9, .inl uW)), (bCa, .inl (cI, 2304, .inl uCa))] → va_S A s.heap H locs → ∀ (ls : Array Slot), lv_has ls 5 [(0, .ref b0), (1, .int t1), (2, .long acc), (4, .int xi)] → W p l e ({ frames := 0, cells := 0, slots := 0, locals := 0 } : Room) s m args below meth c H locs 0 0 Q (F0 m 5 ls []) := by
  obtain ⟨hK, hN⟩ := id hKN
  intro n
  induction n with
  | zero =>
    intro i xi acc hi exi eacc hm
    exact absurd hm (Nat.not_lt_zero _)
  | succ n ih =>
    intro i xi acc hi exi eacc hm H locs hP hD hS ls hl
    refine lv_iload hx hb d_Ref_worthOf_5 (lv_at hl 3 rfl) ?_
    refine lv_bipush (v := 9) hx hb d_Ref_worthOf_7 (by decide) ?_
    refine lv_icmp_ge (tgt := 43) hx hb d_Ref_worthOf_9 (by decide) (fun c_1 => ?_) (fun c_1 => ?_)
    · skip
      have hendi := lp_ge (N := 9) c_1 exi rfl hi (by omega)
      exact kx_43 i xi acc hi exi eacc hendi H locs (hP.sub [0, 1, 2] rfl) (hD.sub [0, 1, 2] (by decide) rfl) hS ls (lv_sub hl [0, 1, 2, 3] rfl)
    · skip
      have hlti := lp_lt (N := 9) c_1 exi rfl (by omega)
      refine lv_lload_n hx hb d_Ref_worthOf_12 rfl (lv_at hl 2 rfl) ?_
      refine lv_aload_n hx hb d_Ref_worthOf_13 rfl (lv_at hl 0 rfl) ?_
      refine va_get (D := (dC, dI)) (ci := 1) (v := .ref bCa) (C := R_Ref) (T := T_Ref) (N := 23) hx hb hts in_Ref hown hK hP 0 rfl rfl 13 (by decide) (hts _ tw_442) (fun _ h9 => h9) rfl d_Ref_worthOf_14 ?_
      refine lv_bipush (v := 9) hx hb d_Ref_worthOf_17 (by decide) ?_
      refine lv_iload_n hx hb d_Ref_worthOf_19 rfl (lv_at hl 1 rfl) ?_
      refine lv_imul hx hb d_Ref_worthOf_20 ?_
      refine lv_topi (fun v_2 ev_2 => ?_)
      refine lv_iload hx hb d_Ref_worthOf_21 (lv_at hl 3 rfl) ?_
      refine lv_iadd hx hb d_Ref_worthOf_23 ?_
      refine lv_topi (fun v_3 ev_3 => ?_)
      have eh_4 : v_3 = nI (9 * jt + i) := by simp only [ev_2, ev_3]; rw [ht1, exi, ix_p9]
      have bh_4 : 9 * jt + i < 2304 := by omega
      have h_4 : vp_in v_3 2304 := by rw [eh_4]; exact vp_in_nI bh_4 (by decide)
      have kh_4 : v_3.toNatClampNeg = 9 * jt + i := by rw [eh_4]; exact nI_clamp (by omega)
      refine va_iald hx hb hK hP 2 0 rfl rfl h_4 d_Ref_worthOf_24 ?_
      rw [kh_4]
      refine lv_topi (fun v_5 ev_5 => ?_)
      refine lv_i2l hx hb d_Ref_worthOf_25 rfl ?_
      refine lv_topl (fun v_6 ev_6 => ?_)
      refine lv_aload_n hx hb d_Ref_worthOf_26 rfl (lv_at hl 0 rfl) ?_
      refine va_get (D := (dC, dI)) (ci := 1) (v := .ref bW) (C := R_Ref) (T := T_Ref) (N := 23) hx hb hts in_Ref hown hK hP 0 rfl rfl 4 (by decide) (hts _ tw_433) (fun _ h9 => h9) rfl d_Ref_worthOf_27 ?_
      refine lv_iload hx hb d_Ref_worthOf_30 (lv_at hl 3 rfl) ?_
      have eh_7 : xi = nI (i) := exi
      have bh_7 : i < 9 := by omega
      have h_7 : vp_in xi 9 := by rw [eh_7]; exact vp_in_nI bh_7 (by decide)
      have kh_7 : xi.toNatClampNeg = i := by rw [eh_7]; exact nI_clamp (by omega)
      refine va_iald hx hb hK hP 1 0 rfl rfl h_7 d_Ref_worthOf_32 ?_
      rw [kh_7]
      refine lv_topi (fun v_8 ev_8 => ?_)
      refine lv_i2l hx hb d_Ref_worthOf_33 rfl ?_
      refine lv_topl (fun v_9 ev_9 => ?_)
      refine lv_lmul hx hb d_Ref_worthOf_34 ?_
      refine lv_topl (fun v_10 ev_10 => ?_)
      refine lv_ladd hx hb d_Ref_worthOf_35 ?_
      refine lv_topl (fun v_11 ev_11 => ?_)
      refine lv_lstore_n (lv' := [(2, .long v_11), (0, .ref b0), (1, .int t1), (4, .int xi)]) hx hb d_Ref_worthOf_36 rfl hl (by decide) rfl (fun ls hl => ?_)
      obtain ⟨v_12, ev_12⟩ : ∃ y : Int32, y = xi + 1 := ⟨_, rfl⟩
      refine lv_iinc (v := v_12) (lv' := [(4, .int v_12), (2, .long v_11), (0, .ref b0), (1, .int t1)]) hx hb d_Ref_worthOf_37 hl (k := 3) rfl (by rw [ev_12]; rfl) (by decide) rfl (fun ls hl => ?_)
      refine lv_goto (tgt := 5) hx hb d_Ref_worthOf_40 (by decide) ?_
      exact ih (i + 1) v_12 v_11 hlti (by rw [ev_12, exi]; exact nI_1 i) (by simp only [ev_2, ev_3, ev_5, ev_6, ev_8, ev_9, ev_10, ev_11, ev_12, eacc]; rfl) (by omega) H locs (hP.sub [0, 1, 2] rfl) (hD.sub [0, 1, 2] (by decide) rfl) hS ls (lv_sub hl [2, 3, 1, 0] rfl)
set_option maxHeartbeats 4000000 in
set_option maxRecDepth 100000 in
/-- the reference: worthOf -/
theorem m_wo (l : Launch) (dC : Nat → ClassId) (dI : Nat → Nat → Nat) (sz : Nat) (cI : ClassId) (cZ : ClassId) (cQ : ClassId) (b0 : Nat) (rc : Int32) (bS : Nat) (bC : Nat) (rv : Int32) (bW : Nat) (rp : Int32) (bCe : Nat) (bA : Nat) (bB : Nat) (bM : Nat) (rf : Int32) (bG : Nat) (bK : Nat) (bCa : Nat) (bL : Nat) (rd : Int32) (rg : Int32) (re : Int32) (bO : Nat) (rl : Int32) (rq : Int32) (rb : Int32) (rz : Int64) (uW : Nat → Int32) (uCa : Nat → Int32) (t1 : Int32) (jt : Nat) (ht1 : t1 = nI jt) (hjt : jt < 256) : Met l y_Ref_worthOf w_Ref_worthOf ({ frames := 0, cells := 0, slots := 0, locals := 0 } : Room) (va_Pc [.ref b0, .int t1] (fun U => U.heap.size = sz ∧ va_P (dC, dI) vw_cls [(b0, .inr (1, [.int rc, .ref bS, .ref bC, .int rv, .ref bW, .int rp, .ref bCe, .ref bA, .ref bB, .ref bM, .int rf, .ref bG, .ref bK, .ref bCa, .ref bL, .int rd, .int rg, .int re, .ref bO, .int rl, .int rq, .int rb, .long rz])), (bW, .inl (cI, 9, .inl uW)), (bCa, .inl (cI, 2304, .inl uCa))] U.heap ∧ g_K dC dI [(cI, .int), (cZ, .boolean), (cQ, (.object "SettingSearch$Answers"))] U ∧ va_D (fun _ => True) [(b0, .inr (1, [.int rc, .ref bS, .ref bC, .int rv, .ref bW, .int rp, .ref bCe, .ref bA, .ref bB, .ref bM, .int rf, .ref bG, .ref bK, .ref bCa, .ref bL, .int rd, .int rg, .int re, .ref bO, .int rl, .int rq, .int rb, .long rz])), (bW, .inl (cI, 9, .inl uW)), (bCa, .inl (cI, 2304, .inl uCa))])) (va_Ql (fun (r : Int64) (u : Unit) => r = q_wor uCa uW jt 9) (fun (u : Unit) (t : State) => va_P (dC, dI) vw_cls [(b0, .inr (1, [.int rc, .ref bS, .ref bC, .int rv, .ref bW, .int rp, .ref bCe, .ref bA, .ref bB, .ref bM, .int rf, .ref bG, .ref bK, .ref bCa, .ref bL, .int rd, .int rg, .int re, .ref bO, .int rl, .int rq, .int rb, .long rz])), (bW, .inl (cI, 9, .inl uW)), (bCa, .inl (cI, 2304, .inl uCa))] t.heap ∧ va_D (va_A [(b0, .inr (1, [.int rc, .ref bS, .ref bC, .int rv, .ref bW, .int rp, .ref bCe, .ref bA, .ref bB, .ref bM, .int rf, .ref bG, .ref bK, .ref bCa, .ref bL, .int rd, .int rg, .int re, .ref bO, .int rl, .int rq, .int rb, .long rz])), (bW, .inl (cI, 9, .inl uW)), (bCa, .inl (cI, 2304, .inl uCa))] sz) [(b0, .inr (1, [.int rc, .ref bS, .ref bC, .int rv, .ref bW, .int rp, .ref bCe, .ref bA, .ref bB, .ref bM, .int rf, .ref bG, .ref bK, .ref bCa, .ref bL, .int rd, .int rg, .int re, .ref bO, .int rl, .int rq, .int rb, .long rz])), (bW, .inl (cI, 9, .inl uW)), (bCa, .inl (cI, 2304, .inl uCa))]) (va_A [(b0, .inr (1, [.int rc, .ref bS, .ref bC, .int rv, .ref bW, .int rp, .ref bCe, .ref bA, .ref bB, .ref bM, .int rf, .ref bG, .ref bK, .ref bCa, .ref bL, .int rd, .int rg, .int re, .ref bO, .int rl, .int rq, .int rb, .long rz])), (bW, .inl (cI, 9, .inl uW)), (bCa, .inl (cI, 2304, .inl uCa))] sz)) 0 0 (va_A [(b0, .inr (1, [.int rc, .ref bS, .ref bC, .int rv, .ref bW, .int rp, .ref bCe, .ref bA, .ref bB, .ref bM, .int rf, .ref bG, .ref bK, .ref bCa, .ref bL, .int rd, .int rg, .int re, .ref bO, .int rl, .int rq, .int rb, .long rz])), (bW, .inl (cI, 9, .inl uW)), (bCa, .inl (cI, 2304, .inl uCa))] sz) := by
  refine Met.ofW (cc := b_Ref_worthOf) (maxL := 5) (ret := (some .long)) (by decide) rfl ?_
  intro p e s m args below meth c s₁ B hml hv
  obtain ⟨rfl, hsz, hP, hKN, hD0⟩ := hv
  obtain ⟨hK, hN⟩ := id hKN
  have hx := B.exec
  have hb := B.bytes
  have hr := B.returns
  have hts0 := atoms_spec (ws := w_Ref_worthOf) B.pre
  have hts : ∀ w ∈ lw_g, w.before _ s = true := fun w h => hts0 w (List.mem_cons_of_mem _ h)
  have hown : s.vm.findClass R_Ref = some m.cls := findClass_of_methodNamed B.named
  have hlocks := B.notSynchronized
  subst hsz
  have hD := hD0.self (sz := s.heap.size)
  generalize hAe : va_A [(b0, .inr (1, [.int rc, .ref bS, .ref bC, .int rv, .ref bW, .int rp, .ref bCe, .ref bA, .ref bB, .ref bM, .int rf, .ref bG, .ref bK, .ref bCa, .ref bL, .int rd, .int rg, .int re, .ref bO, .int rl, .int rq, .int rb, .long rz])), (bW, .inl (cI, 9, .inl uW)), (bCa, .inl (cI, 2304, .inl uCa))] s.heap.size = A at hD ⊢
  have hA : ∀ q : Nat, s.heap.size ≤ q → A q := fun q h => by rw [← hAe]; exact Or.inr h
  have hP : va_P (dC, dI) vw_cls [(b0, .inr (1, [.int rc, .ref bS, .ref bC, .int rv, .ref bW, .int rp, .ref bCe, .ref bA, .ref bB, .ref bM, .int rf, .ref bG, .ref bK, .ref bCa, .ref bL, .int rd, .int rg, .int re, .ref bO, .int rl, .int rq, .int rb, .long rz])), (bW, .inl (cI, 9, .inl uW)), (bCa, .inl (cI, 2304, .inl uCa))] s.heap := hP
  have hl := lv_entry ([.ref b0, .int t1]) (n := 5) (Nat.le_of_ble_eq_true rfl)
  rw [lg_entry_eq]
  generalize (lg_sl ([.ref b0, .int t1]) ++ List.replicate (5 - (lg_sl ([.ref b0, .int t1])).length) Slot.unset).toArray = ls at hl ⊢
  have hl : lv_has ls 5 [(0, .ref b0), (1, .int t1)] := hl
  refine gw_start (fun H locs hH hlocs => ?_)
  rw [← hH] at hP
  have hS : va_S A s.heap H locs := by rw [hH, hlocs]; exact va_S.rf
  refine lv_lconst (v := 0) hx hb d_Ref_worthOf_0 (by decide) ?_
  refine lv_lstore_n (lv' := [(2, .long 0), (0, .ref b0), (1, .int t1)]) hx hb d_Ref_worthOf_1 rfl hl (by decide) rfl (fun ls hl => ?_)
  refine lv_iconst (v := 0) hx hb d_Ref_worthOf_2 (by decide) ?_
  refine lv_istore (lv' := [(4, .int 0), (2, .long 0), (0, .ref b0), (1, .int t1)]) hx hb d_Ref_worthOf_3 hl (by decide) rfl (fun ls hl => ?_)
  refine L_wor hx hb hml hown hts hA cI cZ cQ b0 rc bS bC rv bW rp bCe bA bB bM rf bG bK bCa bL rd rg re bO rl rq rb rz uW uCa t1 jt ht1 hjt hKN ?_ (9 - 0 + 1) 0 0 0 (Nat.zero_le _) rfl rfl (Nat.lt_succ_self _) H locs (hP.sub [0, 1, 2] rfl) (hD.sub [0, 1, 2] (by decide) rfl) hS ls (lv_sub hl [2, 3, 1, 0] rfl)
  intro i xi acc hi exi eacc hendi H locs hP hD hS ls hl
  have hl : lv_has ls 5 [(0, .ref b0), (1, .int t1), (2, .long acc), (4, .int xi)] := hl
  have hP : va_P (dC, dI) vw_cls [(b0, .inr (1, [.int rc, .ref bS, .ref bC, .int rv, .ref bW, .int rp, .ref bCe, .ref bA, .ref bB, .ref bM, .int rf, .ref bG, .ref bK, .ref bCa, .ref bL, .int rd, .int rg, .int re, .ref bO, .int rl, .int rq, .int rb, .long rz])), (bW, .inl (cI, 9, .inl uW)), (bCa, .inl (cI, 2304, .inl uCa))] H := hP
  have hD : va_D A [(b0, .inr (1, [.int rc, .ref bS, .ref bC, .int rv, .ref bW, .int rp, .ref bCe, .ref bA, .ref bB, .ref bM, .int rf, .ref bG, .ref bK, .ref bCa, .ref bL, .int rd, .int rg, .int re, .ref bO, .int rl, .int rq, .int rb, .long rz])), (bW, .inl (cI, 9, .inl uW)), (bCa, .inl (cI, 2304, .inl uCa))] := hD
  refine lv_lload_n hx hb d_Ref_worthOf_43 rfl (lv_at hl 2 rfl) ?_
  have hP9 := hP.sub (ws' := [(b0, .inr (1, [.int rc, .ref bS, .ref bC, .int rv, .ref bW, .int rp, .ref bCe, .ref bA, .ref bB, .ref bM, .int rf, .ref bG, .ref bK, .ref bCa, .ref bL, .int rd, .int rg, .int re, .ref bO, .int rl, .int rq, .int rb, .long rz])), (bW, .inl (cI, 9, .inl uW)), (bCa, .inl (cI, 2304, .inl uCa))]) [0, 1, 2] rfl
  have hD9 := hD.sub (ws' := [(b0, .inr (1, [.int rc, .ref bS, .ref bC, .int rv, .ref bW, .int rp, .ref bCe, .ref bA, .ref bB, .ref bM, .int rf, .ref bG, .ref bK, .ref bCa, .ref bL, .int rd, .int rg, .int re, .ref bO, .int rl, .int rq, .int rb, .long rz])), (bW, .inl (cI, 9, .inl uW)), (bCa, .inl (cI, 2304, .inl uCa))]) [0, 1, 2] (by decide) rfl
  have hpost_1 : (acc : Int64) = q_wor uCa uW jt 9 := by rw [eacc, hendi]
  exact W.lret (v := acc) hx hb hr (fun t ht hW => ⟨⟨acc, (), rfl, hpost_1, by rw [ht]; exact hP9, hD9⟩, hS.F ht⟩) hS.2.2 d_Ref_worthOf_44
set_option maxHeartbeats 4000000 in
set_option maxRecDepth 100000 in
theorem L_bor {p : Program} {l : Launch} {e : Env} {s : State} {m : MethodId} {args : Array Value} {below : List Frame} {meth : Method} {c : Code} {Q : State → Prop} {A : Nat → Prop} (hx : p.tables.exec = Jvm.exec) (hb : c.code = b_Ref_boundOf) (hml : c.maxLocals = 3) (hown : s.vm.findClass R_Ref = some m.cls) (hts : ∀ w ∈ lw_g, w.before args s = true) (hA : ∀ q, s.heap.size ≤ q → A q) {dC : Nat → ClassId} {dI : Nat → Nat → Nat} (cI : ClassId) (cZ : ClassId) (cQ : ClassId) (b0 : Nat) (rc : Int32) (bS : Nat) (bC : Nat) (rv : Int32) (bW : Nat) (rp : Int32) (bCe : Nat) (bA : Nat) (bB : Nat) (bM : Nat) (rf : Int32) (bG : Nat) (bK : Nat) (bCa : Nat) (bL : Nat) (rd : Int32) (rg : Int32) (re : Int32) (bO : Nat) (rl : Int32) (rq : Int32) (rb : Int32) (rz : Int64) (uW : Nat → Int32) (uG : Nat → Int32) (jf : Nat)  (hrd : rd = nI jf) (hjf : jf < 4)  (hKN : g_K dC dI [(cI, .int), (cZ, .boolean), (cQ, (.object "SettingSearch$Answers"))] s)
    (kx_37 : ∀ (i : Nat) (xi : Int32) (acc : Int32) (_ : i ≤ 9) (_ : xi = nI i) (_ : acc = q_mx uW i) (_ : i = 9) (H : Heap) (locs : List Loc), va_P (dC, dI) vw_cls [(b0, .inr (1, [.int rc, .ref bS, .ref bC, .int rv, .ref bW, .int rp, .ref bCe, .ref bA, .ref bB, .ref bM, .int rf, .ref bG, .ref bK, .ref bCa, .ref bL, .int rd, .int rg, .int re, .ref bO, .int rl, .int rq, .int rb, .long rz])), (bW, .inl (cI, 9, .inl uW)), (bG, .inl (cI, 4, .inl uG))] H → va_D A [(b0, .inr (1, [.int rc, .ref bS, .ref bC, .int rv, .ref bW, .int rp, .ref bCe, .ref bA, .ref bB, .ref bM, .int rf, .ref bG, .ref bK, .ref bCa, .ref bL, .int rd, .int rg, .int re, .ref bO, .int rl, .int rq, .int rb, .long rz])), (bW, .inl (cI, 9, .inl uW)), (bG, .inl (cI, 4, .inl uG))] → va_S A s.heap H locs → ∀ (ls : Array Slot), lv_has ls 3 [(0, .ref b0), (1, .int acc), (2, .int xi)] → W p l e ({ frames := 0, cells := 0, slots := 0, locals := 0 } : Room) s m args below meth c H locs 0 0 Q (F0 m 37 ls [])) :
    ∀ (n : Nat) (i : Nat) (xi : Int32) (acc : Int32) (_ : i ≤ 9) (_ : xi = nI i) (_ : acc = q_mx uW i) (_ : 9 - i < n) (H : Heap) (locs : List Loc), va_P (dC, dI) vw_cls [(b0, .inr (1, [.int rc, .ref bS, .ref bC, .int rv, .ref bW, .int rp, .ref bCe, .ref bA, .ref bB, .ref bM, .int rf, .ref bG, .ref bK, .ref bCa, .ref bL, .int rd, .int rg, .int re, .ref bO, .int rl, .int rq, .int rb, .long rz])), (bW, .inl (cI, 9, .inl uW)), (bG, .inl (cI, 4, .inl uG))] H → va_D A [(b0, .inr (1, [.int rc, .ref bS, .ref bC, .int rv, .ref bW, .int rp, .ref bCe, .ref bA, .ref bB, .ref bM, .int rf, .ref bG, .ref bK, .ref bCa, .ref bL, .int rd, .int rg, .int re, .ref bO, .int rl, .int rq, .int rb, .long rz])), (bW, .inl (cI, 9, .inl uW)), (bG, .inl (cI, 4, .inl uG))] → va_S A s.heap H locs → ∀ (ls : Array Slot), lv_has ls 3 [(0, .ref b0), (1, .int acc), (2, .int xi)] → W p l e ({ frames := 0, cells := 0, slots := 0, locals := 0 } : Room) s m args below meth c H locs 0 0 Q (F0 m 4 ls []) := by
  obtain ⟨hK, hN⟩ := id hKN
  intro n
  induction n with
  | zero =>
    intro i xi acc hi exi eacc hm
    exact absurd hm (Nat.not_lt_zero _)
  | succ n ih =>
    intro i xi acc hi exi eacc hm H locs hP hD hS ls hl
    refine lv_iload_n hx hb d_Ref_boundOf_4 rfl (lv_at hl 2 rfl) ?_
    refine lv_bipush (v := 9) hx hb d_Ref_boundOf_5 (by decide) ?_
    refine lv_icmp_ge (tgt := 37) hx hb d_Ref_boundOf_7 (by decide) (fun c_1 => ?_) (fun c_1 => ?_)
    · skip
      have hendi := lp_ge (N := 9) c_1 exi rfl hi (by omega)
      exact kx_37 i xi acc hi exi eacc hendi H locs (hP.sub [0, 1, 2] rfl) (hD.sub [0, 1, 2] (by decide) rfl) hS ls (lv_sub hl [0, 1, 2] rfl)
    · skip
      have hlti := lp_lt (N := 9) c_1 exi rfl (by omega)
      refine lv_aload_n hx hb d_Ref_boundOf_10 rfl (lv_at hl 0 rfl) ?_
      refine va_get (D := (dC, dI)) (ci := 1) (v := .ref bW) (C := R_Ref) (T := T_Ref) (N := 23) hx hb hts in_Ref hown hK hP 0 rfl rfl 4 (by decide) (hts _ tw_433) (fun _ h9 => h9) rfl d_Ref_boundOf_11 ?_
      refine lv_iload_n hx hb d_Ref_boundOf_14 rfl (lv_at hl 2 rfl) ?_
      have eh_2 : xi = nI (i) := exi
      have bh_2 : i < 9 := by omega
      have h_2 : vp_in xi 9 := by rw [eh_2]; exact vp_in_nI bh_2 (by decide)
      have kh_2 : xi.toNatClampNeg = i := by rw [eh_2]; exact nI_clamp (by omega)
      refine va_iald hx hb hK hP 1 0 rfl rfl h_2 d_Ref_boundOf_15 ?_
      rw [kh_2]
      refine lv_topi (fun v_3 ev_3 => ?_)
      refine lv_iload_n hx hb d_Ref_boundOf_16 rfl (lv_at hl 1 rfl) ?_
      refine lv_icmp_le (tgt := 29) hx hb d_Ref_boundOf_17 (by decide) (fun c_4 => ?_) (fun c_4 => ?_)
      · skip
        have cm : ¬ q_mx uW i < uW i := by rw [← eacc, ← ev_3]; exact Int32.not_lt.mpr c_4
        refine lv_iload_n hx hb d_Ref_boundOf_29 rfl (lv_at hl 1 rfl) ?_
        refine lv_istore_n (lv' := [(1, .int acc), (0, .ref b0), (2, .int xi)]) hx hb d_Ref_boundOf_30 rfl hl (by decide) rfl (fun ls hl => ?_)
        obtain ⟨v_5, ev_5⟩ : ∃ y : Int32, y = xi + 1 := ⟨_, rfl⟩
        refine lv_iinc (v := v_5) (lv' := [(2, .int v_5), (1, .int acc), (0, .ref b0)]) hx hb d_Ref_boundOf_31 hl (k := 2) rfl (by rw [ev_5]; rfl) (by decide) rfl (fun ls hl => ?_)
        refine lv_goto (tgt := 4) hx hb d_Ref_boundOf_34 (by decide) ?_
        exact ih (i + 1) v_5 acc hlti (by rw [ev_5, exi]; exact nI_1 i) (by rw [q_mx]; first | (rw [if_neg cm, eacc]; done) | (rw [if_pos cm]; exact ev_3)) (by omega) H locs (hP.sub [0, 1, 2] rfl) (hD.sub [0, 1, 2] (by decide) rfl) hS ls (lv_sub hl [2, 1, 0] rfl)
      · skip
        have cm : q_mx uW i < uW i := by rw [← eacc, ← ev_3]; exact Int32.not_le.mp c_4
        refine lv_aload_n hx hb d_Ref_boundOf_20 rfl (lv_at hl 0 rfl) ?_
        refine va_get (D := (dC, dI)) (ci := 1) (v := .ref bW) (C := R_Ref) (T := T_Ref) (N := 23) hx hb hts in_Ref hown hK hP 0 rfl rfl 4 (by decide) (hts _ tw_433) (fun _ h9 => h9) rfl d_Ref_boundOf_21 ?_
        refine lv_iload_n hx hb d_Ref_boundOf_24 rfl (lv_at hl 2 rfl) ?_
        have eh_6 : xi = nI (i) := exi
        have bh_6 : i < 9 := by omega
        have h_6 : vp_in xi 9 := by rw [eh_6]; exact vp_in_nI bh_6 (by decide)
        have kh_6 : xi.toNatClampNeg = i := by rw [eh_6]; exact nI_clamp (by omega)
        refine va_iald hx hb hK hP 1 0 rfl rfl h_6 d_Ref_boundOf_25 ?_
        rw [kh_6]
        refine lv_topi (fun v_7 ev_7 => ?_)
        refine lv_goto (tgt := 30) hx hb d_Ref_boundOf_26 (by decide) ?_
        refine lv_istore_n (lv' := [(1, .int v_7), (0, .ref b0), (2, .int xi)]) hx hb d_Ref_boundOf_30 rfl hl (by decide) rfl (fun ls hl => ?_)
        obtain ⟨v_8, ev_8⟩ : ∃ y : Int32, y = xi + 1 := ⟨_, rfl⟩
        refine lv_iinc (v := v_8) (lv' := [(2, .int v_8), (1, .int v_7), (0, .ref b0)]) hx hb d_Ref_boundOf_31 hl (k := 2) rfl (by rw [ev_8]; rfl) (by decide) rfl (fun ls hl => ?_)
        refine lv_goto (tgt := 4) hx hb d_Ref_boundOf_34 (by decide) ?_
        exact ih (i + 1) v_8 v_7 hlti (by rw [ev_8, exi]; exact nI_1 i) (by rw [q_mx]; first | (rw [if_neg cm, eacc]; done) | (rw [if_pos cm]; exact ev_7)) (by omega) H locs (hP.sub [0, 1, 2] rfl) (hD.sub [0, 1, 2] (by decide) rfl) hS ls (lv_sub hl [2, 1, 0] rfl)
set_option maxHeartbeats 4000000 in
set_option maxRecDepth 100000 in
/-- the reference: boundOf -/
theorem m_bo (l : Launch) (dC : Nat → ClassId) (dI : Nat → Nat → Nat) (sz : Nat) (cI : ClassId) (cZ : ClassId) (cQ : ClassId) (b0 : Nat) (rc : Int32) (bS : Nat) (bC : Nat) (rv : Int32) (bW : Nat) (rp : Int32) (bCe : Nat) (bA : Nat) (bB : Nat) (bM : Nat) (rf : Int32) (bG : Nat) (bK : Nat) (bCa : Nat) (bL : Nat) (rd : Int32) (rg : Int32) (re : Int32) (bO : Nat) (rl : Int32) (rq : Int32) (rb : Int32) (rz : Int64) (uW : Nat → Int32) (uG : Nat → Int32) (jf : Nat) (hrd : rd = nI jf) (hjf : jf < 4) : Met l y_Ref_boundOf w_Ref_boundOf ({ frames := 0, cells := 0, slots := 0, locals := 0 } : Room) (va_Pc [.ref b0] (fun U => U.heap.size = sz ∧ va_P (dC, dI) vw_cls [(b0, .inr (1, [.int rc, .ref bS, .ref bC, .int rv, .ref bW, .int rp, .ref bCe, .ref bA, .ref bB, .ref bM, .int rf, .ref bG, .ref bK, .ref bCa, .ref bL, .int rd, .int rg, .int re, .ref bO, .int rl, .int rq, .int rb, .long rz])), (bW, .inl (cI, 9, .inl uW)), (bG, .inl (cI, 4, .inl uG))] U.heap ∧ g_K dC dI [(cI, .int), (cZ, .boolean), (cQ, (.object "SettingSearch$Answers"))] U ∧ va_D (fun _ => True) [(b0, .inr (1, [.int rc, .ref bS, .ref bC, .int rv, .ref bW, .int rp, .ref bCe, .ref bA, .ref bB, .ref bM, .int rf, .ref bG, .ref bK, .ref bCa, .ref bL, .int rd, .int rg, .int re, .ref bO, .int rl, .int rq, .int rb, .long rz])), (bW, .inl (cI, 9, .inl uW)), (bG, .inl (cI, 4, .inl uG))])) (va_Ql (fun (r : Int64) (u : Unit) => r = (uG jf).toInt64 * (q_mx uW 9).toInt64) (fun (u : Unit) (t : State) => va_P (dC, dI) vw_cls [(b0, .inr (1, [.int rc, .ref bS, .ref bC, .int rv, .ref bW, .int rp, .ref bCe, .ref bA, .ref bB, .ref bM, .int rf, .ref bG, .ref bK, .ref bCa, .ref bL, .int rd, .int rg, .int re, .ref bO, .int rl, .int rq, .int rb, .long rz])), (bW, .inl (cI, 9, .inl uW)), (bG, .inl (cI, 4, .inl uG))] t.heap ∧ va_D (va_A [(b0, .inr (1, [.int rc, .ref bS, .ref bC, .int rv, .ref bW, .int rp, .ref bCe, .ref bA, .ref bB, .ref bM, .int rf, .ref bG, .ref bK, .ref bCa, .ref bL, .int rd, .int rg, .int re, .ref bO, .int rl, .int rq, .int rb, .long rz])), (bW, .inl (cI, 9, .inl uW)), (bG, .inl (cI, 4, .inl uG))] sz) [(b0, .inr (1, [.int rc, .ref bS, .ref bC, .int rv, .ref bW, .int rp, .ref bCe, .ref bA, .ref bB, .ref bM, .int rf, .ref bG, .ref bK, .ref bCa, .ref bL, .int rd, .int rg, .int re, .ref bO, .int rl, .int rq, .int rb, .long rz])), (bW, .inl (cI, 9, .inl uW)), (bG, .inl (cI, 4, .inl uG))]) (va_A [(b0, .inr (1, [.int rc, .ref bS, .ref bC, .int rv, .ref bW, .int rp, .ref bCe, .ref bA, .ref bB, .ref bM, .int rf, .ref bG, .ref bK, .ref bCa, .ref bL, .int rd, .int rg, .int re, .ref bO, .int rl, .int rq, .int rb, .long rz])), (bW, .inl (cI, 9, .inl uW)), (bG, .inl (cI, 4, .inl uG))] sz)) 0 0 (va_A [(b0, .inr (1, [.int rc, .ref bS, .ref bC, .int rv, .ref bW, .int rp, .ref bCe, .ref bA, .ref bB, .ref bM, .int rf, .ref bG, .ref bK, .ref bCa, .ref bL, .int rd, .int rg, .int re, .ref bO, .int rl, .int rq, .int rb, .long rz])), (bW, .inl (cI, 9, .inl uW)), (bG, .inl (cI, 4, .inl uG))] sz) := by
  refine Met.ofW (cc := b_Ref_boundOf) (maxL := 3) (ret := (some .long)) (by decide) rfl ?_
  intro p e s m args below meth c s₁ B hml hv
  obtain ⟨rfl, hsz, hP, hKN, hD0⟩ := hv
  obtain ⟨hK, hN⟩ := id hKN
  have hx := B.exec
  have hb := B.bytes
  have hr := B.returns
  have hts0 := atoms_spec (ws := w_Ref_boundOf) B.pre
  have hts : ∀ w ∈ lw_g, w.before _ s = true := fun w h => hts0 w (List.mem_cons_of_mem _ h)
  have hown : s.vm.findClass R_Ref = some m.cls := findClass_of_methodNamed B.named
  have hlocks := B.notSynchronized
  subst hsz
  have hD := hD0.self (sz := s.heap.size)
  generalize hAe : va_A [(b0, .inr (1, [.int rc, .ref bS, .ref bC, .int rv, .ref bW, .int rp, .ref bCe, .ref bA, .ref bB, .ref bM, .int rf, .ref bG, .ref bK, .ref bCa, .ref bL, .int rd, .int rg, .int re, .ref bO, .int rl, .int rq, .int rb, .long rz])), (bW, .inl (cI, 9, .inl uW)), (bG, .inl (cI, 4, .inl uG))] s.heap.size = A at hD ⊢
  have hA : ∀ q : Nat, s.heap.size ≤ q → A q := fun q h => by rw [← hAe]; exact Or.inr h
  have hP : va_P (dC, dI) vw_cls [(b0, .inr (1, [.int rc, .ref bS, .ref bC, .int rv, .ref bW, .int rp, .ref bCe, .ref bA, .ref bB, .ref bM, .int rf, .ref bG, .ref bK, .ref bCa, .ref bL, .int rd, .int rg, .int re, .ref bO, .int rl, .int rq, .int rb, .long rz])), (bW, .inl (cI, 9, .inl uW)), (bG, .inl (cI, 4, .inl uG))] s.heap := hP
  have hl := lv_entry ([.ref b0]) (n := 3) (Nat.le_of_ble_eq_true rfl)
  rw [lg_entry_eq]
  generalize (lg_sl ([.ref b0]) ++ List.replicate (3 - (lg_sl ([.ref b0])).length) Slot.unset).toArray = ls at hl ⊢
  have hl : lv_has ls 3 [(0, .ref b0)] := hl
  refine gw_start (fun H locs hH hlocs => ?_)
  rw [← hH] at hP
  have hS : va_S A s.heap H locs := by rw [hH, hlocs]; exact va_S.rf
  refine lv_iconst (v := 0) hx hb d_Ref_boundOf_0 (by decide) ?_
  refine lv_istore_n (lv' := [(1, .int 0), (0, .ref b0)]) hx hb d_Ref_boundOf_1 rfl hl (by decide) rfl (fun ls hl => ?_)
  refine lv_iconst (v := 0) hx hb d_Ref_boundOf_2 (by decide) ?_
  refine lv_istore_n (lv' := [(2, .int 0), (1, .int 0), (0, .ref b0)]) hx hb d_Ref_boundOf_3 rfl hl (by decide) rfl (fun ls hl => ?_)
  refine L_bor hx hb hml hown hts hA cI cZ cQ b0 rc bS bC rv bW rp bCe bA bB bM rf bG bK bCa bL rd rg re bO rl rq rb rz uW uG jf hrd hjf hKN ?_ (9 - 0 + 1) 0 0 0 (Nat.zero_le _) rfl rfl (Nat.lt_succ_self _) H locs (hP.sub [0, 1, 2] rfl) (hD.sub [0, 1, 2] (by decide) rfl) hS ls (lv_sub hl [2, 1, 0] rfl)
  intro i xi acc hi exi eacc hendi H locs hP hD hS ls hl
  have hl : lv_has ls 3 [(0, .ref b0), (1, .int acc), (2, .int xi)] := hl
  have hP : va_P (dC, dI) vw_cls [(b0, .inr (1, [.int rc, .ref bS, .ref bC, .int rv, .ref bW, .int rp, .ref bCe, .ref bA, .ref bB, .ref bM, .int rf, .ref bG, .ref bK, .ref bCa, .ref bL, .int rd, .int rg, .int re, .ref bO, .int rl, .int rq, .int rb, .long rz])), (bW, .inl (cI, 9, .inl uW)), (bG, .inl (cI, 4, .inl uG))] H := hP
  have hD : va_D A [(b0, .inr (1, [.int rc, .ref bS, .ref bC, .int rv, .ref bW, .int rp, .ref bCe, .ref bA, .ref bB, .ref bM, .int rf, .ref bG, .ref bK, .ref bCa, .ref bL, .int rd, .int rg, .int re, .ref bO, .int rl, .int rq, .int rb, .long rz])), (bW, .inl (cI, 9, .inl uW)), (bG, .inl (cI, 4, .inl uG))] := hD
  refine lv_aload_n hx hb d_Ref_boundOf_37 rfl (lv_at hl 0 rfl) ?_
  refine va_get (D := (dC, dI)) (ci := 1) (v := .ref bG) (C := R_Ref) (T := T_Ref) (N := 23) hx hb hts in_Ref hown hK hP 0 rfl rfl 11 (by decide) (hts _ tw_440) (fun _ h9 => h9) rfl d_Ref_boundOf_38 ?_
  refine lv_aload_n hx hb d_Ref_boundOf_41 rfl (lv_at hl 0 rfl) ?_
  refine va_get (D := (dC, dI)) (ci := 1) (v := .int rd) (C := R_Ref) (T := T_Ref) (N := 23) hx hb hts in_Ref hown hK hP 0 rfl rfl 15 (by decide) (hts _ tw_444) (fun _ h9 => h9) rfl d_Ref_boundOf_42 ?_
  have eh_1 : rd = nI (jf) := hrd
  have bh_1 : jf < 4 := hjf
  have h_1 : vp_in rd 4 := by rw [eh_1]; exact vp_in_nI bh_1 (by decide)
  have kh_1 : rd.toNatClampNeg = jf := by rw [eh_1]; exact nI_clamp (by omega)
  refine va_iald hx hb hK hP 2 0 rfl rfl h_1 d_Ref_boundOf_45 ?_
  rw [kh_1]
  refine lv_topi (fun v_2 ev_2 => ?_)
  refine lv_i2l hx hb d_Ref_boundOf_46 rfl ?_
  refine lv_topl (fun v_3 ev_3 => ?_)
  refine lv_iload_n hx hb d_Ref_boundOf_47 rfl (lv_at hl 1 rfl) ?_
  refine lv_i2l hx hb d_Ref_boundOf_48 rfl ?_
  refine lv_topl (fun v_4 ev_4 => ?_)
  refine lv_lmul hx hb d_Ref_boundOf_49 ?_
  refine lv_topl (fun v_5 ev_5 => ?_)
  have hP9 := hP.sub (ws' := [(b0, .inr (1, [.int rc, .ref bS, .ref bC, .int rv, .ref bW, .int rp, .ref bCe, .ref bA, .ref bB, .ref bM, .int rf, .ref bG, .ref bK, .ref bCa, .ref bL, .int rd, .int rg, .int re, .ref bO, .int rl, .int rq, .int rb, .long rz])), (bW, .inl (cI, 9, .inl uW)), (bG, .inl (cI, 4, .inl uG))]) [0, 1, 2] rfl
  have hD9 := hD.sub (ws' := [(b0, .inr (1, [.int rc, .ref bS, .ref bC, .int rv, .ref bW, .int rp, .ref bCe, .ref bA, .ref bB, .ref bM, .int rf, .ref bG, .ref bK, .ref bCa, .ref bL, .int rd, .int rg, .int re, .ref bO, .int rl, .int rq, .int rb, .long rz])), (bW, .inl (cI, 9, .inl uW)), (bG, .inl (cI, 4, .inl uG))]) [0, 1, 2] (by decide) rfl
  have hpost_6 : (v_5 : Int64) = (uG jf).toInt64 * (q_mx uW 9).toInt64 := by simp only [ev_2, ev_3, ev_4, ev_5, eacc, hendi]
  exact W.lret (v := v_5) hx hb hr (fun t ht hW => ⟨⟨v_5, (), rfl, hpost_6, by rw [ht]; exact hP9, hD9⟩, hS.F ht⟩) hS.2.2 d_Ref_boundOf_50
set_option maxHeartbeats 4000000 in
set_option maxRecDepth 100000 in
theorem L_fa {p : Program} {l : Launch} {e : Env} {s : State} {m : MethodId} {args : Array Value} {below : List Frame} {meth : Method} {c : Code} {Q : State → Prop} {A : Nat → Prop} (hx : p.tables.exec = Jvm.exec) (hb : c.code = b_Ref_feedAt) (hml : c.maxLocals = 4) (hown : s.vm.findClass R_Ref = some m.cls) (hts : ∀ w ∈ lw_g, w.before args s = true) (hA : ∀ q, s.heap.size ≤ q → A q) {dC : Nat → ClassId} {dI : Nat → Nat → Nat} (cI : ClassId) (cZ : ClassId) (cQ : ClassId) (b0 : Nat) (rc : Int32) (bS : Nat) (bC : Nat) (rv : Int32) (bW : Nat) (rp : Int32) (bCe : Nat) (bA : Nat) (bB : Nat) (bM : Nat) (rf : Int32) (bG : Nat) (bK : Nat) (bCa : Nat) (bL : Nat) (rd : Int32) (rg : Int32) (re : Int32) (bO : Nat) (rl : Int32) (rq : Int32) (rb : Int32) (rz : Int64) (uG : Nat → Int32) (g1 : Int64) (nf : Nat)  (hrf : rf = nI nf) (hnf : nf ≤ 4)  (hKN : g_K dC dI [(cI, .int), (cZ, .boolean), (cQ, (.object "SettingSearch$Answers"))] s)
    (kx_30 : ∀ (i : Nat) (_ : -1 = q_fa uG g1 nf 0) (H : Heap) (locs : List Loc), va_P (dC, dI) vw_cls [(b0, .inr (1, [.int rc, .ref bS, .ref bC, .int rv, .ref bW, .int rp, .ref bCe, .ref bA, .ref bB, .ref bM, .int rf, .ref bG, .ref bK, .ref bCa, .ref bL, .int rd, .int rg, .int re, .ref bO, .int rl, .int rq, .int rb, .long rz])), (bG, .inl (cI, 4, .inl uG))] H → va_D A [(b0, .inr (1, [.int rc, .ref bS, .ref bC, .int rv, .ref bW, .int rp, .ref bCe, .ref bA, .ref bB, .ref bM, .int rf, .ref bG, .ref bK, .ref bCa, .ref bL, .int rd, .int rg, .int re, .ref bO, .int rl, .int rq, .int rb, .long rz])), (bG, .inl (cI, 4, .inl uG))] → va_S A s.heap H locs → ∀ (ls : Array Slot), lv_has ls 4 [] → W p l e ({ frames := 0, cells := 0, slots := 0, locals := 0 } : Room) s m args below meth c H locs 0 0 Q (F0 m 30 ls []))
    (kx_22 : ∀ (i : Nat) (xi : Int32) (_ : xi = nI i) (_ : q_fa uG g1 nf 0 = nI i) (H : Heap) (locs : List Loc), va_P (dC, dI) vw_cls [(b0, .inr (1, [.int rc, .ref bS, .ref bC, .int rv, .ref bW, .int rp, .ref bCe, .ref bA, .ref bB, .ref bM, .int rf, .ref bG, .ref bK, .ref bCa, .ref bL, .int rd, .int rg, .int re, .ref bO, .int rl, .int rq, .int rb, .long rz])), (bG, .inl (cI, 4, .inl uG))] H → va_D A [(b0, .inr (1, [.int rc, .ref bS, .ref bC, .int rv, .ref bW, .int rp, .ref bCe, .ref bA, .ref bB, .ref bM, .int rf, .ref bG, .ref bK, .ref bCa, .ref bL, .int rd, .int rg, .int re, .ref bO, .int rl, .int rq, .int rb, .long rz])), (bG, .inl (cI, 4, .inl uG))] → va_S A s.heap H locs → ∀ (ls : Array Slot), lv_has ls 4 [(3, .int xi)] → W p l e ({ frames := 0, cells := 0, slots := 0, locals := 0 } : Room) s m args below meth c H locs 0 0 Q (F0 m 22 ls [])) :
    ∀ (n : Nat) (i : Nat) (xi : Int32) (_ : i ≤ nf) (_ : xi = nI i) (_ : q_fa uG g1 (nf - i) i = q_fa uG g1 nf 0) (_ : nf - i < n) (H : Heap) (locs : List Loc), va_P (dC, dI) vw_cls [(b0, .inr (1, [.int rc, .ref bS, .ref bC, .int rv, .ref bW, .int rp, .ref bCe, .ref bA, .ref bB, .ref bM, .int rf, .ref bG, .ref bK, .ref bCa, .ref bL, .int rd, .int rg, .int re, .ref bO, .int rl, .int rq, .int rb, .long rz])), (bG, .inl (cI, 4, .inl uG))] H → va_D A [(b0, .inr (1, [.int rc, .ref bS, .ref bC, .int rv, .ref bW, .int rp, .ref bCe, .ref bA, .ref bB, .ref bM, .int rf, .ref bG, .ref bK, .ref bCa, .ref bL, .int rd, .int rg, .int re, .ref bO, .int rl, .int rq, .int rb, .long rz])), (bG, .inl (cI, 4, .inl uG))] → va_S A s.heap H locs → ∀ (ls : Array Slot), lv_has ls 4 [(0, .ref b0), (1, .long g1), (3, .int xi)] → W p l e ({ frames := 0, cells := 0, slots := 0, locals := 0 } : Room) s m args below meth c H locs 0 0 Q (F0 m 2 ls []) := by
  obtain ⟨hK, hN⟩ := id hKN
  intro n
  induction n with
  | zero =>
    intro i xi hi exi hfa hm
    exact absurd hm (Nat.not_lt_zero _)
  | succ n ih =>
    intro i xi hi exi hfa hm H locs hP hD hS ls hl
    refine lv_iload_n hx hb d_Ref_feedAt_2 rfl (lv_at hl 2 rfl) ?_
    refine lv_aload_n hx hb d_Ref_feedAt_3 rfl (lv_at hl 0 rfl) ?_
    refine va_get (D := (dC, dI)) (ci := 1) (v := .int rf) (C := R_Ref) (T := T_Ref) (N := 23) hx hb hts in_Ref hown hK hP 0 rfl rfl 10 (by decide) (hts _ tw_439) (fun _ h9 => h9) rfl d_Ref_feedAt_4 ?_
    refine lv_icmp_ge (tgt := 30) hx hb d_Ref_feedAt_7 (by decide) (fun c_1 => ?_) (fun c_1 => ?_)
    · skip
      have hendi := lp_ge (N := nf) c_1 exi hrf hi (by omega)
      exact kx_30 i (by rw [← hfa, hendi, Nat.sub_self]; rfl) H locs (hP.sub [0, 1] rfl) (hD.sub [0, 1] (by decide) rfl) hS ls (lv_sub hl [] rfl)
    · skip
      have hlti := lp_lt (N := nf) c_1 exi hrf (by omega)
      refine lv_aload_n hx hb d_Ref_feedAt_10 rfl (lv_at hl 0 rfl) ?_
      refine va_get (D := (dC, dI)) (ci := 1) (v := .ref bG) (C := R_Ref) (T := T_Ref) (N := 23) hx hb hts in_Ref hown hK hP 0 rfl rfl 11 (by decide) (hts _ tw_440) (fun _ h9 => h9) rfl d_Ref_feedAt_11 ?_
      refine lv_iload_n hx hb d_Ref_feedAt_14 rfl (lv_at hl 2 rfl) ?_
      have eh_2 : xi = nI (i) := exi
      have bh_2 : i < 4 := by omega
      have h_2 : vp_in xi 4 := by rw [eh_2]; exact vp_in_nI bh_2 (by decide)
      have kh_2 : xi.toNatClampNeg = i := by rw [eh_2]; exact nI_clamp (by omega)
      refine va_iald hx hb hK hP 1 0 rfl rfl h_2 d_Ref_feedAt_15 ?_
      rw [kh_2]
      refine lv_topi (fun v_3 ev_3 => ?_)
      refine lv_i2l hx hb d_Ref_feedAt_16 rfl ?_
      refine lv_topl (fun v_4 ev_4 => ?_)
      refine lv_lload_n hx hb d_Ref_feedAt_17 rfl (lv_at hl 1 rfl) ?_
      refine W.lcmp hx hb d_Ref_feedAt_18 ?_
      refine lv_if_ne (tgt := 24) hx hb d_Ref_feedAt_19 (by decide) (fun c_5 => ?_) (fun c_5 => ?_)
      · skip
        have c_5 : ¬ v_4 = g1 := fun h => c_5 ((lg_cmp_eq _ _).mpr h)
        have cq : ¬ (uG i).toInt64 = g1 := by rw [← ev_3, ← ev_4]; exact c_5
        obtain ⟨v_6, ev_6⟩ : ∃ y : Int32, y = xi + 1 := ⟨_, rfl⟩
        refine lv_iinc (v := v_6) (lv' := [(3, .int v_6), (0, .ref b0), (1, .long g1)]) hx hb d_Ref_feedAt_24 hl (k := 2) rfl (by rw [ev_6]; rfl) (by decide) rfl (fun ls hl => ?_)
        refine lv_goto (tgt := 2) hx hb d_Ref_feedAt_27 (by decide) ?_
        exact ih (i + 1) v_6 hlti (by rw [ev_6, exi]; exact nI_1 i) (by rw [← hfa, q_fa_s hlti, if_neg cq]) (by omega) H locs (hP.sub [0, 1] rfl) (hD.sub [0, 1] (by decide) rfl) hS ls (lv_sub hl [1, 2, 0] rfl)
      · skip
        have c_5 : v_4 = g1 := (lg_cmp_eq _ _).mp c_5
        have cq : (uG i).toInt64 = g1 := by rw [← ev_3, ← ev_4]; exact c_5
        have hfin : q_fa uG g1 nf 0 = nI i := by rw [← hfa, q_fa_s hlti, if_pos cq]
        exact kx_22 i xi exi hfin H locs (hP.sub [0, 1] rfl) (hD.sub [0, 1] (by decide) rfl) hS ls (lv_sub hl [2] rfl)
set_option maxHeartbeats 4000000 in
set_option maxRecDepth 100000 in
/-- the reference: feedAt -/
theorem m_fa (l : Launch) (dC : Nat → ClassId) (dI : Nat → Nat → Nat) (sz : Nat) (cI : ClassId) (cZ : ClassId) (cQ : ClassId) (b0 : Nat) (rc : Int32) (bS : Nat) (bC : Nat) (rv : Int32) (bW : Nat) (rp : Int32) (bCe : Nat) (bA : Nat) (bB : Nat) (bM : Nat) (rf : Int32) (bG : Nat) (bK : Nat) (bCa : Nat) (bL : Nat) (rd : Int32) (rg : Int32) (re : Int32) (bO : Nat) (rl : Int32) (rq : Int32) (rb : Int32) (rz : Int64) (uG : Nat → Int32) (g1 : Int64) (nf : Nat) (hrf : rf = nI nf) (hnf : nf ≤ 4) : Met l y_Ref_feedAt w_Ref_feedAt ({ frames := 0, cells := 0, slots := 0, locals := 0 } : Room) (va_Pc [.ref b0, .long g1] (fun U => U.heap.size = sz ∧ va_P (dC, dI) vw_cls [(b0, .inr (1, [.int rc, .ref bS, .ref bC, .int rv, .ref bW, .int rp, .ref bCe, .ref bA, .ref bB, .ref bM, .int rf, .ref bG, .ref bK, .ref bCa, .ref bL, .int rd, .int rg, .int re, .ref bO, .int rl, .int rq, .int rb, .long rz])), (bG, .inl (cI, 4, .inl uG))] U.heap ∧ g_K dC dI [(cI, .int), (cZ, .boolean), (cQ, (.object "SettingSearch$Answers"))] U ∧ va_D (fun _ => True) [(b0, .inr (1, [.int rc, .ref bS, .ref bC, .int rv, .ref bW, .int rp, .ref bCe, .ref bA, .ref bB, .ref bM, .int rf, .ref bG, .ref bK, .ref bCa, .ref bL, .int rd, .int rg, .int re, .ref bO, .int rl, .int rq, .int rb, .long rz])), (bG, .inl (cI, 4, .inl uG))])) (va_Qi (fun (r : Int32) (u : Unit) => r = q_fa uG g1 nf 0) (fun (u : Unit) (t : State) => va_P (dC, dI) vw_cls [(b0, .inr (1, [.int rc, .ref bS, .ref bC, .int rv, .ref bW, .int rp, .ref bCe, .ref bA, .ref bB, .ref bM, .int rf, .ref bG, .ref bK, .ref bCa, .ref bL, .int rd, .int rg, .int re, .ref bO, .int rl, .int rq, .int rb, .long rz])), (bG, .inl (cI, 4, .inl uG))] t.heap ∧ va_D (va_A [(b0, .inr (1, [.int rc, .ref bS, .ref bC, .int rv, .ref bW, .int rp, .ref bCe, .ref bA, .ref bB, .ref bM, .int rf, .ref bG, .ref bK, .ref bCa, .ref bL, .int rd, .int rg, .int re, .ref bO, .int rl, .int rq, .int rb, .long rz])), (bG, .inl (cI, 4, .inl uG))] sz) [(b0, .inr (1, [.int rc, .ref bS, .ref bC, .int rv, .ref bW, .int rp, .ref bCe, .ref bA, .ref bB, .ref bM, .int rf, .ref bG, .ref bK, .ref bCa, .ref bL, .int rd, .int rg, .int re, .ref bO, .int rl, .int rq, .int rb, .long rz])), (bG, .inl (cI, 4, .inl uG))]) (va_A [(b0, .inr (1, [.int rc, .ref bS, .ref bC, .int rv, .ref bW, .int rp, .ref bCe, .ref bA, .ref bB, .ref bM, .int rf, .ref bG, .ref bK, .ref bCa, .ref bL, .int rd, .int rg, .int re, .ref bO, .int rl, .int rq, .int rb, .long rz])), (bG, .inl (cI, 4, .inl uG))] sz)) 0 0 (va_A [(b0, .inr (1, [.int rc, .ref bS, .ref bC, .int rv, .ref bW, .int rp, .ref bCe, .ref bA, .ref bB, .ref bM, .int rf, .ref bG, .ref bK, .ref bCa, .ref bL, .int rd, .int rg, .int re, .ref bO, .int rl, .int rq, .int rb, .long rz])), (bG, .inl (cI, 4, .inl uG))] sz) := by
  refine Met.ofW (cc := b_Ref_feedAt) (maxL := 4) (ret := (some .int)) (by decide) rfl ?_
  intro p e s m args below meth c s₁ B hml hv
  obtain ⟨rfl, hsz, hP, hKN, hD0⟩ := hv
  obtain ⟨hK, hN⟩ := id hKN
  have hx := B.exec
  have hb := B.bytes
  have hr := B.returns
  have hts0 := atoms_spec (ws := w_Ref_feedAt) B.pre
  have hts : ∀ w ∈ lw_g, w.before _ s = true := fun w h => hts0 w (List.mem_cons_of_mem _ h)
  have hown : s.vm.findClass R_Ref = some m.cls := findClass_of_methodNamed B.named
  have hlocks := B.notSynchronized
  subst hsz
  have hD := hD0.self (sz := s.heap.size)
  generalize hAe : va_A [(b0, .inr (1, [.int rc, .ref bS, .ref bC, .int rv, .ref bW, .int rp, .ref bCe, .ref bA, .ref bB, .ref bM, .int rf, .ref bG, .ref bK, .ref bCa, .ref bL, .int rd, .int rg, .int re, .ref bO, .int rl, .int rq, .int rb, .long rz])), (bG, .inl (cI, 4, .inl uG))] s.heap.size = A at hD ⊢
  have hA : ∀ q : Nat, s.heap.size ≤ q → A q := fun q h => by rw [← hAe]; exact Or.inr h
  have hP : va_P (dC, dI) vw_cls [(b0, .inr (1, [.int rc, .ref bS, .ref bC, .int rv, .ref bW, .int rp, .ref bCe, .ref bA, .ref bB, .ref bM, .int rf, .ref bG, .ref bK, .ref bCa, .ref bL, .int rd, .int rg, .int re, .ref bO, .int rl, .int rq, .int rb, .long rz])), (bG, .inl (cI, 4, .inl uG))] s.heap := hP
  have hl := lv_entry ([.ref b0, .long g1]) (n := 4) (Nat.le_of_ble_eq_true rfl)
  rw [lg_entry_eq]
  generalize (lg_sl ([.ref b0, .long g1]) ++ List.replicate (4 - (lg_sl ([.ref b0, .long g1])).length) Slot.unset).toArray = ls at hl ⊢
  have hl : lv_has ls 4 [(0, .ref b0), (1, .long g1)] := hl
  refine gw_start (fun H locs hH hlocs => ?_)
  rw [← hH] at hP
  have hS : va_S A s.heap H locs := by rw [hH, hlocs]; exact va_S.rf
  refine lv_iconst (v := 0) hx hb d_Ref_feedAt_0 (by decide) ?_
  refine lv_istore_n (lv' := [(3, .int 0), (0, .ref b0), (1, .long g1)]) hx hb d_Ref_feedAt_1 rfl hl (by decide) rfl (fun ls hl => ?_)
  refine L_fa hx hb hml hown hts hA cI cZ cQ b0 rc bS bC rv bW rp bCe bA bB bM rf bG bK bCa bL rd rg re bO rl rq rb rz uG g1 nf hrf hnf hKN ?_ ?_ (nf - 0 + 1) 0 0 (Nat.zero_le _) rfl rfl (Nat.lt_succ_self _) H locs (hP.sub [0, 1] rfl) (hD.sub [0, 1] (by decide) rfl) hS ls (lv_sub hl [1, 2, 0] rfl)
  · skip
    intro i hfin H locs hP hD hS ls hl
    have hl : lv_has ls 4 [] := hl
    have hP : va_P (dC, dI) vw_cls [(b0, .inr (1, [.int rc, .ref bS, .ref bC, .int rv, .ref bW, .int rp, .ref bCe, .ref bA, .ref bB, .ref bM, .int rf, .ref bG, .ref bK, .ref bCa, .ref bL, .int rd, .int rg, .int re, .ref bO, .int rl, .int rq, .int rb, .long rz])), (bG, .inl (cI, 4, .inl uG))] H := hP
    have hD : va_D A [(b0, .inr (1, [.int rc, .ref bS, .ref bC, .int rv, .ref bW, .int rp, .ref bCe, .ref bA, .ref bB, .ref bM, .int rf, .ref bG, .ref bK, .ref bCa, .ref bL, .int rd, .int rg, .int re, .ref bO, .int rl, .int rq, .int rb, .long rz])), (bG, .inl (cI, 4, .inl uG))] := hD
    refine lv_iconst (v := (-1)) hx hb d_Ref_feedAt_30 (by decide) ?_
    have hP9 := hP.sub (ws' := [(b0, .inr (1, [.int rc, .ref bS, .ref bC, .int rv, .ref bW, .int rp, .ref bCe, .ref bA, .ref bB, .ref bM, .int rf, .ref bG, .ref bK, .ref bCa, .ref bL, .int rd, .int rg, .int re, .ref bO, .int rl, .int rq, .int rb, .long rz])), (bG, .inl (cI, 4, .inl uG))]) [0, 1] rfl
    have hD9 := hD.sub (ws' := [(b0, .inr (1, [.int rc, .ref bS, .ref bC, .int rv, .ref bW, .int rp, .ref bCe, .ref bA, .ref bB, .ref bM, .int rf, .ref bG, .ref bK, .ref bCa, .ref bL, .int rd, .int rg, .int re, .ref bO, .int rl, .int rq, .int rb, .long rz])), (bG, .inl (cI, 4, .inl uG))]) [0, 1] (by decide) rfl
    have hpost_1 : ((-1) : Int32) = q_fa uG g1 nf 0 := hfin
    exact W.iret (v := (-1)) hx hb hr (fun t ht hW => ⟨⟨(-1), (), rfl, hpost_1, by rw [ht]; exact hP9, hD9⟩, hS.F ht⟩) hS.2.2 d_Ref_feedAt_31
  · skip
    intro i xi exi hfin H locs hP hD hS ls hl
    have hl : lv_has ls 4 [(3, .int xi)] := hl
    have hP : va_P (dC, dI) vw_cls [(b0, .inr (1, [.int rc, .ref bS, .ref bC, .int rv, .ref bW, .int rp, .ref bCe, .ref bA, .ref bB, .ref bM, .int rf, .ref bG, .ref bK, .ref bCa, .ref bL, .int rd, .int rg, .int re, .ref bO, .int rl, .int rq, .int rb, .long rz])), (bG, .inl (cI, 4, .inl uG))] H := hP
    have hD : va_D A [(b0, .inr (1, [.int rc, .ref bS, .ref bC, .int rv, .ref bW, .int rp, .ref bCe, .ref bA, .ref bB, .ref bM, .int rf, .ref bG, .ref bK, .ref bCa, .ref bL, .int rd, .int rg, .int re, .ref bO, .int rl, .int rq, .int rb, .long rz])), (bG, .inl (cI, 4, .inl uG))] := hD
    refine lv_iload_n hx hb d_Ref_feedAt_22 rfl (lv_at hl 0 rfl) ?_
    have hP9 := hP.sub (ws' := [(b0, .inr (1, [.int rc, .ref bS, .ref bC, .int rv, .ref bW, .int rp, .ref bCe, .ref bA, .ref bB, .ref bM, .int rf, .ref bG, .ref bK, .ref bCa, .ref bL, .int rd, .int rg, .int re, .ref bO, .int rl, .int rq, .int rb, .long rz])), (bG, .inl (cI, 4, .inl uG))]) [0, 1] rfl
    have hD9 := hD.sub (ws' := [(b0, .inr (1, [.int rc, .ref bS, .ref bC, .int rv, .ref bW, .int rp, .ref bCe, .ref bA, .ref bB, .ref bM, .int rf, .ref bG, .ref bK, .ref bCa, .ref bL, .int rd, .int rg, .int re, .ref bO, .int rl, .int rq, .int rb, .long rz])), (bG, .inl (cI, 4, .inl uG))]) [0, 1] (by decide) rfl
    have hpost_2 : (xi : Int32) = q_fa uG g1 nf 0 := by rw [hfin]; exact exi
    exact W.iret (v := xi) hx hb hr (fun t ht hW => ⟨⟨xi, (), rfl, hpost_2, by rw [ht]; exact hP9, hD9⟩, hS.F ht⟩) hS.2.2 d_Ref_feedAt_23
