set_option maxHeartbeats 4000000 in
set_option maxRecDepth 100000 in
theorem L_ke {p : Program} {l : Launch} {e : Env} {s : State} {m : MethodId} {args : Array Value} {below : List Frame} {meth : Method} {c : Code} {Q : State → Prop} {A : Nat → Prop} (hx : p.tables.exec = Jvm.exec) (hb : c.code = b_Ref_keeps) (hml : c.maxLocals = 7) (hown : s.vm.findClass R_Ref = some m.cls) (hts : ∀ w ∈ lw_g, w.before args s = true) (hA : ∀ q, s.heap.size ≤ q → A q) {dC : Nat → ClassId} {dI : Nat → Nat → Nat} (cI : ClassId) (cZ : ClassId) (cQ : ClassId) (b0 : Nat) (rc : Int32) (bS : Nat) (bC : Nat) (rv : Int32) (bW : Nat) (rp : Int32) (bCe : Nat) (bA : Nat) (bB : Nat) (bM : Nat) (rf : Int32) (bG : Nat) (bK : Nat) (bCa : Nat) (bL : Nat) (rd : Int32) (rg : Int32) (re : Int32) (bO : Nat) (rl : Int32) (rq : Int32) (rb : Int32) (rz : Int64) (uCe : Nat → Int32) (uA : Nat → Int32) (uB : Nat → Int32) (uM : Nat → Int32) (uCa : Nat → Int32) (uL : Nat → Int32) (r1 : Int32) (jr : Nat) (t1 : Int32) (jt : Nat) (nc : Nat) (np : Nat) (xp : Int32) (ht1 : t1 = nI jt) (hjt : jt < 256) (hrc : rc = nI nc) (hnc : nc ≤ 5) (hrp : rp = nI np) (hnp : np ≤ 4) (hCe : q_okCe uCe np) (hr1 : r1 = nI jr) (hjr : jr < 9) (epo : xp = nI ((uCe jr).toNatClampNeg / 3)) (hcl : uCe jr = nI (uCe jr).toNatClampNeg ∧ (uCe jr).toNatClampNeg < 9) (hKN : g_K dC dI [(cI, .int), (cZ, .boolean), (cQ, (.object "SettingSearch$Answers"))] s)
    (kx_110 : ∀ (i : Nat) (xi : Int32) (acc : Int64) (_ : i ≤ 3) (_ : xi = nI i) (_ : acc = q_allr uCa jt ((uCe jr).toNatClampNeg / 3) i) (_ : i = 3) (H : Heap) (locs : List Loc), va_P (dC, dI) vw_cls [(b0, .inr (1, [.int rc, .ref bS, .ref bC, .int rv, .ref bW, .int rp, .ref bCe, .ref bA, .ref bB, .ref bM, .int rf, .ref bG, .ref bK, .ref bCa, .ref bL, .int rd, .int rg, .int re, .ref bO, .int rl, .int rq, .int rb, .long rz])), (bCe, .inl (cI, 4, .inl uCe)), (bA, .inl (cI, 4, .inl uA)), (bB, .inl (cI, 4, .inl uB)), (bM, .inl (cI, 5, .inl uM)), (bCa, .inl (cI, 2304, .inl uCa)), (bL, .inl (cI, 1280, .inl uL))] H → va_D A [(b0, .inr (1, [.int rc, .ref bS, .ref bC, .int rv, .ref bW, .int rp, .ref bCe, .ref bA, .ref bB, .ref bM, .int rf, .ref bG, .ref bK, .ref bCa, .ref bL, .int rd, .int rg, .int re, .ref bO, .int rl, .int rq, .int rb, .long rz])), (bCe, .inl (cI, 4, .inl uCe)), (bA, .inl (cI, 4, .inl uA)), (bB, .inl (cI, 4, .inl uB)), (bM, .inl (cI, 5, .inl uM)), (bCa, .inl (cI, 2304, .inl uCa)), (bL, .inl (cI, 1280, .inl uL))] → va_S A s.heap H locs → ∀ (ls : Array Slot), lv_has ls 7 [(0, .ref b0), (1, .int t1), (2, .int r1), (3, .int xp), (4, .long acc), (6, .int xi)] → W p l e ({ frames := 0, cells := 0, slots := 0, locals := 0 } : Room) s m args below meth c H locs 0 0 Q (F0 m 110 ls [])) :
    ∀ (n : Nat) (i : Nat) (xi : Int32) (acc : Int64) (_ : i ≤ 3) (_ : xi = nI i) (_ : acc = q_allr uCa jt ((uCe jr).toNatClampNeg / 3) i) (_ : 3 - i < n) (H : Heap) (locs : List Loc), va_P (dC, dI) vw_cls [(b0, .inr (1, [.int rc, .ref bS, .ref bC, .int rv, .ref bW, .int rp, .ref bCe, .ref bA, .ref bB, .ref bM, .int rf, .ref bG, .ref bK, .ref bCa, .ref bL, .int rd, .int rg, .int re, .ref bO, .int rl, .int rq, .int rb, .long rz])), (bCe, .inl (cI, 4, .inl uCe)), (bA, .inl (cI, 4, .inl uA)), (bB, .inl (cI, 4, .inl uB)), (bM, .inl (cI, 5, .inl uM)), (bCa, .inl (cI, 2304, .inl uCa)), (bL, .inl (cI, 1280, .inl uL))] H → va_D A [(b0, .inr (1, [.int rc, .ref bS, .ref bC, .int rv, .ref bW, .int rp, .ref bCe, .ref bA, .ref bB, .ref bM, .int rf, .ref bG, .ref bK, .ref bCa, .ref bL, .int rd, .int rg, .int re, .ref bO, .int rl, .int rq, .int rb, .long rz])), (bCe, .inl (cI, 4, .inl uCe)), (bA, .inl (cI, 4, .inl uA)), (bB, .inl (cI, 4, .inl uB)), (bM, .inl (cI, 5, .inl uM)), (bCa, .inl (cI, 2304, .inl uCa)), (bL, .inl (cI, 1280, .inl uL))] → va_S A s.heap H locs → ∀ (ls : Array Slot), lv_has ls 7 [(0, .ref b0), (1, .int t1), (2, .int r1), (3, .int xp), (4, .long acc), (6, .int xi)] → W p l e ({ frames := 0, cells := 0, slots := 0, locals := 0 } : Room) s m args below meth c H locs 0 0 Q (F0 m 76 ls []) := by
  obtain ⟨hK, hN⟩ := id hKN
  intro n
  induction n with
  | zero =>
    intro i xi acc hi exi eacc hm
    exact absurd hm (Nat.not_lt_zero _)
  | succ n ih =>
    intro i xi acc hi exi eacc hm H locs hP hD hS ls hl
    refine lv_iload hx hb d_Ref_keeps_76 (lv_at hl 5 rfl) ?_
    refine lv_iconst (v := 3) hx hb d_Ref_keeps_78 (by decide) ?_
    refine lv_icmp_ge (tgt := 110) hx hb d_Ref_keeps_79 (by decide) (fun c_1 => ?_) (fun c_1 => ?_)
    · skip
      have hendi := lp_ge (N := 3) c_1 exi rfl hi (by omega)
      exact kx_110 i xi acc hi exi eacc hendi H locs (hP.sub [0, 1, 2, 3, 4, 5, 6] rfl) (hD.sub [0, 1, 2, 3, 4, 5, 6] (by decide) rfl) hS ls (lv_sub hl [0, 1, 2, 3, 4, 5] rfl)
    · skip
      have hlti := lp_lt (N := 3) c_1 exi rfl (by omega)
      refine lv_lload hx hb d_Ref_keeps_82 (lv_at hl 4 rfl) ?_
      refine lv_aload_n hx hb d_Ref_keeps_84 rfl (lv_at hl 0 rfl) ?_
      refine va_get (D := (dC, dI)) (ci := 1) (v := .ref bCa) (C := R_Ref) (T := T_Ref) (N := 23) hx hb hts in_Ref hown hK hP 0 rfl rfl 13 (by decide) (hts _ tw_442) (fun _ h9 => h9) rfl d_Ref_keeps_85 ?_
      refine lv_bipush (v := 9) hx hb d_Ref_keeps_88 (by decide) ?_
      refine lv_iload_n hx hb d_Ref_keeps_90 rfl (lv_at hl 1 rfl) ?_
      refine lv_imul hx hb d_Ref_keeps_91 ?_
      refine lv_topi (fun v_2 ev_2 => ?_)
      refine lv_iconst (v := 3) hx hb d_Ref_keeps_92 (by decide) ?_
      refine lv_iload_n hx hb d_Ref_keeps_93 rfl (lv_at hl 3 rfl) ?_
      refine lv_imul hx hb d_Ref_keeps_94 ?_
      refine lv_topi (fun v_3 ev_3 => ?_)
      refine lv_iadd hx hb d_Ref_keeps_95 ?_
      refine lv_topi (fun v_4 ev_4 => ?_)
      refine lv_iload hx hb d_Ref_keeps_96 (lv_at hl 5 rfl) ?_
      refine lv_iadd hx hb d_Ref_keeps_98 ?_
      refine lv_topi (fun v_5 ev_5 => ?_)
      have eh_6 : v_5 = nI (9 * jt + 3 * ((uCe jr).toNatClampNeg / 3) + i) := by simp only [ev_2, ev_3, ev_4, ev_5]; rw [ht1, epo, exi, ix_p93]
      have bh_6 : 9 * jt + 3 * ((uCe jr).toNatClampNeg / 3) + i < 2304 := by omega
      have h_6 : vp_in v_5 2304 := by rw [eh_6]; exact vp_in_nI bh_6 (by decide)
      have kh_6 : v_5.toNatClampNeg = 9 * jt + 3 * ((uCe jr).toNatClampNeg / 3) + i := by rw [eh_6]; exact nI_clamp (by omega)
      refine va_iald hx hb hK hP 5 0 rfl rfl h_6 d_Ref_keeps_99 ?_
      rw [kh_6]
      refine lv_topi (fun v_7 ev_7 => ?_)
      refine lv_i2l hx hb d_Ref_keeps_100 rfl ?_
      refine lv_topl (fun v_8 ev_8 => ?_)
      refine lv_ladd hx hb d_Ref_keeps_101 ?_
      refine lv_topl (fun v_9 ev_9 => ?_)
      refine lv_lstore (lv' := [(4, .long v_9), (0, .ref b0), (1, .int t1), (2, .int r1), (3, .int xp), (6, .int xi)]) hx hb d_Ref_keeps_102 hl (by decide) rfl (fun ls hl => ?_)
      obtain ⟨v_10, ev_10⟩ : ∃ y : Int32, y = xi + 1 := ⟨_, rfl⟩
      refine lv_iinc (v := v_10) (lv' := [(6, .int v_10), (4, .long v_9), (0, .ref b0), (1, .int t1), (2, .int r1), (3, .int xp)]) hx hb d_Ref_keeps_104 hl (k := 5) rfl (by rw [ev_10]; rfl) (by decide) rfl (fun ls hl => ?_)
      refine lv_goto (tgt := 76) hx hb d_Ref_keeps_107 (by decide) ?_
      exact ih (i + 1) v_10 v_9 hlti (by rw [ev_10, exi]; exact nI_1 i) (by simp only [ev_2, ev_3, ev_4, ev_5, ev_7, ev_8, ev_9, ev_10, eacc]; rfl) (by omega) H locs (hP.sub [0, 1, 2, 3, 4, 5, 6] rfl) (hD.sub [0, 1, 2, 3, 4, 5, 6] (by decide) rfl) hS ls (lv_sub hl [2, 3, 4, 5, 1, 0] rfl)
set_option maxHeartbeats 4000000 in
set_option maxRecDepth 100000 in
/-- the reference: keeps -/
theorem m_ke (l : Launch) (dC : Nat → ClassId) (dI : Nat → Nat → Nat) (sz : Nat) (cI : ClassId) (cZ : ClassId) (cQ : ClassId) (b0 : Nat) (rc : Int32) (bS : Nat) (bC : Nat) (rv : Int32) (bW : Nat) (rp : Int32) (bCe : Nat) (bA : Nat) (bB : Nat) (bM : Nat) (rf : Int32) (bG : Nat) (bK : Nat) (bCa : Nat) (bL : Nat) (rd : Int32) (rg : Int32) (re : Int32) (bO : Nat) (rl : Int32) (rq : Int32) (rb : Int32) (rz : Int64) (uCe : Nat → Int32) (uA : Nat → Int32) (uB : Nat → Int32) (uM : Nat → Int32) (uCa : Nat → Int32) (uL : Nat → Int32) (r1 : Int32) (jr : Nat) (t1 : Int32) (jt : Nat) (nc : Nat) (np : Nat) (ht1 : t1 = nI jt) (hjt : jt < 256) (hrc : rc = nI nc) (hnc : nc ≤ 5) (hrp : rp = nI np) (hnp : np ≤ 4) (hCe : q_okCe uCe np) (hr1 : r1 = nI jr) (hjr : jr < 9) : Met l y_Ref_keeps w_Ref_keeps ({ frames := 0, cells := 0, slots := 0, locals := 0 } : Room) (va_Pc [.ref b0, .int t1, .int r1] (fun U => U.heap.size = sz ∧ va_P (dC, dI) vw_cls [(b0, .inr (1, [.int rc, .ref bS, .ref bC, .int rv, .ref bW, .int rp, .ref bCe, .ref bA, .ref bB, .ref bM, .int rf, .ref bG, .ref bK, .ref bCa, .ref bL, .int rd, .int rg, .int re, .ref bO, .int rl, .int rq, .int rb, .long rz])), (bCe, .inl (cI, 4, .inl uCe)), (bA, .inl (cI, 4, .inl uA)), (bB, .inl (cI, 4, .inl uB)), (bM, .inl (cI, 5, .inl uM)), (bCa, .inl (cI, 2304, .inl uCa)), (bL, .inl (cI, 1280, .inl uL))] U.heap ∧ g_K dC dI [(cI, .int), (cZ, .boolean), (cQ, (.object "SettingSearch$Answers"))] U ∧ va_D (fun _ => True) [(b0, .inr (1, [.int rc, .ref bS, .ref bC, .int rv, .ref bW, .int rp, .ref bCe, .ref bA, .ref bB, .ref bM, .int rf, .ref bG, .ref bK, .ref bCa, .ref bL, .int rd, .int rg, .int re, .ref bO, .int rl, .int rq, .int rb, .long rz])), (bCe, .inl (cI, 4, .inl uCe)), (bA, .inl (cI, 4, .inl uA)), (bB, .inl (cI, 4, .inl uB)), (bM, .inl (cI, 5, .inl uM)), (bCa, .inl (cI, 2304, .inl uCa)), (bL, .inl (cI, 1280, .inl uL))])) (va_Qi (fun (r : Int32) (u : Unit) => r = q_ke uCe uA uB uM uCa uL nc np jt jr) (fun (u : Unit) (t : State) => va_P (dC, dI) vw_cls [(b0, .inr (1, [.int rc, .ref bS, .ref bC, .int rv, .ref bW, .int rp, .ref bCe, .ref bA, .ref bB, .ref bM, .int rf, .ref bG, .ref bK, .ref bCa, .ref bL, .int rd, .int rg, .int re, .ref bO, .int rl, .int rq, .int rb, .long rz])), (bCe, .inl (cI, 4, .inl uCe)), (bA, .inl (cI, 4, .inl uA)), (bB, .inl (cI, 4, .inl uB)), (bM, .inl (cI, 5, .inl uM)), (bCa, .inl (cI, 2304, .inl uCa)), (bL, .inl (cI, 1280, .inl uL))] t.heap ∧ va_D (va_A [(b0, .inr (1, [.int rc, .ref bS, .ref bC, .int rv, .ref bW, .int rp, .ref bCe, .ref bA, .ref bB, .ref bM, .int rf, .ref bG, .ref bK, .ref bCa, .ref bL, .int rd, .int rg, .int re, .ref bO, .int rl, .int rq, .int rb, .long rz])), (bCe, .inl (cI, 4, .inl uCe)), (bA, .inl (cI, 4, .inl uA)), (bB, .inl (cI, 4, .inl uB)), (bM, .inl (cI, 5, .inl uM)), (bCa, .inl (cI, 2304, .inl uCa)), (bL, .inl (cI, 1280, .inl uL))] sz) [(b0, .inr (1, [.int rc, .ref bS, .ref bC, .int rv, .ref bW, .int rp, .ref bCe, .ref bA, .ref bB, .ref bM, .int rf, .ref bG, .ref bK, .ref bCa, .ref bL, .int rd, .int rg, .int re, .ref bO, .int rl, .int rq, .int rb, .long rz])), (bCe, .inl (cI, 4, .inl uCe)), (bA, .inl (cI, 4, .inl uA)), (bB, .inl (cI, 4, .inl uB)), (bM, .inl (cI, 5, .inl uM)), (bCa, .inl (cI, 2304, .inl uCa)), (bL, .inl (cI, 1280, .inl uL))]) (va_A [(b0, .inr (1, [.int rc, .ref bS, .ref bC, .int rv, .ref bW, .int rp, .ref bCe, .ref bA, .ref bB, .ref bM, .int rf, .ref bG, .ref bK, .ref bCa, .ref bL, .int rd, .int rg, .int re, .ref bO, .int rl, .int rq, .int rb, .long rz])), (bCe, .inl (cI, 4, .inl uCe)), (bA, .inl (cI, 4, .inl uA)), (bB, .inl (cI, 4, .inl uB)), (bM, .inl (cI, 5, .inl uM)), (bCa, .inl (cI, 2304, .inl uCa)), (bL, .inl (cI, 1280, .inl uL))] sz)) 0 0 (va_A [(b0, .inr (1, [.int rc, .ref bS, .ref bC, .int rv, .ref bW, .int rp, .ref bCe, .ref bA, .ref bB, .ref bM, .int rf, .ref bG, .ref bK, .ref bCa, .ref bL, .int rd, .int rg, .int re, .ref bO, .int rl, .int rq, .int rb, .long rz])), (bCe, .inl (cI, 4, .inl uCe)), (bA, .inl (cI, 4, .inl uA)), (bB, .inl (cI, 4, .inl uB)), (bM, .inl (cI, 5, .inl uM)), (bCa, .inl (cI, 2304, .inl uCa)), (bL, .inl (cI, 1280, .inl uL))] sz) := by
  refine Met.ofW (cc := b_Ref_keeps) (maxL := 7) (ret := (some .boolean)) (by decide) rfl ?_
  intro p e s m args below meth c s₁ B hml hv
  obtain ⟨rfl, hsz, hP, hKN, hD0⟩ := hv
  obtain ⟨hK, hN⟩ := id hKN
  have hx := B.exec
  have hb := B.bytes
  have hr := B.returns
  have hts0 := atoms_spec (ws := w_Ref_keeps) B.pre
  have hts : ∀ w ∈ lw_g, w.before _ s = true := fun w h => hts0 w (List.mem_cons_of_mem _ h)
  have hown : s.vm.findClass R_Ref = some m.cls := findClass_of_methodNamed B.named
  have hlocks := B.notSynchronized
  subst hsz
  have hD := hD0.self (sz := s.heap.size)
  generalize hAe : va_A [(b0, .inr (1, [.int rc, .ref bS, .ref bC, .int rv, .ref bW, .int rp, .ref bCe, .ref bA, .ref bB, .ref bM, .int rf, .ref bG, .ref bK, .ref bCa, .ref bL, .int rd, .int rg, .int re, .ref bO, .int rl, .int rq, .int rb, .long rz])), (bCe, .inl (cI, 4, .inl uCe)), (bA, .inl (cI, 4, .inl uA)), (bB, .inl (cI, 4, .inl uB)), (bM, .inl (cI, 5, .inl uM)), (bCa, .inl (cI, 2304, .inl uCa)), (bL, .inl (cI, 1280, .inl uL))] s.heap.size = A at hD ⊢
  have hA : ∀ q : Nat, s.heap.size ≤ q → A q := fun q h => by rw [← hAe]; exact Or.inr h
  have hP : va_P (dC, dI) vw_cls [(b0, .inr (1, [.int rc, .ref bS, .ref bC, .int rv, .ref bW, .int rp, .ref bCe, .ref bA, .ref bB, .ref bM, .int rf, .ref bG, .ref bK, .ref bCa, .ref bL, .int rd, .int rg, .int re, .ref bO, .int rl, .int rq, .int rb, .long rz])), (bCe, .inl (cI, 4, .inl uCe)), (bA, .inl (cI, 4, .inl uA)), (bB, .inl (cI, 4, .inl uB)), (bM, .inl (cI, 5, .inl uM)), (bCa, .inl (cI, 2304, .inl uCa)), (bL, .inl (cI, 1280, .inl uL))] s.heap := hP
  have hl := lv_entry ([.ref b0, .int t1, .int r1]) (n := 7) (Nat.le_of_ble_eq_true rfl)
  rw [lg_entry_eq]
  generalize (lg_sl ([.ref b0, .int t1, .int r1]) ++ List.replicate (7 - (lg_sl ([.ref b0, .int t1, .int r1])).length) Slot.unset).toArray = ls at hl ⊢
  have hl : lv_has ls 7 [(0, .ref b0), (1, .int t1), (2, .int r1)] := hl
  refine gw_start (fun H locs hH hlocs => ?_)
  rw [← hH] at hP
  have hS : va_S A s.heap H locs := by rw [hH, hlocs]; exact va_S.rf
  refine lv_iload_n hx hb d_Ref_keeps_0 rfl (lv_at hl 2 rfl) ?_
  refine lv_iconst (v := 4) hx hb d_Ref_keeps_1 (by decide) ?_
  refine lv_icmp_lt (tgt := 51) hx hb d_Ref_keeps_2 (by decide) (fun c_1 => ?_) (fun c_1 => ?_)
  · skip
    have c4 : ¬ 4 ≤ jr := fun q => by rw [hr1] at c_1; exact absurd (show nI 4 ≤ nI jr from nI_le q (by omega)) (Int32.not_le.mpr c_1)
    refine lv_iload_n hx hb d_Ref_keeps_51 rfl (lv_at hl 2 rfl) ?_
    refine lv_aload_n hx hb d_Ref_keeps_52 rfl (lv_at hl 0 rfl) ?_
    refine va_get (D := (dC, dI)) (ci := 1) (v := .int rp) (C := R_Ref) (T := T_Ref) (N := 23) hx hb hts in_Ref hown hK hP 0 rfl rfl 5 (by decide) (hts _ tw_434) (fun _ h9 => h9) rfl d_Ref_keeps_53 ?_
    refine lv_icmp_lt (tgt := 61) hx hb d_Ref_keeps_56 (by decide) (fun c_2 => ?_) (fun c_2 => ?_)
    · skip
      have c8 : ¬ np ≤ jr := fun q => by rw [hr1, hrp] at c_2; exact absurd (nI_le q (by omega)) (Int32.not_le.mpr c_2)
      have hcl := hCe jr (by omega)
      refine lv_aload_n hx hb d_Ref_keeps_61 rfl (lv_at hl 0 rfl) ?_
      refine va_get (D := (dC, dI)) (ci := 1) (v := .ref bCe) (C := R_Ref) (T := T_Ref) (N := 23) hx hb hts in_Ref hown hK hP 0 rfl rfl 6 (by decide) (hts _ tw_435) (fun _ h9 => h9) rfl d_Ref_keeps_62 ?_
      refine lv_iload_n hx hb d_Ref_keeps_65 rfl (lv_at hl 2 rfl) ?_
      have eh_3 : r1 = nI (jr) := hr1
      have bh_3 : jr < 4 := by omega
      have h_3 : vp_in r1 4 := by rw [eh_3]; exact vp_in_nI bh_3 (by decide)
      have kh_3 : r1.toNatClampNeg = jr := by rw [eh_3]; exact nI_clamp (by omega)
      refine va_iald hx hb hK hP 1 0 rfl rfl h_3 d_Ref_keeps_66 ?_
      rw [kh_3]
      refine lv_topi (fun v_4 ev_4 => ?_)
      refine lv_iconst (v := 3) hx hb d_Ref_keeps_67 (by decide) ?_
      refine lv_idiv hx hb d_Ref_keeps_68 (by decide) ?_
      refine lv_topi (fun v_5 ev_5 => ?_)
      have epo : v_5 = nI ((uCe jr).toNatClampNeg / 3) := by rw [ev_5, ev_4, hcl.1]; rw [show nI (uCe jr).toNatClampNeg / 3 = nI ((uCe jr).toNatClampNeg / 3) from pk_div (by omega) (by decide) (by decide), nI_clamp (by omega)]
      refine lv_istore_n (lv' := [(3, .int v_5), (0, .ref b0), (1, .int t1), (2, .int r1)]) hx hb d_Ref_keeps_69 rfl hl (by decide) rfl (fun ls hl => ?_)
      refine lv_lconst (v := 0) hx hb d_Ref_keeps_70 (by decide) ?_
      refine lv_lstore (lv' := [(4, .long 0), (3, .int v_5), (0, .ref b0), (1, .int t1), (2, .int r1)]) hx hb d_Ref_keeps_71 hl (by decide) rfl (fun ls hl => ?_)
      refine lv_iconst (v := 0) hx hb d_Ref_keeps_73 (by decide) ?_
      refine lv_istore (lv' := [(6, .int 0), (4, .long 0), (3, .int v_5), (0, .ref b0), (1, .int t1), (2, .int r1)]) hx hb d_Ref_keeps_74 hl (by decide) rfl (fun ls hl => ?_)
      refine L_ke hx hb hml hown hts hA cI cZ cQ b0 rc bS bC rv bW rp bCe bA bB bM rf bG bK bCa bL rd rg re bO rl rq rb rz uCe uA uB uM uCa uL r1 jr t1 jt nc np v_5 ht1 hjt hrc hnc hrp hnp hCe hr1 hjr epo hcl hKN ?_ (3 - 0 + 1) 0 0 0 (Nat.zero_le _) rfl rfl (Nat.lt_succ_self _) H locs (hP.sub [0, 1, 2, 3, 4, 5, 6] rfl) (hD.sub [0, 1, 2, 3, 4, 5, 6] (by decide) rfl) hS ls (lv_sub hl [3, 4, 5, 2, 1, 0] rfl)
      intro i xi acc hi exi eacc hendi H locs hP hD hS ls hl
      have hl : lv_has ls 7 [(0, .ref b0), (1, .int t1), (2, .int r1), (3, .int v_5), (4, .long acc), (6, .int xi)] := hl
      have hP : va_P (dC, dI) vw_cls [(b0, .inr (1, [.int rc, .ref bS, .ref bC, .int rv, .ref bW, .int rp, .ref bCe, .ref bA, .ref bB, .ref bM, .int rf, .ref bG, .ref bK, .ref bCa, .ref bL, .int rd, .int rg, .int re, .ref bO, .int rl, .int rq, .int rb, .long rz])), (bCe, .inl (cI, 4, .inl uCe)), (bA, .inl (cI, 4, .inl uA)), (bB, .inl (cI, 4, .inl uB)), (bM, .inl (cI, 5, .inl uM)), (bCa, .inl (cI, 2304, .inl uCa)), (bL, .inl (cI, 1280, .inl uL))] H := hP
      have hD : va_D A [(b0, .inr (1, [.int rc, .ref bS, .ref bC, .int rv, .ref bW, .int rp, .ref bCe, .ref bA, .ref bB, .ref bM, .int rf, .ref bG, .ref bK, .ref bCa, .ref bL, .int rd, .int rg, .int re, .ref bO, .int rl, .int rq, .int rb, .long rz])), (bCe, .inl (cI, 4, .inl uCe)), (bA, .inl (cI, 4, .inl uA)), (bB, .inl (cI, 4, .inl uB)), (bM, .inl (cI, 5, .inl uM)), (bCa, .inl (cI, 2304, .inl uCa)), (bL, .inl (cI, 1280, .inl uL))] := hD
      refine lv_aload_n hx hb d_Ref_keeps_110 rfl (lv_at hl 0 rfl) ?_
      refine va_get (D := (dC, dI)) (ci := 1) (v := .ref bCa) (C := R_Ref) (T := T_Ref) (N := 23) hx hb hts in_Ref hown hK hP 0 rfl rfl 13 (by decide) (hts _ tw_442) (fun _ h9 => h9) rfl d_Ref_keeps_111 ?_
      refine lv_bipush (v := 9) hx hb d_Ref_keeps_114 (by decide) ?_
      refine lv_iload_n hx hb d_Ref_keeps_116 rfl (lv_at hl 1 rfl) ?_
      refine lv_imul hx hb d_Ref_keeps_117 ?_
      refine lv_topi (fun v_6 ev_6 => ?_)
      refine lv_aload_n hx hb d_Ref_keeps_118 rfl (lv_at hl 0 rfl) ?_
      refine va_get (D := (dC, dI)) (ci := 1) (v := .ref bCe) (C := R_Ref) (T := T_Ref) (N := 23) hx hb hts in_Ref hown hK hP 0 rfl rfl 6 (by decide) (hts _ tw_435) (fun _ h9 => h9) rfl d_Ref_keeps_119 ?_
      refine lv_iload_n hx hb d_Ref_keeps_122 rfl (lv_at hl 2 rfl) ?_
      have eh_7 : r1 = nI (jr) := hr1
      have bh_7 : jr < 4 := by omega
      have h_7 : vp_in r1 4 := by rw [eh_7]; exact vp_in_nI bh_7 (by decide)
      have kh_7 : r1.toNatClampNeg = jr := by rw [eh_7]; exact nI_clamp (by omega)
      refine va_iald hx hb hK hP 1 0 rfl rfl h_7 d_Ref_keeps_123 ?_
      rw [kh_7]
      refine lv_topi (fun v_8 ev_8 => ?_)
      refine lv_iadd hx hb d_Ref_keeps_124 ?_
      refine lv_topi (fun v_9 ev_9 => ?_)
      have eh_10 : v_9 = nI (9 * jt + (uCe jr).toNatClampNeg) := by simp only [ev_4, ev_5, ev_6, ev_8, ev_9]; rw [ht1, hcl.1, ix_p9, nI_clamp (by omega)]
      have bh_10 : 9 * jt + (uCe jr).toNatClampNeg < 2304 := by omega
      have h_10 : vp_in v_9 2304 := by rw [eh_10]; exact vp_in_nI bh_10 (by decide)
      have kh_10 : v_9.toNatClampNeg = 9 * jt + (uCe jr).toNatClampNeg := by rw [eh_10]; exact nI_clamp (by omega)
      refine va_iald hx hb hK hP 5 0 rfl rfl h_10 d_Ref_keeps_125 ?_
      rw [kh_10]
      refine lv_topi (fun v_11 ev_11 => ?_)
      refine lv_i2l hx hb d_Ref_keeps_126 rfl ?_
      refine lv_topl (fun v_12 ev_12 => ?_)
      refine lv_aload_n hx hb d_Ref_keeps_127 rfl (lv_at hl 0 rfl) ?_
      refine va_get (D := (dC, dI)) (ci := 1) (v := .ref bB) (C := R_Ref) (T := T_Ref) (N := 23) hx hb hts in_Ref hown hK hP 0 rfl rfl 8 (by decide) (hts _ tw_437) (fun _ h9 => h9) rfl d_Ref_keeps_128 ?_
      refine lv_iload_n hx hb d_Ref_keeps_131 rfl (lv_at hl 2 rfl) ?_
      have eh_13 : r1 = nI (jr) := hr1
      have bh_13 : jr < 4 := by omega
      have h_13 : vp_in r1 4 := by rw [eh_13]; exact vp_in_nI bh_13 (by decide)
      have kh_13 : r1.toNatClampNeg = jr := by rw [eh_13]; exact nI_clamp (by omega)
      refine va_iald hx hb hK hP 3 0 rfl rfl h_13 d_Ref_keeps_132 ?_
      rw [kh_13]
      refine lv_topi (fun v_14 ev_14 => ?_)
      refine lv_i2l hx hb d_Ref_keeps_133 rfl ?_
      refine lv_topl (fun v_15 ev_15 => ?_)
      refine lv_lmul hx hb d_Ref_keeps_134 ?_
      refine lv_topl (fun v_16 ev_16 => ?_)
      refine lv_aload_n hx hb d_Ref_keeps_135 rfl (lv_at hl 0 rfl) ?_
      refine va_get (D := (dC, dI)) (ci := 1) (v := .ref bA) (C := R_Ref) (T := T_Ref) (N := 23) hx hb hts in_Ref hown hK hP 0 rfl rfl 7 (by decide) (hts _ tw_436) (fun _ h9 => h9) rfl d_Ref_keeps_136 ?_
      refine lv_iload_n hx hb d_Ref_keeps_139 rfl (lv_at hl 2 rfl) ?_
      have eh_17 : r1 = nI (jr) := hr1
      have bh_17 : jr < 4 := by omega
      have h_17 : vp_in r1 4 := by rw [eh_17]; exact vp_in_nI bh_17 (by decide)
      have kh_17 : r1.toNatClampNeg = jr := by rw [eh_17]; exact nI_clamp (by omega)
      refine va_iald hx hb hK hP 2 0 rfl rfl h_17 d_Ref_keeps_140 ?_
      rw [kh_17]
      refine lv_topi (fun v_18 ev_18 => ?_)
      refine lv_i2l hx hb d_Ref_keeps_141 rfl ?_
      refine lv_topl (fun v_19 ev_19 => ?_)
      refine lv_lload hx hb d_Ref_keeps_142 (lv_at hl 4 rfl) ?_
      refine lv_lmul hx hb d_Ref_keeps_144 ?_
      refine lv_topl (fun v_20 ev_20 => ?_)
      refine W.lcmp hx hb d_Ref_keeps_145 ?_
      refine lv_if_lt (tgt := 153) hx hb d_Ref_keeps_146 (by decide) (fun c_21 => ?_) (fun c_21 => ?_)
      · skip
        have c_21 : v_16 < v_20 := (lg_cmp_lt _ _).mp c_21
        have c9 := c_21
        simp only [ev_4, ev_5, ev_6, ev_8, ev_9, ev_11, ev_12, ev_14, ev_15, ev_16, ev_18, ev_19, ev_20, eacc, hendi] at c9
        refine lv_iconst (v := 0) hx hb d_Ref_keeps_153 (by decide) ?_
        have hP9 := hP.sub (ws' := [(b0, .inr (1, [.int rc, .ref bS, .ref bC, .int rv, .ref bW, .int rp, .ref bCe, .ref bA, .ref bB, .ref bM, .int rf, .ref bG, .ref bK, .ref bCa, .ref bL, .int rd, .int rg, .int re, .ref bO, .int rl, .int rq, .int rb, .long rz])), (bCe, .inl (cI, 4, .inl uCe)), (bA, .inl (cI, 4, .inl uA)), (bB, .inl (cI, 4, .inl uB)), (bM, .inl (cI, 5, .inl uM)), (bCa, .inl (cI, 2304, .inl uCa)), (bL, .inl (cI, 1280, .inl uL))]) [0, 1, 2, 3, 4, 5, 6] rfl
        have hD9 := hD.sub (ws' := [(b0, .inr (1, [.int rc, .ref bS, .ref bC, .int rv, .ref bW, .int rp, .ref bCe, .ref bA, .ref bB, .ref bM, .int rf, .ref bG, .ref bK, .ref bCa, .ref bL, .int rd, .int rg, .int re, .ref bO, .int rl, .int rq, .int rb, .long rz])), (bCe, .inl (cI, 4, .inl uCe)), (bA, .inl (cI, 4, .inl uA)), (bB, .inl (cI, 4, .inl uB)), (bM, .inl (cI, 5, .inl uM)), (bCa, .inl (cI, 2304, .inl uCa)), (bL, .inl (cI, 1280, .inl uL))]) [0, 1, 2, 3, 4, 5, 6] (by decide) rfl
        have hpost_22 : (0 : Int32) = q_ke uCe uA uB uM uCa uL nc np jt jr := by rw [q_ke, if_neg c4, if_neg c8]; first | (rw [if_pos c9]; done) | (rw [if_neg c9]; done)
        exact W.zret (v := 0) hx hb hr (rfl) (fun t ht hW => ⟨⟨0, (), rfl, hpost_22, by rw [ht]; exact hP9, hD9⟩, hS.F ht⟩) hS.2.2 d_Ref_keeps_154
      · skip
        have c_21 : ¬ v_16 < v_20 := fun h => c_21 ((lg_cmp_lt _ _).mpr h)
        have c9 := c_21
        simp only [ev_4, ev_5, ev_6, ev_8, ev_9, ev_11, ev_12, ev_14, ev_15, ev_16, ev_18, ev_19, ev_20, eacc, hendi] at c9
        refine lv_iconst (v := 1) hx hb d_Ref_keeps_149 (by decide) ?_
        refine lv_goto (tgt := 154) hx hb d_Ref_keeps_150 (by decide) ?_
        have hP9 := hP.sub (ws' := [(b0, .inr (1, [.int rc, .ref bS, .ref bC, .int rv, .ref bW, .int rp, .ref bCe, .ref bA, .ref bB, .ref bM, .int rf, .ref bG, .ref bK, .ref bCa, .ref bL, .int rd, .int rg, .int re, .ref bO, .int rl, .int rq, .int rb, .long rz])), (bCe, .inl (cI, 4, .inl uCe)), (bA, .inl (cI, 4, .inl uA)), (bB, .inl (cI, 4, .inl uB)), (bM, .inl (cI, 5, .inl uM)), (bCa, .inl (cI, 2304, .inl uCa)), (bL, .inl (cI, 1280, .inl uL))]) [0, 1, 2, 3, 4, 5, 6] rfl
        have hD9 := hD.sub (ws' := [(b0, .inr (1, [.int rc, .ref bS, .ref bC, .int rv, .ref bW, .int rp, .ref bCe, .ref bA, .ref bB, .ref bM, .int rf, .ref bG, .ref bK, .ref bCa, .ref bL, .int rd, .int rg, .int re, .ref bO, .int rl, .int rq, .int rb, .long rz])), (bCe, .inl (cI, 4, .inl uCe)), (bA, .inl (cI, 4, .inl uA)), (bB, .inl (cI, 4, .inl uB)), (bM, .inl (cI, 5, .inl uM)), (bCa, .inl (cI, 2304, .inl uCa)), (bL, .inl (cI, 1280, .inl uL))]) [0, 1, 2, 3, 4, 5, 6] (by decide) rfl
        have hpost_23 : (1 : Int32) = q_ke uCe uA uB uM uCa uL nc np jt jr := by rw [q_ke, if_neg c4, if_neg c8]; first | (rw [if_pos c9]; done) | (rw [if_neg c9]; done)
        exact W.zret (v := 1) hx hb hr (rfl) (fun t ht hW => ⟨⟨1, (), rfl, hpost_23, by rw [ht]; exact hP9, hD9⟩, hS.F ht⟩) hS.2.2 d_Ref_keeps_154
    · skip
      have c8 : np ≤ jr := by
        rcases Nat.lt_or_ge jr np with q | q
        · exact absurd (by rw [hr1, hrp]; exact nI_lt q (by omega)) c_2
        · exact q
      refine lv_iconst (v := 1) hx hb d_Ref_keeps_59 (by decide) ?_
      have hP9 := hP.sub (ws' := [(b0, .inr (1, [.int rc, .ref bS, .ref bC, .int rv, .ref bW, .int rp, .ref bCe, .ref bA, .ref bB, .ref bM, .int rf, .ref bG, .ref bK, .ref bCa, .ref bL, .int rd, .int rg, .int re, .ref bO, .int rl, .int rq, .int rb, .long rz])), (bCe, .inl (cI, 4, .inl uCe)), (bA, .inl (cI, 4, .inl uA)), (bB, .inl (cI, 4, .inl uB)), (bM, .inl (cI, 5, .inl uM)), (bCa, .inl (cI, 2304, .inl uCa)), (bL, .inl (cI, 1280, .inl uL))]) [0, 1, 2, 3, 4, 5, 6] rfl
      have hD9 := hD.sub (ws' := [(b0, .inr (1, [.int rc, .ref bS, .ref bC, .int rv, .ref bW, .int rp, .ref bCe, .ref bA, .ref bB, .ref bM, .int rf, .ref bG, .ref bK, .ref bCa, .ref bL, .int rd, .int rg, .int re, .ref bO, .int rl, .int rq, .int rb, .long rz])), (bCe, .inl (cI, 4, .inl uCe)), (bA, .inl (cI, 4, .inl uA)), (bB, .inl (cI, 4, .inl uB)), (bM, .inl (cI, 5, .inl uM)), (bCa, .inl (cI, 2304, .inl uCa)), (bL, .inl (cI, 1280, .inl uL))]) [0, 1, 2, 3, 4, 5, 6] (by decide) rfl
      have hpost_24 : (1 : Int32) = q_ke uCe uA uB uM uCa uL nc np jt jr := by rw [q_ke, if_neg c4, if_pos c8]
      exact W.zret (v := 1) hx hb hr (rfl) (fun t ht hW => ⟨⟨1, (), rfl, hpost_24, by rw [ht]; exact hP9, hD9⟩, hS.F ht⟩) hS.2.2 d_Ref_keeps_60
  · skip
    have c4 : 4 ≤ jr := by
      rcases Nat.lt_or_ge jr 4 with q | q
      · exact absurd (by rw [hr1]; exact nI_lt q (by decide)) c_1
      · exact q
    refine lv_iload_n hx hb d_Ref_keeps_5 rfl (lv_at hl 2 rfl) ?_
    refine lv_iconst (v := 4) hx hb d_Ref_keeps_6 (by decide) ?_
    refine lv_isub hx hb d_Ref_keeps_7 ?_
    refine lv_topi (fun v_25 ev_25 => ?_)
    have e3 : v_25 = nI (jr - 4) := by rw [ev_25, hr1]; exact pk_sub c4
    refine lv_istore_n (lv' := [(3, .int v_25), (0, .ref b0), (1, .int t1), (2, .int r1)]) hx hb d_Ref_keeps_8 rfl hl (by decide) rfl (fun ls hl => ?_)
    refine lv_iload_n hx hb d_Ref_keeps_9 rfl (lv_at hl 0 rfl) ?_
    refine lv_aload_n hx hb d_Ref_keeps_10 rfl (lv_at hl 1 rfl) ?_
    refine va_get (D := (dC, dI)) (ci := 1) (v := .int rc) (C := R_Ref) (T := T_Ref) (N := 23) hx hb hts in_Ref hown hK hP 0 rfl rfl 0 (by decide) (hts _ tw_429) (fun _ h9 => h9) rfl d_Ref_keeps_11 ?_
    refine lv_icmp_ge (tgt := 45) hx hb d_Ref_keeps_14 (by decide) (fun c_26 => ?_) (fun c_26 => ?_)
    · skip
      have c5 : nc ≤ jr - 4 := by rw [e3, hrc] at c_26; exact (nI_leI (by omega) (by omega)).mp c_26
      refine lv_iconst (v := 1) hx hb d_Ref_keeps_45 (by decide) ?_
      refine lv_goto (tgt := 50) hx hb d_Ref_keeps_46 (by decide) ?_
      have hP9 := hP.sub (ws' := [(b0, .inr (1, [.int rc, .ref bS, .ref bC, .int rv, .ref bW, .int rp, .ref bCe, .ref bA, .ref bB, .ref bM, .int rf, .ref bG, .ref bK, .ref bCa, .ref bL, .int rd, .int rg, .int re, .ref bO, .int rl, .int rq, .int rb, .long rz])), (bCe, .inl (cI, 4, .inl uCe)), (bA, .inl (cI, 4, .inl uA)), (bB, .inl (cI, 4, .inl uB)), (bM, .inl (cI, 5, .inl uM)), (bCa, .inl (cI, 2304, .inl uCa)), (bL, .inl (cI, 1280, .inl uL))]) [0, 1, 2, 3, 4, 5, 6] rfl
      have hD9 := hD.sub (ws' := [(b0, .inr (1, [.int rc, .ref bS, .ref bC, .int rv, .ref bW, .int rp, .ref bCe, .ref bA, .ref bB, .ref bM, .int rf, .ref bG, .ref bK, .ref bCa, .ref bL, .int rd, .int rg, .int re, .ref bO, .int rl, .int rq, .int rb, .long rz])), (bCe, .inl (cI, 4, .inl uCe)), (bA, .inl (cI, 4, .inl uA)), (bB, .inl (cI, 4, .inl uB)), (bM, .inl (cI, 5, .inl uM)), (bCa, .inl (cI, 2304, .inl uCa)), (bL, .inl (cI, 1280, .inl uL))]) [0, 1, 2, 3, 4, 5, 6] (by decide) rfl
      have hpost_27 : (1 : Int32) = q_ke uCe uA uB uM uCa uL nc np jt jr := by rw [q_ke, if_pos c4]; first | (rw [if_pos c5]; done) | (rw [if_neg c5, if_pos c6]; done) | (rw [if_neg c5, if_neg c6, if_pos c7]; done) | (rw [if_neg c5, if_neg c6, if_neg c7]; done)
      exact W.zret (v := 1) hx hb hr (rfl) (fun t ht hW => ⟨⟨1, (), rfl, hpost_27, by rw [ht]; exact hP9, hD9⟩, hS.F ht⟩) hS.2.2 d_Ref_keeps_50
    · skip
      have c5 : ¬ nc ≤ jr - 4 := fun q => c_26 (by rw [e3, hrc]; exact nI_le q (by omega))
      refine lv_aload_n hx hb d_Ref_keeps_17 rfl (lv_at hl 1 rfl) ?_
      refine va_get (D := (dC, dI)) (ci := 1) (v := .ref bM) (C := R_Ref) (T := T_Ref) (N := 23) hx hb hts in_Ref hown hK hP 0 rfl rfl 9 (by decide) (hts _ tw_438) (fun _ h9 => h9) rfl d_Ref_keeps_18 ?_
      refine lv_iload_n hx hb d_Ref_keeps_21 rfl (lv_at hl 0 rfl) ?_
      have eh_28 : v_25 = nI (jr - 4) := e3
      have bh_28 : jr - 4 < 5 := by omega
      have h_28 : vp_in v_25 5 := by rw [eh_28]; exact vp_in_nI bh_28 (by decide)
      have kh_28 : v_25.toNatClampNeg = jr - 4 := by rw [eh_28]; exact nI_clamp (by omega)
      refine va_iald hx hb hK hP 4 0 rfl rfl h_28 d_Ref_keeps_22 ?_
      rw [kh_28]
      refine lv_topi (fun v_29 ev_29 => ?_)
      refine lv_if_lt (tgt := 45) hx hb d_Ref_keeps_23 (by decide) (fun c_30 => ?_) (fun c_30 => ?_)
      · skip
        have c6 : uM (jr - 4) < 0 := by rw [← ev_29]; exact c_30
        refine lv_iconst (v := 1) hx hb d_Ref_keeps_45 (by decide) ?_
        refine lv_goto (tgt := 50) hx hb d_Ref_keeps_46 (by decide) ?_
        have hP9 := hP.sub (ws' := [(b0, .inr (1, [.int rc, .ref bS, .ref bC, .int rv, .ref bW, .int rp, .ref bCe, .ref bA, .ref bB, .ref bM, .int rf, .ref bG, .ref bK, .ref bCa, .ref bL, .int rd, .int rg, .int re, .ref bO, .int rl, .int rq, .int rb, .long rz])), (bCe, .inl (cI, 4, .inl uCe)), (bA, .inl (cI, 4, .inl uA)), (bB, .inl (cI, 4, .inl uB)), (bM, .inl (cI, 5, .inl uM)), (bCa, .inl (cI, 2304, .inl uCa)), (bL, .inl (cI, 1280, .inl uL))]) [0, 1, 2, 3, 4, 5, 6] rfl
        have hD9 := hD.sub (ws' := [(b0, .inr (1, [.int rc, .ref bS, .ref bC, .int rv, .ref bW, .int rp, .ref bCe, .ref bA, .ref bB, .ref bM, .int rf, .ref bG, .ref bK, .ref bCa, .ref bL, .int rd, .int rg, .int re, .ref bO, .int rl, .int rq, .int rb, .long rz])), (bCe, .inl (cI, 4, .inl uCe)), (bA, .inl (cI, 4, .inl uA)), (bB, .inl (cI, 4, .inl uB)), (bM, .inl (cI, 5, .inl uM)), (bCa, .inl (cI, 2304, .inl uCa)), (bL, .inl (cI, 1280, .inl uL))]) [0, 1, 2, 3, 4, 5, 6] (by decide) rfl
        have hpost_31 : (1 : Int32) = q_ke uCe uA uB uM uCa uL nc np jt jr := by rw [q_ke, if_pos c4]; first | (rw [if_pos c5]; done) | (rw [if_neg c5, if_pos c6]; done) | (rw [if_neg c5, if_neg c6, if_pos c7]; done) | (rw [if_neg c5, if_neg c6, if_neg c7]; done)
        exact W.zret (v := 1) hx hb hr (rfl) (fun t ht hW => ⟨⟨1, (), rfl, hpost_31, by rw [ht]; exact hP9, hD9⟩, hS.F ht⟩) hS.2.2 d_Ref_keeps_50
      · skip
        have c6 : ¬ uM (jr - 4) < 0 := by rw [← ev_29]; exact c_30
        refine lv_aload_n hx hb d_Ref_keeps_26 rfl (lv_at hl 1 rfl) ?_
        refine va_get (D := (dC, dI)) (ci := 1) (v := .ref bL) (C := R_Ref) (T := T_Ref) (N := 23) hx hb hts in_Ref hown hK hP 0 rfl rfl 14 (by decide) (hts _ tw_443) (fun _ h9 => h9) rfl d_Ref_keeps_27 ?_
        refine lv_iconst (v := 5) hx hb d_Ref_keeps_30 (by decide) ?_
        refine lv_iload_n hx hb d_Ref_keeps_31 rfl (lv_at hl 2 rfl) ?_
        refine lv_imul hx hb d_Ref_keeps_32 ?_
        refine lv_topi (fun v_32 ev_32 => ?_)
        refine lv_iload_n hx hb d_Ref_keeps_33 rfl (lv_at hl 0 rfl) ?_
        refine lv_iadd hx hb d_Ref_keeps_34 ?_
        refine lv_topi (fun v_33 ev_33 => ?_)
        have eh_34 : v_33 = nI (5 * jt + (jr - 4)) := by simp only [ev_25, ev_29, ev_32, ev_33]; rw [hr1, ht1, show nI jr - 4 = nI (jr - 4) from pk_sub c4, ix_p5]
        have bh_34 : 5 * jt + (jr - 4) < 1280 := by omega
        have h_34 : vp_in v_33 1280 := by rw [eh_34]; exact vp_in_nI bh_34 (by decide)
        have kh_34 : v_33.toNatClampNeg = 5 * jt + (jr - 4) := by rw [eh_34]; exact nI_clamp (by omega)
        refine va_iald hx hb hK hP 6 0 rfl rfl h_34 d_Ref_keeps_35 ?_
        rw [kh_34]
        refine lv_topi (fun v_35 ev_35 => ?_)
        refine lv_aload_n hx hb d_Ref_keeps_36 rfl (lv_at hl 1 rfl) ?_
        refine va_get (D := (dC, dI)) (ci := 1) (v := .ref bM) (C := R_Ref) (T := T_Ref) (N := 23) hx hb hts in_Ref hown hK hP 0 rfl rfl 9 (by decide) (hts _ tw_438) (fun _ h9 => h9) rfl d_Ref_keeps_37 ?_
        refine lv_iload_n hx hb d_Ref_keeps_40 rfl (lv_at hl 0 rfl) ?_
        have eh_36 : v_25 = nI (jr - 4) := e3
        have bh_36 : jr - 4 < 5 := by omega
        have h_36 : vp_in v_25 5 := by rw [eh_36]; exact vp_in_nI bh_36 (by decide)
        have kh_36 : v_25.toNatClampNeg = jr - 4 := by rw [eh_36]; exact nI_clamp (by omega)
        refine va_iald hx hb hK hP 4 0 rfl rfl h_36 d_Ref_keeps_41 ?_
        rw [kh_36]
        refine lv_topi (fun v_37 ev_37 => ?_)
        refine lv_icmp_gt (tgt := 49) hx hb d_Ref_keeps_42 (by decide) (fun c_38 => ?_) (fun c_38 => ?_)
        · skip
          have c7 : uM (jr - 4) < uL (5 * jt + (jr - 4)) := by rw [← ev_37, ← ev_35]; exact c_38
          refine lv_iconst (v := 0) hx hb d_Ref_keeps_49 (by decide) ?_
          have hP9 := hP.sub (ws' := [(b0, .inr (1, [.int rc, .ref bS, .ref bC, .int rv, .ref bW, .int rp, .ref bCe, .ref bA, .ref bB, .ref bM, .int rf, .ref bG, .ref bK, .ref bCa, .ref bL, .int rd, .int rg, .int re, .ref bO, .int rl, .int rq, .int rb, .long rz])), (bCe, .inl (cI, 4, .inl uCe)), (bA, .inl (cI, 4, .inl uA)), (bB, .inl (cI, 4, .inl uB)), (bM, .inl (cI, 5, .inl uM)), (bCa, .inl (cI, 2304, .inl uCa)), (bL, .inl (cI, 1280, .inl uL))]) [0, 1, 2, 3, 4, 5, 6] rfl
          have hD9 := hD.sub (ws' := [(b0, .inr (1, [.int rc, .ref bS, .ref bC, .int rv, .ref bW, .int rp, .ref bCe, .ref bA, .ref bB, .ref bM, .int rf, .ref bG, .ref bK, .ref bCa, .ref bL, .int rd, .int rg, .int re, .ref bO, .int rl, .int rq, .int rb, .long rz])), (bCe, .inl (cI, 4, .inl uCe)), (bA, .inl (cI, 4, .inl uA)), (bB, .inl (cI, 4, .inl uB)), (bM, .inl (cI, 5, .inl uM)), (bCa, .inl (cI, 2304, .inl uCa)), (bL, .inl (cI, 1280, .inl uL))]) [0, 1, 2, 3, 4, 5, 6] (by decide) rfl
          have hpost_39 : (0 : Int32) = q_ke uCe uA uB uM uCa uL nc np jt jr := by rw [q_ke, if_pos c4]; first | (rw [if_pos c5]; done) | (rw [if_neg c5, if_pos c6]; done) | (rw [if_neg c5, if_neg c6, if_pos c7]; done) | (rw [if_neg c5, if_neg c6, if_neg c7]; done)
          exact W.zret (v := 0) hx hb hr (rfl) (fun t ht hW => ⟨⟨0, (), rfl, hpost_39, by rw [ht]; exact hP9, hD9⟩, hS.F ht⟩) hS.2.2 d_Ref_keeps_50
        · skip
          have c7 : ¬ uM (jr - 4) < uL (5 * jt + (jr - 4)) := by rw [← ev_37, ← ev_35]; exact c_38
          refine lv_iconst (v := 1) hx hb d_Ref_keeps_45 (by decide) ?_
          refine lv_goto (tgt := 50) hx hb d_Ref_keeps_46 (by decide) ?_
          have hP9 := hP.sub (ws' := [(b0, .inr (1, [.int rc, .ref bS, .ref bC, .int rv, .ref bW, .int rp, .ref bCe, .ref bA, .ref bB, .ref bM, .int rf, .ref bG, .ref bK, .ref bCa, .ref bL, .int rd, .int rg, .int re, .ref bO, .int rl, .int rq, .int rb, .long rz])), (bCe, .inl (cI, 4, .inl uCe)), (bA, .inl (cI, 4, .inl uA)), (bB, .inl (cI, 4, .inl uB)), (bM, .inl (cI, 5, .inl uM)), (bCa, .inl (cI, 2304, .inl uCa)), (bL, .inl (cI, 1280, .inl uL))]) [0, 1, 2, 3, 4, 5, 6] rfl
          have hD9 := hD.sub (ws' := [(b0, .inr (1, [.int rc, .ref bS, .ref bC, .int rv, .ref bW, .int rp, .ref bCe, .ref bA, .ref bB, .ref bM, .int rf, .ref bG, .ref bK, .ref bCa, .ref bL, .int rd, .int rg, .int re, .ref bO, .int rl, .int rq, .int rb, .long rz])), (bCe, .inl (cI, 4, .inl uCe)), (bA, .inl (cI, 4, .inl uA)), (bB, .inl (cI, 4, .inl uB)), (bM, .inl (cI, 5, .inl uM)), (bCa, .inl (cI, 2304, .inl uCa)), (bL, .inl (cI, 1280, .inl uL))]) [0, 1, 2, 3, 4, 5, 6] (by decide) rfl
          have hpost_40 : (1 : Int32) = q_ke uCe uA uB uM uCa uL nc np jt jr := by rw [q_ke, if_pos c4]; first | (rw [if_pos c5]; done) | (rw [if_neg c5, if_pos c6]; done) | (rw [if_neg c5, if_neg c6, if_pos c7]; done) | (rw [if_neg c5, if_neg c6, if_neg c7]; done)
          exact W.zret (v := 1) hx hb hr (rfl) (fun t ht hW => ⟨⟨1, (), rfl, hpost_40, by rw [ht]; exact hP9, hD9⟩, hS.F ht⟩) hS.2.2 d_Ref_keeps_50
set_option maxHeartbeats 4000000 in
set_option maxRecDepth 100000 in
/-- the reference: isTold -/
theorem m_it (l : Launch) (dC : Nat → ClassId) (dI : Nat → Nat → Nat) (sz : Nat) (cI : ClassId) (cZ : ClassId) (cQ : ClassId) (b0 : Nat) (rc : Int32) (bS : Nat) (bC : Nat) (rv : Int32) (bW : Nat) (rp : Int32) (bCe : Nat) (bA : Nat) (bB : Nat) (bM : Nat) (rf : Int32) (bG : Nat) (bK : Nat) (bCa : Nat) (bL : Nat) (rd : Int32) (rg : Int32) (re : Int32) (bO : Nat) (rl : Int32) (rq : Int32) (rb : Int32) (rz : Int64) (uM : Nat → Int32) (r1 : Int32) (jr : Nat) (nc : Nat) (np : Nat) (hrc : rc = nI nc) (hnc : nc ≤ 5) (hrp : rp = nI np) (hnp : np ≤ 4) (hr1 : r1 = nI jr) (hjr : jr < 9) : Met l y_Ref_isTold w_Ref_isTold ({ frames := 0, cells := 0, slots := 0, locals := 0 } : Room) (va_Pc [.ref b0, .int r1] (fun U => U.heap.size = sz ∧ va_P (dC, dI) vw_cls [(b0, .inr (1, [.int rc, .ref bS, .ref bC, .int rv, .ref bW, .int rp, .ref bCe, .ref bA, .ref bB, .ref bM, .int rf, .ref bG, .ref bK, .ref bCa, .ref bL, .int rd, .int rg, .int re, .ref bO, .int rl, .int rq, .int rb, .long rz])), (bM, .inl (cI, 5, .inl uM))] U.heap ∧ g_K dC dI [(cI, .int), (cZ, .boolean), (cQ, (.object "SettingSearch$Answers"))] U ∧ va_D (fun _ => True) [(b0, .inr (1, [.int rc, .ref bS, .ref bC, .int rv, .ref bW, .int rp, .ref bCe, .ref bA, .ref bB, .ref bM, .int rf, .ref bG, .ref bK, .ref bCa, .ref bL, .int rd, .int rg, .int re, .ref bO, .int rl, .int rq, .int rb, .long rz])), (bM, .inl (cI, 5, .inl uM))])) (va_Qi (fun (r : Int32) (u : Unit) => r = q_it uM nc np jr) (fun (u : Unit) (t : State) => va_P (dC, dI) vw_cls [(b0, .inr (1, [.int rc, .ref bS, .ref bC, .int rv, .ref bW, .int rp, .ref bCe, .ref bA, .ref bB, .ref bM, .int rf, .ref bG, .ref bK, .ref bCa, .ref bL, .int rd, .int rg, .int re, .ref bO, .int rl, .int rq, .int rb, .long rz])), (bM, .inl (cI, 5, .inl uM))] t.heap ∧ va_D (va_A [(b0, .inr (1, [.int rc, .ref bS, .ref bC, .int rv, .ref bW, .int rp, .ref bCe, .ref bA, .ref bB, .ref bM, .int rf, .ref bG, .ref bK, .ref bCa, .ref bL, .int rd, .int rg, .int re, .ref bO, .int rl, .int rq, .int rb, .long rz])), (bM, .inl (cI, 5, .inl uM))] sz) [(b0, .inr (1, [.int rc, .ref bS, .ref bC, .int rv, .ref bW, .int rp, .ref bCe, .ref bA, .ref bB, .ref bM, .int rf, .ref bG, .ref bK, .ref bCa, .ref bL, .int rd, .int rg, .int re, .ref bO, .int rl, .int rq, .int rb, .long rz])), (bM, .inl (cI, 5, .inl uM))]) (va_A [(b0, .inr (1, [.int rc, .ref bS, .ref bC, .int rv, .ref bW, .int rp, .ref bCe, .ref bA, .ref bB, .ref bM, .int rf, .ref bG, .ref bK, .ref bCa, .ref bL, .int rd, .int rg, .int re, .ref bO, .int rl, .int rq, .int rb, .long rz])), (bM, .inl (cI, 5, .inl uM))] sz)) 0 0 (va_A [(b0, .inr (1, [.int rc, .ref bS, .ref bC, .int rv, .ref bW, .int rp, .ref bCe, .ref bA, .ref bB, .ref bM, .int rf, .ref bG, .ref bK, .ref bCa, .ref bL, .int rd, .int rg, .int re, .ref bO, .int rl, .int rq, .int rb, .long rz])), (bM, .inl (cI, 5, .inl uM))] sz) := by
  refine Met.ofW (cc := b_Ref_isTold) (maxL := 2) (ret := (some .boolean)) (by decide) rfl ?_
  intro p e s m args below meth c s₁ B hml hv
  obtain ⟨rfl, hsz, hP, hKN, hD0⟩ := hv
  obtain ⟨hK, hN⟩ := id hKN
  have hx := B.exec
  have hb := B.bytes
  have hr := B.returns
  have hts0 := atoms_spec (ws := w_Ref_isTold) B.pre
  have hts : ∀ w ∈ lw_g, w.before _ s = true := fun w h => hts0 w (List.mem_cons_of_mem _ h)
  have hown : s.vm.findClass R_Ref = some m.cls := findClass_of_methodNamed B.named
  have hlocks := B.notSynchronized
  subst hsz
  have hD := hD0.self (sz := s.heap.size)
  generalize hAe : va_A [(b0, .inr (1, [.int rc, .ref bS, .ref bC, .int rv, .ref bW, .int rp, .ref bCe, .ref bA, .ref bB, .ref bM, .int rf, .ref bG, .ref bK, .ref bCa, .ref bL, .int rd, .int rg, .int re, .ref bO, .int rl, .int rq, .int rb, .long rz])), (bM, .inl (cI, 5, .inl uM))] s.heap.size = A at hD ⊢
  have hA : ∀ q : Nat, s.heap.size ≤ q → A q := fun q h => by rw [← hAe]; exact Or.inr h
  have hP : va_P (dC, dI) vw_cls [(b0, .inr (1, [.int rc, .ref bS, .ref bC, .int rv, .ref bW, .int rp, .ref bCe, .ref bA, .ref bB, .ref bM, .int rf, .ref bG, .ref bK, .ref bCa, .ref bL, .int rd, .int rg, .int re, .ref bO, .int rl, .int rq, .int rb, .long rz])), (bM, .inl (cI, 5, .inl uM))] s.heap := hP
  have hl := lv_entry ([.ref b0, .int r1]) (n := 2) (Nat.le_of_ble_eq_true rfl)
  rw [lg_entry_eq]
  generalize (lg_sl ([.ref b0, .int r1]) ++ List.replicate (2 - (lg_sl ([.ref b0, .int r1])).length) Slot.unset).toArray = ls at hl ⊢
  have hl : lv_has ls 2 [(0, .ref b0), (1, .int r1)] := hl
  refine gw_start (fun H locs hH hlocs => ?_)
  rw [← hH] at hP
  have hS : va_S A s.heap H locs := by rw [hH, hlocs]; exact va_S.rf
  refine lv_iload_n hx hb d_Ref_isTold_0 rfl (lv_at hl 1 rfl) ?_
  refine lv_iconst (v := 4) hx hb d_Ref_isTold_1 (by decide) ?_
  refine lv_icmp_ge (tgt := 21) hx hb d_Ref_isTold_2 (by decide) (fun c_1 => ?_) (fun c_1 => ?_)
  · skip
    have c4 : 4 ≤ jr := by
      rcases Nat.lt_or_ge jr 4 with q | q
      · rw [hr1] at c_1; exact absurd (show nI 4 ≤ nI jr from c_1) (nI_ge q (by decide))
      · exact q
    refine lv_iload_n hx hb d_Ref_isTold_21 rfl (lv_at hl 1 rfl) ?_
    refine lv_iconst (v := 4) hx hb d_Ref_isTold_22 (by decide) ?_
    refine lv_isub hx hb d_Ref_isTold_23 ?_
    refine lv_topi (fun v_2 ev_2 => ?_)
    refine lv_aload_n hx hb d_Ref_isTold_24 rfl (lv_at hl 0 rfl) ?_
    refine va_get (D := (dC, dI)) (ci := 1) (v := .int rc) (C := R_Ref) (T := T_Ref) (N := 23) hx hb hts in_Ref hown hK hP 0 rfl rfl 0 (by decide) (hts _ tw_429) (fun _ h9 => h9) rfl d_Ref_isTold_25 ?_
    refine lv_icmp_ge (tgt := 46) hx hb d_Ref_isTold_28 (by decide) (fun c_3 => ?_) (fun c_3 => ?_)
    · skip
      have e3 : nI jr - 4 = nI (jr - 4) := pk_sub c4
      have c5 : nc ≤ jr - 4 := by rw [ev_2, hr1, e3, hrc] at c_3; exact (nI_leI (by omega) (by omega)).mp c_3
      refine lv_iconst (v := 0) hx hb d_Ref_isTold_46 (by decide) ?_
      have hP9 := hP.sub (ws' := [(b0, .inr (1, [.int rc, .ref bS, .ref bC, .int rv, .ref bW, .int rp, .ref bCe, .ref bA, .ref bB, .ref bM, .int rf, .ref bG, .ref bK, .ref bCa, .ref bL, .int rd, .int rg, .int re, .ref bO, .int rl, .int rq, .int rb, .long rz])), (bM, .inl (cI, 5, .inl uM))]) [0, 1] rfl
      have hD9 := hD.sub (ws' := [(b0, .inr (1, [.int rc, .ref bS, .ref bC, .int rv, .ref bW, .int rp, .ref bCe, .ref bA, .ref bB, .ref bM, .int rf, .ref bG, .ref bK, .ref bCa, .ref bL, .int rd, .int rg, .int re, .ref bO, .int rl, .int rq, .int rb, .long rz])), (bM, .inl (cI, 5, .inl uM))]) [0, 1] (by decide) rfl
      have hpost_4 : (0 : Int32) = q_it uM nc np jr := by first | (rw [q_it, if_neg c4, if_pos c8]; done) | (rw [q_it, if_neg c4, if_neg c8]; done) | (rw [q_it, if_pos c4, if_pos c5]; done) | (rw [q_it, if_pos c4, if_neg c5, if_pos c6]; done) | (rw [q_it, if_pos c4, if_neg c5, if_neg c6]; done)
      exact W.zret (v := 0) hx hb hr (rfl) (fun t ht hW => ⟨⟨0, (), rfl, hpost_4, by rw [ht]; exact hP9, hD9⟩, hS.F ht⟩) hS.2.2 d_Ref_isTold_47
    · skip
      have e3 : nI jr - 4 = nI (jr - 4) := pk_sub c4
      have c5 : ¬ nc ≤ jr - 4 := fun q => c_3 (by rw [ev_2, hr1, e3, hrc]; exact nI_le q (by omega))
      refine lv_aload_n hx hb d_Ref_isTold_31 rfl (lv_at hl 0 rfl) ?_
      refine va_get (D := (dC, dI)) (ci := 1) (v := .ref bM) (C := R_Ref) (T := T_Ref) (N := 23) hx hb hts in_Ref hown hK hP 0 rfl rfl 9 (by decide) (hts _ tw_438) (fun _ h9 => h9) rfl d_Ref_isTold_32 ?_
      refine lv_iload_n hx hb d_Ref_isTold_35 rfl (lv_at hl 1 rfl) ?_
      refine lv_iconst (v := 4) hx hb d_Ref_isTold_36 (by decide) ?_
      refine lv_isub hx hb d_Ref_isTold_37 ?_
      refine lv_topi (fun v_5 ev_5 => ?_)
      have eh_6 : v_5 = nI (jr - 4) := by simp only [ev_2, ev_5]; rw [hr1]; exact e3
      have bh_6 : jr - 4 < 5 := by omega
      have h_6 : vp_in v_5 5 := by rw [eh_6]; exact vp_in_nI bh_6 (by decide)
      have kh_6 : v_5.toNatClampNeg = jr - 4 := by rw [eh_6]; exact nI_clamp (by omega)
      refine va_iald hx hb hK hP 1 0 rfl rfl h_6 d_Ref_isTold_38 ?_
      rw [kh_6]
      refine lv_topi (fun v_7 ev_7 => ?_)
      refine lv_if_lt (tgt := 46) hx hb d_Ref_isTold_39 (by decide) (fun c_8 => ?_) (fun c_8 => ?_)
      · skip
        have c6 : uM (jr - 4) < 0 := by rw [← ev_7]; exact c_8
        refine lv_iconst (v := 0) hx hb d_Ref_isTold_46 (by decide) ?_
        have hP9 := hP.sub (ws' := [(b0, .inr (1, [.int rc, .ref bS, .ref bC, .int rv, .ref bW, .int rp, .ref bCe, .ref bA, .ref bB, .ref bM, .int rf, .ref bG, .ref bK, .ref bCa, .ref bL, .int rd, .int rg, .int re, .ref bO, .int rl, .int rq, .int rb, .long rz])), (bM, .inl (cI, 5, .inl uM))]) [0, 1] rfl
        have hD9 := hD.sub (ws' := [(b0, .inr (1, [.int rc, .ref bS, .ref bC, .int rv, .ref bW, .int rp, .ref bCe, .ref bA, .ref bB, .ref bM, .int rf, .ref bG, .ref bK, .ref bCa, .ref bL, .int rd, .int rg, .int re, .ref bO, .int rl, .int rq, .int rb, .long rz])), (bM, .inl (cI, 5, .inl uM))]) [0, 1] (by decide) rfl
        have hpost_9 : (0 : Int32) = q_it uM nc np jr := by first | (rw [q_it, if_neg c4, if_pos c8]; done) | (rw [q_it, if_neg c4, if_neg c8]; done) | (rw [q_it, if_pos c4, if_pos c5]; done) | (rw [q_it, if_pos c4, if_neg c5, if_pos c6]; done) | (rw [q_it, if_pos c4, if_neg c5, if_neg c6]; done)
        exact W.zret (v := 0) hx hb hr (rfl) (fun t ht hW => ⟨⟨0, (), rfl, hpost_9, by rw [ht]; exact hP9, hD9⟩, hS.F ht⟩) hS.2.2 d_Ref_isTold_47
      · skip
        have c6 : ¬ uM (jr - 4) < 0 := by rw [← ev_7]; exact c_8
        refine lv_iconst (v := 1) hx hb d_Ref_isTold_42 (by decide) ?_
        refine lv_goto (tgt := 47) hx hb d_Ref_isTold_43 (by decide) ?_
        have hP9 := hP.sub (ws' := [(b0, .inr (1, [.int rc, .ref bS, .ref bC, .int rv, .ref bW, .int rp, .ref bCe, .ref bA, .ref bB, .ref bM, .int rf, .ref bG, .ref bK, .ref bCa, .ref bL, .int rd, .int rg, .int re, .ref bO, .int rl, .int rq, .int rb, .long rz])), (bM, .inl (cI, 5, .inl uM))]) [0, 1] rfl
        have hD9 := hD.sub (ws' := [(b0, .inr (1, [.int rc, .ref bS, .ref bC, .int rv, .ref bW, .int rp, .ref bCe, .ref bA, .ref bB, .ref bM, .int rf, .ref bG, .ref bK, .ref bCa, .ref bL, .int rd, .int rg, .int re, .ref bO, .int rl, .int rq, .int rb, .long rz])), (bM, .inl (cI, 5, .inl uM))]) [0, 1] (by decide) rfl
        have hpost_10 : (1 : Int32) = q_it uM nc np jr := by first | (rw [q_it, if_neg c4, if_pos c8]; done) | (rw [q_it, if_neg c4, if_neg c8]; done) | (rw [q_it, if_pos c4, if_pos c5]; done) | (rw [q_it, if_pos c4, if_neg c5, if_pos c6]; done) | (rw [q_it, if_pos c4, if_neg c5, if_neg c6]; done)
        exact W.zret (v := 1) hx hb hr (rfl) (fun t ht hW => ⟨⟨1, (), rfl, hpost_10, by rw [ht]; exact hP9, hD9⟩, hS.F ht⟩) hS.2.2 d_Ref_isTold_47
  · skip
    have c4 : ¬ 4 ≤ jr := fun q => c_1 (by rw [hr1]; exact nI_le q (by omega))
    refine lv_iload_n hx hb d_Ref_isTold_5 rfl (lv_at hl 1 rfl) ?_
    refine lv_aload_n hx hb d_Ref_isTold_6 rfl (lv_at hl 0 rfl) ?_
    refine va_get (D := (dC, dI)) (ci := 1) (v := .int rp) (C := R_Ref) (T := T_Ref) (N := 23) hx hb hts in_Ref hown hK hP 0 rfl rfl 5 (by decide) (hts _ tw_434) (fun _ h9 => h9) rfl d_Ref_isTold_7 ?_
    refine lv_icmp_ge (tgt := 17) hx hb d_Ref_isTold_10 (by decide) (fun c_11 => ?_) (fun c_11 => ?_)
    · skip
      have c8 : np ≤ jr := by rw [hr1, hrp] at c_11; exact (nI_leI (by omega) (by omega)).mp c_11
      refine lv_iconst (v := 0) hx hb d_Ref_isTold_17 (by decide) ?_
      refine lv_goto (tgt := 47) hx hb d_Ref_isTold_18 (by decide) ?_
      have hP9 := hP.sub (ws' := [(b0, .inr (1, [.int rc, .ref bS, .ref bC, .int rv, .ref bW, .int rp, .ref bCe, .ref bA, .ref bB, .ref bM, .int rf, .ref bG, .ref bK, .ref bCa, .ref bL, .int rd, .int rg, .int re, .ref bO, .int rl, .int rq, .int rb, .long rz])), (bM, .inl (cI, 5, .inl uM))]) [0, 1] rfl
      have hD9 := hD.sub (ws' := [(b0, .inr (1, [.int rc, .ref bS, .ref bC, .int rv, .ref bW, .int rp, .ref bCe, .ref bA, .ref bB, .ref bM, .int rf, .ref bG, .ref bK, .ref bCa, .ref bL, .int rd, .int rg, .int re, .ref bO, .int rl, .int rq, .int rb, .long rz])), (bM, .inl (cI, 5, .inl uM))]) [0, 1] (by decide) rfl
      have hpost_12 : (0 : Int32) = q_it uM nc np jr := by first | (rw [q_it, if_neg c4, if_pos c8]; done) | (rw [q_it, if_neg c4, if_neg c8]; done) | (rw [q_it, if_pos c4, if_pos c5]; done) | (rw [q_it, if_pos c4, if_neg c5, if_pos c6]; done) | (rw [q_it, if_pos c4, if_neg c5, if_neg c6]; done)
      exact W.zret (v := 0) hx hb hr (rfl) (fun t ht hW => ⟨⟨0, (), rfl, hpost_12, by rw [ht]; exact hP9, hD9⟩, hS.F ht⟩) hS.2.2 d_Ref_isTold_47
    · skip
      have c8 : ¬ np ≤ jr := fun q => c_11 (by rw [hr1, hrp]; exact nI_le q (by omega))
      refine lv_iconst (v := 1) hx hb d_Ref_isTold_13 (by decide) ?_
      refine lv_goto (tgt := 47) hx hb d_Ref_isTold_14 (by decide) ?_
      have hP9 := hP.sub (ws' := [(b0, .inr (1, [.int rc, .ref bS, .ref bC, .int rv, .ref bW, .int rp, .ref bCe, .ref bA, .ref bB, .ref bM, .int rf, .ref bG, .ref bK, .ref bCa, .ref bL, .int rd, .int rg, .int re, .ref bO, .int rl, .int rq, .int rb, .long rz])), (bM, .inl (cI, 5, .inl uM))]) [0, 1] rfl
      have hD9 := hD.sub (ws' := [(b0, .inr (1, [.int rc, .ref bS, .ref bC, .int rv, .ref bW, .int rp, .ref bCe, .ref bA, .ref bB, .ref bM, .int rf, .ref bG, .ref bK, .ref bCa, .ref bL, .int rd, .int rg, .int re, .ref bO, .int rl, .int rq, .int rb, .long rz])), (bM, .inl (cI, 5, .inl uM))]) [0, 1] (by decide) rfl
      have hpost_13 : (1 : Int32) = q_it uM nc np jr := by first | (rw [q_it, if_neg c4, if_pos c8]; done) | (rw [q_it, if_neg c4, if_neg c8]; done) | (rw [q_it, if_pos c4, if_pos c5]; done) | (rw [q_it, if_pos c4, if_neg c5, if_pos c6]; done) | (rw [q_it, if_pos c4, if_neg c5, if_neg c6]; done)
      exact W.zret (v := 1) hx hb hr (rfl) (fun t ht hW => ⟨⟨1, (), rfl, hpost_13, by rw [ht]; exact hP9, hD9⟩, hS.F ht⟩) hS.2.2 d_Ref_isTold_47
set_option maxHeartbeats 4000000 in
set_option maxRecDepth 100000 in
theorem L_st {p : Program} {l : Launch} {e : Env} {s : State} {m : MethodId} {args : Array Value} {below : List Frame} {meth : Method} {c : Code} {Q : State → Prop} {A : Nat → Prop} (hx : p.tables.exec = Jvm.exec) (hb : c.code = b_Ref_stands) (hml : c.maxLocals = 5) (hown : s.vm.findClass R_Ref = some m.cls) (hts : ∀ w ∈ lw_g, w.before args s = true) (hA : ∀ q, s.heap.size ≤ q → A q) {dC : Nat → ClassId} {dI : Nat → Nat → Nat} (cI : ClassId) (cZ : ClassId) (cQ : ClassId) (b0 : Nat) (rc : Int32) (bS : Nat) (bC : Nat) (rv : Int32) (bW : Nat) (rp : Int32) (bCe : Nat) (bA : Nat) (bB : Nat) (bM : Nat) (rf : Int32) (bG : Nat) (bK : Nat) (bCa : Nat) (bL : Nat) (rd : Int32) (rg : Int32) (re : Int32) (bO : Nat) (rl : Int32) (rq : Int32) (rb : Int32) (rz : Int64) (uCe : Nat → Int32) (uA : Nat → Int32) (uB : Nat → Int32) (uM : Nat → Int32) (uCa : Nat → Int32) (uL : Nat → Int32) (bt : Int32) (t1 : Int32) (jt : Nat) (nc : Nat) (np : Nat)  (ht1 : t1 = nI jt) (hjt : jt < 256) (hrc : rc = nI nc) (hnc : nc ≤ 5) (hrp : rp = nI np) (hnp : np ≤ 4) (hCe : q_okCe uCe np)  (hKN : g_K dC dI [(cI, .int), (cZ, .boolean), (cQ, (.object "SettingSearch$Answers"))] s)
    (kx_44 : ∀ (i : Nat) (xi : Int32) (acc : Int32) (_ : i ≤ 9) (_ : xi = nI i) (_ : acc = q_st (fun k => q_ke uCe uA uB uM uCa uL nc np jt k) bt i) (_ : i = 9) (H : Heap) (locs : List Loc), va_P (dC, dI) vw_cls [(b0, .inr (1, [.int rc, .ref bS, .ref bC, .int rv, .ref bW, .int rp, .ref bCe, .ref bA, .ref bB, .ref bM, .int rf, .ref bG, .ref bK, .ref bCa, .ref bL, .int rd, .int rg, .int re, .ref bO, .int rl, .int rq, .int rb, .long rz])), (bCe, .inl (cI, 4, .inl uCe)), (bA, .inl (cI, 4, .inl uA)), (bB, .inl (cI, 4, .inl uB)), (bM, .inl (cI, 5, .inl uM)), (bCa, .inl (cI, 2304, .inl uCa)), (bL, .inl (cI, 1280, .inl uL))] H → va_D A [(b0, .inr (1, [.int rc, .ref bS, .ref bC, .int rv, .ref bW, .int rp, .ref bCe, .ref bA, .ref bB, .ref bM, .int rf, .ref bG, .ref bK, .ref bCa, .ref bL, .int rd, .int rg, .int re, .ref bO, .int rl, .int rq, .int rb, .long rz])), (bCe, .inl (cI, 4, .inl uCe)), (bA, .inl (cI, 4, .inl uA)), (bB, .inl (cI, 4, .inl uB)), (bM, .inl (cI, 5, .inl uM)), (bCa, .inl (cI, 2304, .inl uCa)), (bL, .inl (cI, 1280, .inl uL))] → va_S A s.heap H locs → ∀ (ls : Array Slot), lv_has ls 5 [(0, .ref b0), (1, .int t1), (2, .int bt), (3, .int acc), (4, .int xi)] → W p l e ({ frames := 1, cells := 0, slots := 0, locals := 26 } : Room) s m args below meth c H locs 0 0 Q (F0 m 44 ls [])) :
    ∀ (n : Nat) (i : Nat) (xi : Int32) (acc : Int32) (_ : i ≤ 9) (_ : xi = nI i) (_ : acc = q_st (fun k => q_ke uCe uA uB uM uCa uL nc np jt k) bt i) (_ : 9 - i < n) (H : Heap) (locs : List Loc), va_P (dC, dI) vw_cls [(b0, .inr (1, [.int rc, .ref bS, .ref bC, .int rv, .ref bW, .int rp, .ref bCe, .ref bA, .ref bB, .ref bM, .int rf, .ref bG, .ref bK, .ref bCa, .ref bL, .int rd, .int rg, .int re, .ref bO, .int rl, .int rq, .int rb, .long rz])), (bCe, .inl (cI, 4, .inl uCe)), (bA, .inl (cI, 4, .inl uA)), (bB, .inl (cI, 4, .inl uB)), (bM, .inl (cI, 5, .inl uM)), (bCa, .inl (cI, 2304, .inl uCa)), (bL, .inl (cI, 1280, .inl uL))] H → va_D A [(b0, .inr (1, [.int rc, .ref bS, .ref bC, .int rv, .ref bW, .int rp, .ref bCe, .ref bA, .ref bB, .ref bM, .int rf, .ref bG, .ref bK, .ref bCa, .ref bL, .int rd, .int rg, .int re, .ref bO, .int rl, .int rq, .int rb, .long rz])), (bCe, .inl (cI, 4, .inl uCe)), (bA, .inl (cI, 4, .inl uA)), (bB, .inl (cI, 4, .inl uB)), (bM, .inl (cI, 5, .inl uM)), (bCa, .inl (cI, 2304, .inl uCa)), (bL, .inl (cI, 1280, .inl uL))] → va_S A s.heap H locs → ∀ (ls : Array Slot), lv_has ls 5 [(0, .ref b0), (1, .int t1), (2, .int bt), (3, .int acc), (4, .int xi)] → W p l e ({ frames := 1, cells := 0, slots := 0, locals := 26 } : Room) s m args below meth c H locs 0 0 Q (F0 m 5 ls []) := by
  obtain ⟨hK, hN⟩ := id hKN
  intro n
  induction n with
  | zero =>
    intro i xi acc hi exi eacc hm
    exact absurd hm (Nat.not_lt_zero _)
  | succ n ih =>
    intro i xi acc hi exi eacc hm H locs hP hD hS ls hl
    refine lv_iload hx hb d_Ref_stands_5 (lv_at hl 4 rfl) ?_
    refine lv_bipush (v := 9) hx hb d_Ref_stands_7 (by decide) ?_
    refine lv_icmp_ge (tgt := 44) hx hb d_Ref_stands_9 (by decide) (fun c_1 => ?_) (fun c_1 => ?_)
    · skip
      have hendi := lp_ge (N := 9) c_1 exi rfl hi (by omega)
      exact kx_44 i xi acc hi exi eacc hendi H locs (hP.sub [0, 1, 2, 3, 4, 5, 6] rfl) (hD.sub [0, 1, 2, 3, 4, 5, 6] (by decide) rfl) hS ls (lv_sub hl [0, 1, 2, 3, 4] rfl)
    · skip
      have hlti := lp_lt (N := 9) c_1 exi rfl (by omega)
      refine lv_iload_n hx hb d_Ref_stands_12 rfl (lv_at hl 3 rfl) ?_
      refine lv_if_eq (tgt := 36) hx hb d_Ref_stands_13 (by decide) (fun c_2 => ?_) (fun c_2 => ?_)
      · skip
        have cs : q_st (fun k => q_ke uCe uA uB uM uCa uL nc np jt k) bt i = 0 := by rw [← eacc]; exact c_2
        refine lv_iconst (v := 0) hx hb d_Ref_stands_36 (by decide) ?_
        refine lv_istore_n (lv' := [(3, .int 0), (0, .ref b0), (1, .int t1), (2, .int bt), (4, .int xi)]) hx hb d_Ref_stands_37 rfl hl (by decide) rfl (fun ls hl => ?_)
        obtain ⟨v_3, ev_3⟩ : ∃ y : Int32, y = xi + 1 := ⟨_, rfl⟩
        refine lv_iinc (v := v_3) (lv' := [(4, .int v_3), (3, .int 0), (0, .ref b0), (1, .int t1), (2, .int bt)]) hx hb d_Ref_stands_38 hl (k := 4) rfl (by rw [ev_3]; rfl) (by decide) rfl (fun ls hl => ?_)
        refine lv_goto (tgt := 5) hx hb d_Ref_stands_41 (by decide) ?_
        exact ih (i + 1) v_3 0 hlti (by rw [ev_3, exi]; exact nI_1 i) (by first | (rw [q_st, if_pos cs]; done) | (rw [q_st, if_neg cs, if_pos cb]; done) | (rw [q_st, if_neg cs, if_neg cb, if_pos ck]; done) | (rw [q_st, if_neg cs, if_neg cb, if_neg ck]; done)) (by omega) H locs (hP.sub [0, 1, 2, 3, 4, 5, 6] rfl) (hD.sub [0, 1, 2, 3, 4, 5, 6] (by decide) rfl) hS ls (lv_sub hl [2, 3, 4, 1, 0] rfl)
      · skip
        have cs : ¬ q_st (fun k => q_ke uCe uA uB uM uCa uL nc np jt k) bt i = 0 := by rw [← eacc]; exact c_2
        refine lv_iload hx hb d_Ref_stands_16 (lv_at hl 4 rfl) ?_
        refine lv_iload_n hx hb d_Ref_stands_18 rfl (lv_at hl 2 rfl) ?_
        refine lv_icmp_eq (tgt := 32) hx hb d_Ref_stands_19 (by decide) (fun c_4 => ?_) (fun c_4 => ?_)
        · skip
          have cb : nI i = bt := by rw [← exi]; exact c_4
          refine lv_iconst (v := 1) hx hb d_Ref_stands_32 (by decide) ?_
          refine lv_goto (tgt := 37) hx hb d_Ref_stands_33 (by decide) ?_
          refine lv_istore_n (lv' := [(3, .int 1), (0, .ref b0), (1, .int t1), (2, .int bt), (4, .int xi)]) hx hb d_Ref_stands_37 rfl hl (by decide) rfl (fun ls hl => ?_)
          obtain ⟨v_5, ev_5⟩ : ∃ y : Int32, y = xi + 1 := ⟨_, rfl⟩
          refine lv_iinc (v := v_5) (lv' := [(4, .int v_5), (3, .int 1), (0, .ref b0), (1, .int t1), (2, .int bt)]) hx hb d_Ref_stands_38 hl (k := 4) rfl (by rw [ev_5]; rfl) (by decide) rfl (fun ls hl => ?_)
          refine lv_goto (tgt := 5) hx hb d_Ref_stands_41 (by decide) ?_
          exact ih (i + 1) v_5 1 hlti (by rw [ev_5, exi]; exact nI_1 i) (by first | (rw [q_st, if_pos cs]; done) | (rw [q_st, if_neg cs, if_pos cb]; done) | (rw [q_st, if_neg cs, if_neg cb, if_pos ck]; done) | (rw [q_st, if_neg cs, if_neg cb, if_neg ck]; done)) (by omega) H locs (hP.sub [0, 1, 2, 3, 4, 5, 6] rfl) (hD.sub [0, 1, 2, 3, 4, 5, 6] (by decide) rfl) hS ls (lv_sub hl [2, 3, 4, 1, 0] rfl)
        · skip
          have cb : ¬ nI i = bt := by rw [← exi]; exact c_4
          refine lv_aload_n hx hb d_Ref_stands_22 rfl (lv_at hl 0 rfl) ?_
          refine lv_iload_n hx hb d_Ref_stands_23 rfl (lv_at hl 1 rfl) ?_
          refine lv_iload hx hb d_Ref_stands_24 (lv_at hl 4 rfl) ?_
          have hPc := hP.sub (ws' := [(b0, .inr (1, [.int rc, .ref bS, .ref bC, .int rv, .ref bW, .int rp, .ref bCe, .ref bA, .ref bB, .ref bM, .int rf, .ref bG, .ref bK, .ref bCa, .ref bL, .int rd, .int rg, .int re, .ref bO, .int rl, .int rq, .int rb, .long rz])), (bCe, .inl (cI, 4, .inl uCe)), (bA, .inl (cI, 4, .inl uA)), (bB, .inl (cI, 4, .inl uB)), (bM, .inl (cI, 5, .inl uM)), (bCa, .inl (cI, 2304, .inl uCa)), (bL, .inl (cI, 1280, .inl uL))]) [0, 1, 2, 3, 4, 5, 6] rfl
          have hDc := hD.sub (ws' := [(b0, .inr (1, [.int rc, .ref bS, .ref bC, .int rv, .ref bW, .int rp, .ref bCe, .ref bA, .ref bB, .ref bM, .int rf, .ref bG, .ref bK, .ref bCa, .ref bL, .int rd, .int rg, .int re, .ref bO, .int rl, .int rq, .int rb, .long rz])), (bCe, .inl (cI, 4, .inl uCe)), (bA, .inl (cI, 4, .inl uA)), (bB, .inl (cI, 4, .inl uB)), (bM, .inl (cI, 5, .inl uM)), (bCa, .inl (cI, 2304, .inl uCa)), (bL, .inl (cI, 1280, .inl uL))]) [0, 1, 2, 3, 4, 5, 6] (by decide) rfl
          have hFc := va_free (wc := [(b0, .inr (1, [.int rc, .ref bS, .ref bC, .int rv, .ref bW, .int rp, .ref bCe, .ref bA, .ref bB, .ref bM, .int rf, .ref bG, .ref bK, .ref bCa, .ref bL, .int rd, .int rg, .int re, .ref bO, .int rl, .int rq, .int rb, .long rz])), (bCe, .inl (cI, 4, .inl uCe)), (bA, .inl (cI, 4, .inl uA)), (bB, .inl (cI, 4, .inl uB)), (bM, .inl (cI, 5, .inl uM)), (bCa, .inl (cI, 2304, .inl uCa)), (bL, .inl (cI, 1280, .inl uL))]) hD hS hA [0, 1, 2, 3, 4, 5, 6] rfl
          refine va_calli (va_runV (As := [.int t1, .int xi]) (rest := []) ⟨hx, hb, hml, hown, hts⟩ (m_ke l dC dI H.size cI cZ cQ b0 rc bS bC rv bW rp bCe bA bB bM rf bG bK bCa bL rd rg re bO rl rq rb rz uCe uA uB uM uCa uL xi i t1 jt nc np ht1 hjt hrc hnc hrp hnp hCe exi hlti) ⟨(callB_of 2 hts (ga_all tw_566) rfl rfl rfl (hts _ tw_29) (hts _ tw_563) (by decide +kernel) ⟨Nat.le_of_ble_eq_true rfl, Nat.le_of_ble_eq_true rfl⟩), hts _ tw_565, hts _ tw_16⟩ ⟨fun a U g mk q => by obtain ⟨q0, q1, qP, qK, qD⟩ := q; exact ⟨q0, q1, qP, g_K.same (u := U) (U := U.calling g mk a) rfl qK, qD⟩, va_recv hK hPc (ci := 1) (q0 := 0) rfl rfl, fun U hU hW => ⟨rfl, by rw [hU], by rw [hU]; exact hPc, g_K.warm hW hKN, hDc.weaken (fun _ _ _ _ => trivial)⟩⟩ rfl rfl hl.1 rfl (lv_room (Nat.le_of_ble_eq_true rfl)) d_Ref_stands_26 ⟨Nat.le_of_ble_eq_true rfl, Nat.le_of_ble_eq_true rfl⟩) hS (fun q _ h => hFc q h) hFc (fun r_6 u t H1 locs htt hvm hw_7 hBB hzz hkk hS => ?_)
          have hw_7 : r_6 = q_ke uCe uA uB uM uCa uL nc np jt i := hw_7
          obtain ⟨hPP, hDD⟩ := hBB
          rw [htt] at hPP
          have hPP : va_P (dC, dI) vw_cls [(b0, .inr (1, [.int rc, .ref bS, .ref bC, .int rv, .ref bW, .int rp, .ref bCe, .ref bA, .ref bB, .ref bM, .int rf, .ref bG, .ref bK, .ref bCa, .ref bL, .int rd, .int rg, .int re, .ref bO, .int rl, .int rq, .int rb, .long rz])), (bCe, .inl (cI, 4, .inl uCe)), (bA, .inl (cI, 4, .inl uA)), (bB, .inl (cI, 4, .inl uB)), (bM, .inl (cI, 5, .inl uM)), (bCa, .inl (cI, 2304, .inl uCa)), (bL, .inl (cI, 1280, .inl uL))] H1 := hPP
          have hDD : va_D (va_A [(b0, .inr (1, [.int rc, .ref bS, .ref bC, .int rv, .ref bW, .int rp, .ref bCe, .ref bA, .ref bB, .ref bM, .int rf, .ref bG, .ref bK, .ref bCa, .ref bL, .int rd, .int rg, .int re, .ref bO, .int rl, .int rq, .int rb, .long rz])), (bCe, .inl (cI, 4, .inl uCe)), (bA, .inl (cI, 4, .inl uA)), (bB, .inl (cI, 4, .inl uB)), (bM, .inl (cI, 5, .inl uM)), (bCa, .inl (cI, 2304, .inl uCa)), (bL, .inl (cI, 1280, .inl uL))] H.size) [(b0, .inr (1, [.int rc, .ref bS, .ref bC, .int rv, .ref bW, .int rp, .ref bCe, .ref bA, .ref bB, .ref bM, .int rf, .ref bG, .ref bK, .ref bCa, .ref bL, .int rd, .int rg, .int re, .ref bO, .int rl, .int rq, .int rb, .long rz])), (bCe, .inl (cI, 4, .inl uCe)), (bA, .inl (cI, 4, .inl uA)), (bB, .inl (cI, 4, .inl uB)), (bM, .inl (cI, 5, .inl uM)), (bCa, .inl (cI, 2304, .inl uCa)), (bL, .inl (cI, 1280, .inl uL))] := hDD
          obtain ⟨hP, hD⟩ := va_join (wr := []) (w1 := [(b0, .inr (1, [.int rc, .ref bS, .ref bC, .int rv, .ref bW, .int rp, .ref bCe, .ref bA, .ref bB, .ref bM, .int rf, .ref bG, .ref bK, .ref bCa, .ref bL, .int rd, .int rg, .int re, .ref bO, .int rl, .int rq, .int rb, .long rz])), (bCe, .inl (cI, 4, .inl uCe)), (bA, .inl (cI, 4, .inl uA)), (bB, .inl (cI, 4, .inl uB)), (bM, .inl (cI, 5, .inl uM)), (bCa, .inl (cI, 2304, .inl uCa)), (bL, .inl (cI, 1280, .inl uL))]) hP hD [0, 1, 2, 3, 4, 5, 6] [] rfl rfl (by decide) (by decide) hkk hFc hPP hDD
          generalize H1 = H at hP hS ⊢
          have hP : va_P (dC, dI) vw_cls [(b0, .inr (1, [.int rc, .ref bS, .ref bC, .int rv, .ref bW, .int rp, .ref bCe, .ref bA, .ref bB, .ref bM, .int rf, .ref bG, .ref bK, .ref bCa, .ref bL, .int rd, .int rg, .int re, .ref bO, .int rl, .int rq, .int rb, .long rz])), (bCe, .inl (cI, 4, .inl uCe)), (bA, .inl (cI, 4, .inl uA)), (bB, .inl (cI, 4, .inl uB)), (bM, .inl (cI, 5, .inl uM)), (bCa, .inl (cI, 2304, .inl uCa)), (bL, .inl (cI, 1280, .inl uL))] H := hP
          have hD : va_D A [(b0, .inr (1, [.int rc, .ref bS, .ref bC, .int rv, .ref bW, .int rp, .ref bCe, .ref bA, .ref bB, .ref bM, .int rf, .ref bG, .ref bK, .ref bCa, .ref bL, .int rd, .int rg, .int re, .ref bO, .int rl, .int rq, .int rb, .long rz])), (bCe, .inl (cI, 4, .inl uCe)), (bA, .inl (cI, 4, .inl uA)), (bB, .inl (cI, 4, .inl uB)), (bM, .inl (cI, 5, .inl uM)), (bCa, .inl (cI, 2304, .inl uCa)), (bL, .inl (cI, 1280, .inl uL))] := hD
          refine lv_if_eq (tgt := 36) hx hb d_Ref_stands_29 (by decide) (fun c_8 => ?_) (fun c_8 => ?_)
          · skip
            have ck : q_ke uCe uA uB uM uCa uL nc np jt i = 0 := by rw [← hw_7]; exact c_8
            refine lv_iconst (v := 0) hx hb d_Ref_stands_36 (by decide) ?_
            refine lv_istore_n (lv' := [(3, .int 0), (0, .ref b0), (1, .int t1), (2, .int bt), (4, .int xi)]) hx hb d_Ref_stands_37 rfl hl (by decide) rfl (fun ls hl => ?_)
            obtain ⟨v_9, ev_9⟩ : ∃ y : Int32, y = xi + 1 := ⟨_, rfl⟩
            refine lv_iinc (v := v_9) (lv' := [(4, .int v_9), (3, .int 0), (0, .ref b0), (1, .int t1), (2, .int bt)]) hx hb d_Ref_stands_38 hl (k := 4) rfl (by rw [ev_9]; rfl) (by decide) rfl (fun ls hl => ?_)
            refine lv_goto (tgt := 5) hx hb d_Ref_stands_41 (by decide) ?_
            exact ih (i + 1) v_9 0 hlti (by rw [ev_9, exi]; exact nI_1 i) (by first | (rw [q_st, if_pos cs]; done) | (rw [q_st, if_neg cs, if_pos cb]; done) | (rw [q_st, if_neg cs, if_neg cb, if_pos ck]; done) | (rw [q_st, if_neg cs, if_neg cb, if_neg ck]; done)) (by omega) H locs (hP.sub [0, 1, 2, 3, 4, 5, 6] rfl) (hD.sub [0, 1, 2, 3, 4, 5, 6] (by decide) rfl) hS ls (lv_sub hl [2, 3, 4, 1, 0] rfl)
          · skip
            have ck : ¬ q_ke uCe uA uB uM uCa uL nc np jt i = 0 := by rw [← hw_7]; exact c_8
            refine lv_iconst (v := 1) hx hb d_Ref_stands_32 (by decide) ?_
            refine lv_goto (tgt := 37) hx hb d_Ref_stands_33 (by decide) ?_
            refine lv_istore_n (lv' := [(3, .int 1), (0, .ref b0), (1, .int t1), (2, .int bt), (4, .int xi)]) hx hb d_Ref_stands_37 rfl hl (by decide) rfl (fun ls hl => ?_)
            obtain ⟨v_10, ev_10⟩ : ∃ y : Int32, y = xi + 1 := ⟨_, rfl⟩
            refine lv_iinc (v := v_10) (lv' := [(4, .int v_10), (3, .int 1), (0, .ref b0), (1, .int t1), (2, .int bt)]) hx hb d_Ref_stands_38 hl (k := 4) rfl (by rw [ev_10]; rfl) (by decide) rfl (fun ls hl => ?_)
            refine lv_goto (tgt := 5) hx hb d_Ref_stands_41 (by decide) ?_
            exact ih (i + 1) v_10 1 hlti (by rw [ev_10, exi]; exact nI_1 i) (by first | (rw [q_st, if_pos cs]; done) | (rw [q_st, if_neg cs, if_pos cb]; done) | (rw [q_st, if_neg cs, if_neg cb, if_pos ck]; done) | (rw [q_st, if_neg cs, if_neg cb, if_neg ck]; done)) (by omega) H locs (hP.sub [0, 1, 2, 3, 4, 5, 6] rfl) (hD.sub [0, 1, 2, 3, 4, 5, 6] (by decide) rfl) hS ls (lv_sub hl [2, 3, 4, 1, 0] rfl)
set_option maxHeartbeats 4000000 in
set_option maxRecDepth 100000 in
/-- the reference: stands -/
theorem m_st (l : Launch) (dC : Nat → ClassId) (dI : Nat → Nat → Nat) (sz : Nat) (cI : ClassId) (cZ : ClassId) (cQ : ClassId) (b0 : Nat) (rc : Int32) (bS : Nat) (bC : Nat) (rv : Int32) (bW : Nat) (rp : Int32) (bCe : Nat) (bA : Nat) (bB : Nat) (bM : Nat) (rf : Int32) (bG : Nat) (bK : Nat) (bCa : Nat) (bL : Nat) (rd : Int32) (rg : Int32) (re : Int32) (bO : Nat) (rl : Int32) (rq : Int32) (rb : Int32) (rz : Int64) (uCe : Nat → Int32) (uA : Nat → Int32) (uB : Nat → Int32) (uM : Nat → Int32) (uCa : Nat → Int32) (uL : Nat → Int32) (bt : Int32) (t1 : Int32) (jt : Nat) (nc : Nat) (np : Nat) (ht1 : t1 = nI jt) (hjt : jt < 256) (hrc : rc = nI nc) (hnc : nc ≤ 5) (hrp : rp = nI np) (hnp : np ≤ 4) (hCe : q_okCe uCe np) : Met l y_Ref_stands w_Ref_stands ({ frames := 1, cells := 0, slots := 0, locals := 26 } : Room) (va_Pc [.ref b0, .int t1, .int bt] (fun U => U.heap.size = sz ∧ va_P (dC, dI) vw_cls [(b0, .inr (1, [.int rc, .ref bS, .ref bC, .int rv, .ref bW, .int rp, .ref bCe, .ref bA, .ref bB, .ref bM, .int rf, .ref bG, .ref bK, .ref bCa, .ref bL, .int rd, .int rg, .int re, .ref bO, .int rl, .int rq, .int rb, .long rz])), (bCe, .inl (cI, 4, .inl uCe)), (bA, .inl (cI, 4, .inl uA)), (bB, .inl (cI, 4, .inl uB)), (bM, .inl (cI, 5, .inl uM)), (bCa, .inl (cI, 2304, .inl uCa)), (bL, .inl (cI, 1280, .inl uL))] U.heap ∧ g_K dC dI [(cI, .int), (cZ, .boolean), (cQ, (.object "SettingSearch$Answers"))] U ∧ va_D (fun _ => True) [(b0, .inr (1, [.int rc, .ref bS, .ref bC, .int rv, .ref bW, .int rp, .ref bCe, .ref bA, .ref bB, .ref bM, .int rf, .ref bG, .ref bK, .ref bCa, .ref bL, .int rd, .int rg, .int re, .ref bO, .int rl, .int rq, .int rb, .long rz])), (bCe, .inl (cI, 4, .inl uCe)), (bA, .inl (cI, 4, .inl uA)), (bB, .inl (cI, 4, .inl uB)), (bM, .inl (cI, 5, .inl uM)), (bCa, .inl (cI, 2304, .inl uCa)), (bL, .inl (cI, 1280, .inl uL))])) (va_Qi (fun (r : Int32) (u : Unit) => r = q_st (fun k => q_ke uCe uA uB uM uCa uL nc np jt k) bt 9) (fun (u : Unit) (t : State) => va_P (dC, dI) vw_cls [(b0, .inr (1, [.int rc, .ref bS, .ref bC, .int rv, .ref bW, .int rp, .ref bCe, .ref bA, .ref bB, .ref bM, .int rf, .ref bG, .ref bK, .ref bCa, .ref bL, .int rd, .int rg, .int re, .ref bO, .int rl, .int rq, .int rb, .long rz])), (bCe, .inl (cI, 4, .inl uCe)), (bA, .inl (cI, 4, .inl uA)), (bB, .inl (cI, 4, .inl uB)), (bM, .inl (cI, 5, .inl uM)), (bCa, .inl (cI, 2304, .inl uCa)), (bL, .inl (cI, 1280, .inl uL))] t.heap ∧ va_D (va_A [(b0, .inr (1, [.int rc, .ref bS, .ref bC, .int rv, .ref bW, .int rp, .ref bCe, .ref bA, .ref bB, .ref bM, .int rf, .ref bG, .ref bK, .ref bCa, .ref bL, .int rd, .int rg, .int re, .ref bO, .int rl, .int rq, .int rb, .long rz])), (bCe, .inl (cI, 4, .inl uCe)), (bA, .inl (cI, 4, .inl uA)), (bB, .inl (cI, 4, .inl uB)), (bM, .inl (cI, 5, .inl uM)), (bCa, .inl (cI, 2304, .inl uCa)), (bL, .inl (cI, 1280, .inl uL))] sz) [(b0, .inr (1, [.int rc, .ref bS, .ref bC, .int rv, .ref bW, .int rp, .ref bCe, .ref bA, .ref bB, .ref bM, .int rf, .ref bG, .ref bK, .ref bCa, .ref bL, .int rd, .int rg, .int re, .ref bO, .int rl, .int rq, .int rb, .long rz])), (bCe, .inl (cI, 4, .inl uCe)), (bA, .inl (cI, 4, .inl uA)), (bB, .inl (cI, 4, .inl uB)), (bM, .inl (cI, 5, .inl uM)), (bCa, .inl (cI, 2304, .inl uCa)), (bL, .inl (cI, 1280, .inl uL))]) (va_A [(b0, .inr (1, [.int rc, .ref bS, .ref bC, .int rv, .ref bW, .int rp, .ref bCe, .ref bA, .ref bB, .ref bM, .int rf, .ref bG, .ref bK, .ref bCa, .ref bL, .int rd, .int rg, .int re, .ref bO, .int rl, .int rq, .int rb, .long rz])), (bCe, .inl (cI, 4, .inl uCe)), (bA, .inl (cI, 4, .inl uA)), (bB, .inl (cI, 4, .inl uB)), (bM, .inl (cI, 5, .inl uM)), (bCa, .inl (cI, 2304, .inl uCa)), (bL, .inl (cI, 1280, .inl uL))] sz)) 0 0 (va_A [(b0, .inr (1, [.int rc, .ref bS, .ref bC, .int rv, .ref bW, .int rp, .ref bCe, .ref bA, .ref bB, .ref bM, .int rf, .ref bG, .ref bK, .ref bCa, .ref bL, .int rd, .int rg, .int re, .ref bO, .int rl, .int rq, .int rb, .long rz])), (bCe, .inl (cI, 4, .inl uCe)), (bA, .inl (cI, 4, .inl uA)), (bB, .inl (cI, 4, .inl uB)), (bM, .inl (cI, 5, .inl uM)), (bCa, .inl (cI, 2304, .inl uCa)), (bL, .inl (cI, 1280, .inl uL))] sz) := by
  refine Met.ofW (cc := b_Ref_stands) (maxL := 5) (ret := (some .boolean)) (by decide) rfl ?_
  intro p e s m args below meth c s₁ B hml hv
  obtain ⟨rfl, hsz, hP, hKN, hD0⟩ := hv
  obtain ⟨hK, hN⟩ := id hKN
  have hx := B.exec
  have hb := B.bytes
  have hr := B.returns
  have hts0 := atoms_spec (ws := w_Ref_stands) B.pre
  have hts : ∀ w ∈ lw_g, w.before _ s = true := fun w h => hts0 w (List.mem_cons_of_mem _ h)
  have hown : s.vm.findClass R_Ref = some m.cls := findClass_of_methodNamed B.named
  have hlocks := B.notSynchronized
  subst hsz
  have hD := hD0.self (sz := s.heap.size)
  generalize hAe : va_A [(b0, .inr (1, [.int rc, .ref bS, .ref bC, .int rv, .ref bW, .int rp, .ref bCe, .ref bA, .ref bB, .ref bM, .int rf, .ref bG, .ref bK, .ref bCa, .ref bL, .int rd, .int rg, .int re, .ref bO, .int rl, .int rq, .int rb, .long rz])), (bCe, .inl (cI, 4, .inl uCe)), (bA, .inl (cI, 4, .inl uA)), (bB, .inl (cI, 4, .inl uB)), (bM, .inl (cI, 5, .inl uM)), (bCa, .inl (cI, 2304, .inl uCa)), (bL, .inl (cI, 1280, .inl uL))] s.heap.size = A at hD ⊢
  have hA : ∀ q : Nat, s.heap.size ≤ q → A q := fun q h => by rw [← hAe]; exact Or.inr h
  have hP : va_P (dC, dI) vw_cls [(b0, .inr (1, [.int rc, .ref bS, .ref bC, .int rv, .ref bW, .int rp, .ref bCe, .ref bA, .ref bB, .ref bM, .int rf, .ref bG, .ref bK, .ref bCa, .ref bL, .int rd, .int rg, .int re, .ref bO, .int rl, .int rq, .int rb, .long rz])), (bCe, .inl (cI, 4, .inl uCe)), (bA, .inl (cI, 4, .inl uA)), (bB, .inl (cI, 4, .inl uB)), (bM, .inl (cI, 5, .inl uM)), (bCa, .inl (cI, 2304, .inl uCa)), (bL, .inl (cI, 1280, .inl uL))] s.heap := hP
  have hl := lv_entry ([.ref b0, .int t1, .int bt]) (n := 5) (Nat.le_of_ble_eq_true rfl)
  rw [lg_entry_eq]
  generalize (lg_sl ([.ref b0, .int t1, .int bt]) ++ List.replicate (5 - (lg_sl ([.ref b0, .int t1, .int bt])).length) Slot.unset).toArray = ls at hl ⊢
  have hl : lv_has ls 5 [(0, .ref b0), (1, .int t1), (2, .int bt)] := hl
  refine gw_start (fun H locs hH hlocs => ?_)
  rw [← hH] at hP
  have hS : va_S A s.heap H locs := by rw [hH, hlocs]; exact va_S.rf
  refine lv_iconst (v := 1) hx hb d_Ref_stands_0 (by decide) ?_
  refine lv_istore_n (lv' := [(3, .int 1), (0, .ref b0), (1, .int t1), (2, .int bt)]) hx hb d_Ref_stands_1 rfl hl (by decide) rfl (fun ls hl => ?_)
  refine lv_iconst (v := 0) hx hb d_Ref_stands_2 (by decide) ?_
  refine lv_istore (lv' := [(4, .int 0), (3, .int 1), (0, .ref b0), (1, .int t1), (2, .int bt)]) hx hb d_Ref_stands_3 hl (by decide) rfl (fun ls hl => ?_)
  refine L_st hx hb hml hown hts hA cI cZ cQ b0 rc bS bC rv bW rp bCe bA bB bM rf bG bK bCa bL rd rg re bO rl rq rb rz uCe uA uB uM uCa uL bt t1 jt nc np ht1 hjt hrc hnc hrp hnp hCe hKN ?_ (9 - 0 + 1) 0 0 1 (Nat.zero_le _) rfl rfl (Nat.lt_succ_self _) H locs (hP.sub [0, 1, 2, 3, 4, 5, 6] rfl) (hD.sub [0, 1, 2, 3, 4, 5, 6] (by decide) rfl) hS ls (lv_sub hl [2, 3, 4, 1, 0] rfl)
  intro i xi acc hi exi eacc hendi H locs hP hD hS ls hl
  have hl : lv_has ls 5 [(0, .ref b0), (1, .int t1), (2, .int bt), (3, .int acc), (4, .int xi)] := hl
  have hP : va_P (dC, dI) vw_cls [(b0, .inr (1, [.int rc, .ref bS, .ref bC, .int rv, .ref bW, .int rp, .ref bCe, .ref bA, .ref bB, .ref bM, .int rf, .ref bG, .ref bK, .ref bCa, .ref bL, .int rd, .int rg, .int re, .ref bO, .int rl, .int rq, .int rb, .long rz])), (bCe, .inl (cI, 4, .inl uCe)), (bA, .inl (cI, 4, .inl uA)), (bB, .inl (cI, 4, .inl uB)), (bM, .inl (cI, 5, .inl uM)), (bCa, .inl (cI, 2304, .inl uCa)), (bL, .inl (cI, 1280, .inl uL))] H := hP
  have hD : va_D A [(b0, .inr (1, [.int rc, .ref bS, .ref bC, .int rv, .ref bW, .int rp, .ref bCe, .ref bA, .ref bB, .ref bM, .int rf, .ref bG, .ref bK, .ref bCa, .ref bL, .int rd, .int rg, .int re, .ref bO, .int rl, .int rq, .int rb, .long rz])), (bCe, .inl (cI, 4, .inl uCe)), (bA, .inl (cI, 4, .inl uA)), (bB, .inl (cI, 4, .inl uB)), (bM, .inl (cI, 5, .inl uM)), (bCa, .inl (cI, 2304, .inl uCa)), (bL, .inl (cI, 1280, .inl uL))] := hD
  refine lv_iload_n hx hb d_Ref_stands_44 rfl (lv_at hl 3 rfl) ?_
  have hP9 := hP.sub (ws' := [(b0, .inr (1, [.int rc, .ref bS, .ref bC, .int rv, .ref bW, .int rp, .ref bCe, .ref bA, .ref bB, .ref bM, .int rf, .ref bG, .ref bK, .ref bCa, .ref bL, .int rd, .int rg, .int re, .ref bO, .int rl, .int rq, .int rb, .long rz])), (bCe, .inl (cI, 4, .inl uCe)), (bA, .inl (cI, 4, .inl uA)), (bB, .inl (cI, 4, .inl uB)), (bM, .inl (cI, 5, .inl uM)), (bCa, .inl (cI, 2304, .inl uCa)), (bL, .inl (cI, 1280, .inl uL))]) [0, 1, 2, 3, 4, 5, 6] rfl
  have hD9 := hD.sub (ws' := [(b0, .inr (1, [.int rc, .ref bS, .ref bC, .int rv, .ref bW, .int rp, .ref bCe, .ref bA, .ref bB, .ref bM, .int rf, .ref bG, .ref bK, .ref bCa, .ref bL, .int rd, .int rg, .int re, .ref bO, .int rl, .int rq, .int rb, .long rz])), (bCe, .inl (cI, 4, .inl uCe)), (bA, .inl (cI, 4, .inl uA)), (bB, .inl (cI, 4, .inl uB)), (bM, .inl (cI, 5, .inl uM)), (bCa, .inl (cI, 2304, .inl uCa)), (bL, .inl (cI, 1280, .inl uL))]) [0, 1, 2, 3, 4, 5, 6] (by decide) rfl
  have hpost_1 : (acc : Int32) = q_st (fun k => q_ke uCe uA uB uM uCa uL nc np jt k) bt 9 := by rw [eacc, hendi]
  exact W.zret (v := acc) hx hb hr (nz01 (by rw [eacc]; exact q_st01 _ _ _)) (fun t ht hW => ⟨⟨acc, (), rfl, hpost_1, by rw [ht]; exact hP9, hD9⟩, hS.F ht⟩) hS.2.2 d_Ref_stands_45
