set_option maxHeartbeats 4000000 in
set_option maxRecDepth 100000 in
/-- the reference: answer -/
theorem m_answer_n (l : Launch) (dC : Nat → ClassId) (dI : Nat → Nat → Nat) (sz : Nat) (cI : ClassId) (cZ : ClassId) (cQ : ClassId) (b0 : Nat) (rc : Int32) (bS : Nat) (bC : Nat) (rv : Int32) (bW : Nat) (rp : Int32) (bCe : Nat) (bA : Nat) (bB : Nat) (bM : Nat) (rf : Int32) (bG : Nat) (bK : Nat) (bCa : Nat) (bL : Nat) (rd : Int32) (rg : Int32) (re : Int32) (bO : Nat) (rl : Int32) (rq : Int32) (rb : Int32) (rz : Int64) (p1 : Int32) (k1 : Int32) (a1 : Int64) (hcq : rq < 0) : Met l y_Ref_answer w_Ref_answer ({ frames := 2, cells := 0, slots := 0, locals := 46 } : Room) (va_Pc [.ref b0, .int p1, .int k1, .long a1] (fun U => U.heap.size = sz ∧ va_P (dC, dI) vw_cls [(b0, .inr (1, [.int rc, .ref bS, .ref bC, .int rv, .ref bW, .int rp, .ref bCe, .ref bA, .ref bB, .ref bM, .int rf, .ref bG, .ref bK, .ref bCa, .ref bL, .int rd, .int rg, .int re, .ref bO, .int rl, .int rq, .int rb, .long rz]))] U.heap ∧ g_K dC dI [(cI, .int), (cZ, .boolean), (cQ, (.object "SettingSearch$Answers"))] U ∧ va_D (fun _ => True) [(b0, .inr (1, [.int rc, .ref bS, .ref bC, .int rv, .ref bW, .int rp, .ref bCe, .ref bA, .ref bB, .ref bM, .int rf, .ref bG, .ref bK, .ref bCa, .ref bL, .int rd, .int rg, .int re, .ref bO, .int rl, .int rq, .int rb, .long rz]))])) (va_Qi (fun (r : Int32) (u : Unit) => r = 0) (fun (u : Unit) (t : State) => va_P (dC, dI) vw_cls [(b0, .inr (1, [.int rc, .ref bS, .ref bC, .int rv, .ref bW, .int rp, .ref bCe, .ref bA, .ref bB, .ref bM, .int rf, .ref bG, .ref bK, .ref bCa, .ref bL, .int rd, .int rg, .int re, .ref bO, .int rl, .int rq, .int rb, .long rz]))] t.heap ∧ va_D (va_A [(b0, .inr (1, [.int rc, .ref bS, .ref bC, .int rv, .ref bW, .int rp, .ref bCe, .ref bA, .ref bB, .ref bM, .int rf, .ref bG, .ref bK, .ref bCa, .ref bL, .int rd, .int rg, .int re, .ref bO, .int rl, .int rq, .int rb, .long rz]))] sz) [(b0, .inr (1, [.int rc, .ref bS, .ref bC, .int rv, .ref bW, .int rp, .ref bCe, .ref bA, .ref bB, .ref bM, .int rf, .ref bG, .ref bK, .ref bCa, .ref bL, .int rd, .int rg, .int re, .ref bO, .int rl, .int rq, .int rb, .long rz]))]) (va_A [(b0, .inr (1, [.int rc, .ref bS, .ref bC, .int rv, .ref bW, .int rp, .ref bCe, .ref bA, .ref bB, .ref bM, .int rf, .ref bG, .ref bK, .ref bCa, .ref bL, .int rd, .int rg, .int re, .ref bO, .int rl, .int rq, .int rb, .long rz]))] sz)) 0 0 (va_A [(b0, .inr (1, [.int rc, .ref bS, .ref bC, .int rv, .ref bW, .int rp, .ref bCe, .ref bA, .ref bB, .ref bM, .int rf, .ref bG, .ref bK, .ref bCa, .ref bL, .int rd, .int rg, .int re, .ref bO, .int rl, .int rq, .int rb, .long rz]))] sz) := by
  refine Met.ofW (cc := b_Ref_answer) (maxL := 10) (ret := (some .boolean)) (by decide) rfl ?_
  intro p e s m args below meth c s₁ B hml hv
  obtain ⟨rfl, hsz, hP, hKN, hD0⟩ := hv
  obtain ⟨hK, hN⟩ := id hKN
  have hx := B.exec
  have hb := B.bytes
  have hr := B.returns
  have hts0 := atoms_spec (ws := w_Ref_answer) B.pre
  have hts : ∀ w ∈ lw_g, w.before _ s = true := fun w h => hts0 w (List.mem_cons_of_mem _ h)
  have hown : s.vm.findClass R_Ref = some m.cls := findClass_of_methodNamed B.named
  have hlocks := B.notSynchronized
  subst hsz
  have hD := hD0.self (sz := s.heap.size)
  generalize hAe : va_A [(b0, .inr (1, [.int rc, .ref bS, .ref bC, .int rv, .ref bW, .int rp, .ref bCe, .ref bA, .ref bB, .ref bM, .int rf, .ref bG, .ref bK, .ref bCa, .ref bL, .int rd, .int rg, .int re, .ref bO, .int rl, .int rq, .int rb, .long rz]))] s.heap.size = A at hD ⊢
  have hA : ∀ q : Nat, s.heap.size ≤ q → A q := fun q h => by rw [← hAe]; exact Or.inr h
  have hP : va_P (dC, dI) vw_cls [(b0, .inr (1, [.int rc, .ref bS, .ref bC, .int rv, .ref bW, .int rp, .ref bCe, .ref bA, .ref bB, .ref bM, .int rf, .ref bG, .ref bK, .ref bCa, .ref bL, .int rd, .int rg, .int re, .ref bO, .int rl, .int rq, .int rb, .long rz]))] s.heap := hP
  have hl := lv_entry ([.ref b0, .int p1, .int k1, .long a1]) (n := 10) (Nat.le_of_ble_eq_true rfl)
  rw [lg_entry_eq]
  generalize (lg_sl ([.ref b0, .int p1, .int k1, .long a1]) ++ List.replicate (10 - (lg_sl ([.ref b0, .int p1, .int k1, .long a1])).length) Slot.unset).toArray = ls at hl ⊢
  have hl : lv_has ls 10 [(0, .ref b0), (1, .int p1), (2, .int k1), (3, .long a1)] := hl
  refine gw_start (fun H locs hH hlocs => ?_)
  rw [← hH] at hP
  have hS : va_S A s.heap H locs := by rw [hH, hlocs]; exact va_S.rf
  refine lv_aload_n hx hb d_Ref_answer_0 rfl (lv_at hl 0 rfl) ?_
  refine va_get (D := (dC, dI)) (ci := 1) (v := .int rq) (C := R_Ref) (T := T_Ref) (N := 23) hx hb hts in_Ref hown hK hP 0 rfl rfl 20 (by decide) (hts _ tw_449) (fun _ h9 => h9) rfl d_Ref_answer_1 ?_
  refine lv_if_lt (tgt := 21) hx hb d_Ref_answer_4 (by decide) (fun c_1 => ?_) (fun c_1 => ?_)
  · skip
    refine lv_iconst (v := 0) hx hb d_Ref_answer_21 (by decide) ?_
    have hP9 := hP.sub (ws' := [(b0, .inr (1, [.int rc, .ref bS, .ref bC, .int rv, .ref bW, .int rp, .ref bCe, .ref bA, .ref bB, .ref bM, .int rf, .ref bG, .ref bK, .ref bCa, .ref bL, .int rd, .int rg, .int re, .ref bO, .int rl, .int rq, .int rb, .long rz]))]) [0] rfl
    have hD9 := hD.sub (ws' := [(b0, .inr (1, [.int rc, .ref bS, .ref bC, .int rv, .ref bW, .int rp, .ref bCe, .ref bA, .ref bB, .ref bM, .int rf, .ref bG, .ref bK, .ref bCa, .ref bL, .int rd, .int rg, .int re, .ref bO, .int rl, .int rq, .int rb, .long rz]))]) [0] (by decide) rfl
    have hpost_2 : (0 : Int32) = 0 := rfl
    exact W.zret (v := 0) hx hb hr (rfl) (fun t ht hW => ⟨⟨0, (), rfl, hpost_2, by rw [ht]; exact hP9, hD9⟩, hS.F ht⟩) hS.2.2 d_Ref_answer_22
  · skip
    exact absurd hcq c_1
set_option maxHeartbeats 4000000 in
set_option maxRecDepth 100000 in
theorem L_an {p : Program} {l : Launch} {e : Env} {s : State} {m : MethodId} {args : Array Value} {below : List Frame} {meth : Method} {c : Code} {Q : State → Prop} {A : Nat → Prop} (hx : p.tables.exec = Jvm.exec) (hb : c.code = b_Ref_answer) (hml : c.maxLocals = 10) (hown : s.vm.findClass R_Ref = some m.cls) (hts : ∀ w ∈ lw_g, w.before args s = true) (hA : ∀ q, s.heap.size ≤ q → A q) {dC : Nat → ClassId} {dI : Nat → Nat → Nat} (cI : ClassId) (cZ : ClassId) (cQ : ClassId) (b0 : Nat) (rc : Int32) (bS : Nat) (bC : Nat) (rv : Int32) (bW : Nat) (rp : Int32) (bCe : Nat) (bA : Nat) (bB : Nat) (bM : Nat) (rf : Int32) (bG : Nat) (bK : Nat) (bCa : Nat) (bL : Nat) (rd : Int32) (rg : Int32) (re : Int32) (bO : Nat) (rl : Int32) (rq : Int32) (rb : Int32) (rz : Int64) (uG : Nat → Int32) (uCa : Nat → Int32) (p1 : Int32) (k1 : Int32) (a1 : Int64) (jf : Nat) (x5 : Int32) (x6 : Int32) (hrd : rd = nI jf) (hjf : jf < 4) (hcq : ¬ rq < 0) (hq1 : rq = nI rq.toNatClampNeg) (hq2 : rq.toNatClampNeg < 64) (e5 : x5 = nI (9 * (64 * jf + rq.toNatClampNeg))) (e6 : x6 = nI (q_pl p1 k1).toNatClampNeg) (how : (q_pl p1 k1).toNatClampNeg < 9) (hKN : g_K dC dI [(cI, .int), (cZ, .boolean), (cQ, (.object "SettingSearch$Answers"))] s)
    (kx_93 : ∀ (i : Nat) (xi : Int32) (acc : Int64) (_ : i ≤ 9) (_ : xi = nI i) (_ : acc = q_othr uCa (9 * (64 * jf + rq.toNatClampNeg)) (q_pl p1 k1).toNatClampNeg i) (_ : i = 9) (H : Heap) (locs : List Loc), va_P (dC, dI) vw_cls [(b0, .inr (1, [.int rc, .ref bS, .ref bC, .int rv, .ref bW, .int rp, .ref bCe, .ref bA, .ref bB, .ref bM, .int rf, .ref bG, .ref bK, .ref bCa, .ref bL, .int rd, .int rg, .int re, .ref bO, .int rl, .int rq, .int rb, .long rz])), (bG, .inl (cI, 4, .inl uG)), (bCa, .inl (cI, 2304, .inl uCa))] H → va_D A [(b0, .inr (1, [.int rc, .ref bS, .ref bC, .int rv, .ref bW, .int rp, .ref bCe, .ref bA, .ref bB, .ref bM, .int rf, .ref bG, .ref bK, .ref bCa, .ref bL, .int rd, .int rg, .int re, .ref bO, .int rl, .int rq, .int rb, .long rz])), (bG, .inl (cI, 4, .inl uG)), (bCa, .inl (cI, 2304, .inl uCa))] → va_S A s.heap H locs → ∀ (ls : Array Slot), lv_has ls 10 [(0, .ref b0), (1, .int p1), (2, .int k1), (3, .long a1), (5, .int x5), (6, .int x6), (7, .long acc), (9, .int xi)] → W p l e ({ frames := 2, cells := 0, slots := 0, locals := 46 } : Room) s m args below meth c H locs 0 0 Q (F0 m 93 ls [])) :
    ∀ (n : Nat) (i : Nat) (xi : Int32) (acc : Int64) (_ : i ≤ 9) (_ : xi = nI i) (_ : acc = q_othr uCa (9 * (64 * jf + rq.toNatClampNeg)) (q_pl p1 k1).toNatClampNeg i) (_ : 9 - i < n) (H : Heap) (locs : List Loc), va_P (dC, dI) vw_cls [(b0, .inr (1, [.int rc, .ref bS, .ref bC, .int rv, .ref bW, .int rp, .ref bCe, .ref bA, .ref bB, .ref bM, .int rf, .ref bG, .ref bK, .ref bCa, .ref bL, .int rd, .int rg, .int re, .ref bO, .int rl, .int rq, .int rb, .long rz])), (bG, .inl (cI, 4, .inl uG)), (bCa, .inl (cI, 2304, .inl uCa))] H → va_D A [(b0, .inr (1, [.int rc, .ref bS, .ref bC, .int rv, .ref bW, .int rp, .ref bCe, .ref bA, .ref bB, .ref bM, .int rf, .ref bG, .ref bK, .ref bCa, .ref bL, .int rd, .int rg, .int re, .ref bO, .int rl, .int rq, .int rb, .long rz])), (bG, .inl (cI, 4, .inl uG)), (bCa, .inl (cI, 2304, .inl uCa))] → va_S A s.heap H locs → ∀ (ls : Array Slot), lv_has ls 10 [(0, .ref b0), (1, .int p1), (2, .int k1), (3, .long a1), (5, .int x5), (6, .int x6), (7, .long acc), (9, .int xi)] → W p l e ({ frames := 2, cells := 0, slots := 0, locals := 46 } : Room) s m args below meth c H locs 0 0 Q (F0 m 53 ls []) := by
  obtain ⟨hK, hN⟩ := id hKN
  intro n
  induction n with
  | zero =>
    intro i xi acc hi exi eacc hm
    exact absurd hm (Nat.not_lt_zero _)
  | succ n ih =>
    intro i xi acc hi exi eacc hm H locs hP hD hS ls hl
    refine lv_iload hx hb d_Ref_answer_53 (lv_at hl 7 rfl) ?_
    refine lv_bipush (v := 9) hx hb d_Ref_answer_55 (by decide) ?_
    refine lv_icmp_ge (tgt := 93) hx hb d_Ref_answer_57 (by decide) (fun c_1 => ?_) (fun c_1 => ?_)
    · skip
      have hendi := lp_ge (N := 9) c_1 exi rfl hi (by omega)
      exact kx_93 i xi acc hi exi eacc hendi H locs (hP.sub [0, 1, 2] rfl) (hD.sub [0, 1, 2] (by decide) rfl) hS ls (lv_sub hl [0, 1, 2, 3, 4, 5, 6, 7] rfl)
    · skip
      have hlti := lp_lt (N := 9) c_1 exi rfl (by omega)
      refine lv_lload hx hb d_Ref_answer_60 (lv_at hl 6 rfl) ?_
      refine lv_iload hx hb d_Ref_answer_62 (lv_at hl 7 rfl) ?_
      refine lv_iload hx hb d_Ref_answer_64 (lv_at hl 5 rfl) ?_
      refine lv_icmp_ne (tgt := 73) hx hb d_Ref_answer_66 (by decide) (fun c_2 => ?_) (fun c_2 => ?_)
      · skip
        have cq : ¬ i = (q_pl p1 k1).toNatClampNeg := fun q => c_2 (by rw [exi, e6, q])
        refine lv_aload_n hx hb d_Ref_answer_73 rfl (lv_at hl 0 rfl) ?_
        refine va_get (D := (dC, dI)) (ci := 1) (v := .ref bCa) (C := R_Ref) (T := T_Ref) (N := 23) hx hb hts in_Ref hown hK hP 0 rfl rfl 13 (by decide) (hts _ tw_442) (fun _ h9 => h9) rfl d_Ref_answer_74 ?_
        refine lv_iload hx hb d_Ref_answer_77 (lv_at hl 4 rfl) ?_
        refine lv_iload hx hb d_Ref_answer_79 (lv_at hl 7 rfl) ?_
        refine lv_iadd hx hb d_Ref_answer_81 ?_
        refine lv_topi (fun v_3 ev_3 => ?_)
        have eh_4 : v_3 = nI (9 * (64 * jf + rq.toNatClampNeg) + i) := by simp only [ev_3]; rw [e5, exi, nI_add]
        have bh_4 : 9 * (64 * jf + rq.toNatClampNeg) + i < 2304 := by omega
        have h_4 : vp_in v_3 2304 := by rw [eh_4]; exact vp_in_nI bh_4 (by decide)
        have kh_4 : v_3.toNatClampNeg = 9 * (64 * jf + rq.toNatClampNeg) + i := by rw [eh_4]; exact nI_clamp (by omega)
        refine va_iald hx hb hK hP 2 0 rfl rfl h_4 d_Ref_answer_82 ?_
        rw [kh_4]
        refine lv_topi (fun v_5 ev_5 => ?_)
        refine lv_i2l hx hb d_Ref_answer_83 rfl ?_
        refine lv_topl (fun v_6 ev_6 => ?_)
        refine lv_ladd hx hb d_Ref_answer_84 ?_
        refine lv_topl (fun v_7 ev_7 => ?_)
        refine lv_lstore (lv' := [(7, .long v_7), (0, .ref b0), (1, .int p1), (2, .int k1), (3, .long a1), (5, .int x5), (6, .int x6), (9, .int xi)]) hx hb d_Ref_answer_85 hl (by decide) rfl (fun ls hl => ?_)
        obtain ⟨v_8, ev_8⟩ : ∃ y : Int32, y = xi + 1 := ⟨_, rfl⟩
        refine lv_iinc (v := v_8) (lv' := [(9, .int v_8), (7, .long v_7), (0, .ref b0), (1, .int p1), (2, .int k1), (3, .long a1), (5, .int x5), (6, .int x6)]) hx hb d_Ref_answer_87 hl (k := 7) rfl (by rw [ev_8]; rfl) (by decide) rfl (fun ls hl => ?_)
        refine lv_goto (tgt := 53) hx hb d_Ref_answer_90 (by decide) ?_
        exact ih (i + 1) v_8 v_7 hlti (by rw [ev_8, exi]; exact nI_1 i) (by rw [q_othr]; first | (rw [if_pos cq]; simp only [ev_3, ev_5, ev_6, ev_7, ev_8, eacc]) | (rw [if_neg cq]; simp only [ev_3, ev_5, ev_6, ev_7, ev_8, eacc])) (by omega) H locs (hP.sub [0, 1, 2] rfl) (hD.sub [0, 1, 2] (by decide) rfl) hS ls (lv_sub hl [2, 3, 4, 5, 6, 7, 1, 0] rfl)
      · skip
        have cq : i = (q_pl p1 k1).toNatClampNeg := by rw [exi, e6] at c_2; exact (nI_eq (by omega) (by omega)).mp c_2
        refine lv_lconst (v := 0) hx hb d_Ref_answer_69 (by decide) ?_
        refine lv_goto (tgt := 84) hx hb d_Ref_answer_70 (by decide) ?_
        refine lv_ladd hx hb d_Ref_answer_84 ?_
        refine lv_topl (fun v_9 ev_9 => ?_)
        refine lv_lstore (lv' := [(7, .long v_9), (0, .ref b0), (1, .int p1), (2, .int k1), (3, .long a1), (5, .int x5), (6, .int x6), (9, .int xi)]) hx hb d_Ref_answer_85 hl (by decide) rfl (fun ls hl => ?_)
        obtain ⟨v_10, ev_10⟩ : ∃ y : Int32, y = xi + 1 := ⟨_, rfl⟩
        refine lv_iinc (v := v_10) (lv' := [(9, .int v_10), (7, .long v_9), (0, .ref b0), (1, .int p1), (2, .int k1), (3, .long a1), (5, .int x5), (6, .int x6)]) hx hb d_Ref_answer_87 hl (k := 7) rfl (by rw [ev_10]; rfl) (by decide) rfl (fun ls hl => ?_)
        refine lv_goto (tgt := 53) hx hb d_Ref_answer_90 (by decide) ?_
        exact ih (i + 1) v_10 v_9 hlti (by rw [ev_10, exi]; exact nI_1 i) (by rw [q_othr]; first | (rw [if_pos cq]; simp only [ev_9, ev_10, eacc]) | (rw [if_neg cq]; simp only [ev_9, ev_10, eacc])) (by omega) H locs (hP.sub [0, 1, 2] rfl) (hD.sub [0, 1, 2] (by decide) rfl) hS ls (lv_sub hl [2, 3, 4, 5, 6, 7, 1, 0] rfl)
set_option maxHeartbeats 4000000 in
set_option maxRecDepth 100000 in
/-- the reference: answer -/
theorem m_answer (l : Launch) (dC : Nat → ClassId) (dI : Nat → Nat → Nat) (sz : Nat) (cI : ClassId) (cZ : ClassId) (cQ : ClassId) (b0 : Nat) (rc : Int32) (bS : Nat) (bC : Nat) (rv : Int32) (bW : Nat) (rp : Int32) (bCe : Nat) (bA : Nat) (bB : Nat) (bM : Nat) (rf : Int32) (bG : Nat) (bK : Nat) (bCa : Nat) (bL : Nat) (rd : Int32) (rg : Int32) (re : Int32) (bO : Nat) (rl : Int32) (rq : Int32) (rb : Int32) (rz : Int64) (uG : Nat → Int32) (uCa : Nat → Int32) (p1 : Int32) (k1 : Int32) (a1 : Int64) (jf : Nat) (hrd : rd = nI jf) (hjf : jf < 4) (hcq : ¬ rq < 0) (hq1 : rq = nI rq.toNatClampNeg) (hq2 : rq.toNatClampNeg < 64) : Met l y_Ref_answer w_Ref_answer ({ frames := 2, cells := 0, slots := 0, locals := 46 } : Room) (va_Pc [.ref b0, .int p1, .int k1, .long a1] (fun U => U.heap.size = sz ∧ va_P (dC, dI) vw_cls [(b0, .inr (1, [.int rc, .ref bS, .ref bC, .int rv, .ref bW, .int rp, .ref bCe, .ref bA, .ref bB, .ref bM, .int rf, .ref bG, .ref bK, .ref bCa, .ref bL, .int rd, .int rg, .int re, .ref bO, .int rl, .int rq, .int rb, .long rz])), (bG, .inl (cI, 4, .inl uG)), (bCa, .inl (cI, 2304, .inl uCa))] U.heap ∧ g_K dC dI [(cI, .int), (cZ, .boolean), (cQ, (.object "SettingSearch$Answers"))] U ∧ va_D (fun _ => True) [(b0, .inr (1, [.int rc, .ref bS, .ref bC, .int rv, .ref bW, .int rp, .ref bCe, .ref bA, .ref bB, .ref bM, .int rf, .ref bG, .ref bK, .ref bCa, .ref bL, .int rd, .int rg, .int re, .ref bO, .int rl, .int rq, .int rb, .long rz])), (bG, .inl (cI, 4, .inl uG)), (bCa, .inl (cI, 2304, .inl uCa))])) (va_Qi (fun (r : Int32) (u : (Nat → Int32)) => ((¬ q_pl p1 k1 = -1 ∧ ¬ a1 < 0 ∧ a1 ≤ (uG jf).toInt64 - q_othr uCa (9 * (64 * jf + rq.toNatClampNeg)) (q_pl p1 k1).toNatClampNeg 9) ∧ r = 1 ∧ u = upd uCa (9 * (64 * jf + rq.toNatClampNeg) + (q_pl p1 k1).toNatClampNeg) a1.toInt32) ∨ (¬ (¬ q_pl p1 k1 = -1 ∧ ¬ a1 < 0 ∧ a1 ≤ (uG jf).toInt64 - q_othr uCa (9 * (64 * jf + rq.toNatClampNeg)) (q_pl p1 k1).toNatClampNeg 9) ∧ r = 0 ∧ u = uCa)) (fun (u : (Nat → Int32)) (t : State) => va_P (dC, dI) vw_cls [(b0, .inr (1, [.int rc, .ref bS, .ref bC, .int rv, .ref bW, .int rp, .ref bCe, .ref bA, .ref bB, .ref bM, .int rf, .ref bG, .ref bK, .ref bCa, .ref bL, .int rd, .int rg, .int re, .ref bO, .int rl, .int rq, .int rb, .long rz])), (bG, .inl (cI, 4, .inl uG)), (bCa, .inl (cI, 2304, .inl u))] t.heap ∧ va_D (va_A [(b0, .inr (1, [.int rc, .ref bS, .ref bC, .int rv, .ref bW, .int rp, .ref bCe, .ref bA, .ref bB, .ref bM, .int rf, .ref bG, .ref bK, .ref bCa, .ref bL, .int rd, .int rg, .int re, .ref bO, .int rl, .int rq, .int rb, .long rz])), (bG, .inl (cI, 4, .inl uG)), (bCa, .inl (cI, 2304, .inl uCa))] sz) [(b0, .inr (1, [.int rc, .ref bS, .ref bC, .int rv, .ref bW, .int rp, .ref bCe, .ref bA, .ref bB, .ref bM, .int rf, .ref bG, .ref bK, .ref bCa, .ref bL, .int rd, .int rg, .int re, .ref bO, .int rl, .int rq, .int rb, .long rz])), (bG, .inl (cI, 4, .inl uG)), (bCa, .inl (cI, 2304, .inl u))]) (va_A [(b0, .inr (1, [.int rc, .ref bS, .ref bC, .int rv, .ref bW, .int rp, .ref bCe, .ref bA, .ref bB, .ref bM, .int rf, .ref bG, .ref bK, .ref bCa, .ref bL, .int rd, .int rg, .int re, .ref bO, .int rl, .int rq, .int rb, .long rz])), (bG, .inl (cI, 4, .inl uG)), (bCa, .inl (cI, 2304, .inl uCa))] sz)) 0 0 (va_A [(b0, .inr (1, [.int rc, .ref bS, .ref bC, .int rv, .ref bW, .int rp, .ref bCe, .ref bA, .ref bB, .ref bM, .int rf, .ref bG, .ref bK, .ref bCa, .ref bL, .int rd, .int rg, .int re, .ref bO, .int rl, .int rq, .int rb, .long rz])), (bG, .inl (cI, 4, .inl uG)), (bCa, .inl (cI, 2304, .inl uCa))] sz) := by
  refine Met.ofW (cc := b_Ref_answer) (maxL := 10) (ret := (some .boolean)) (by decide) rfl ?_
  intro p e s m args below meth c s₁ B hml hv
  obtain ⟨rfl, hsz, hP, hKN, hD0⟩ := hv
  obtain ⟨hK, hN⟩ := id hKN
  have hx := B.exec
  have hb := B.bytes
  have hr := B.returns
  have hts0 := atoms_spec (ws := w_Ref_answer) B.pre
  have hts : ∀ w ∈ lw_g, w.before _ s = true := fun w h => hts0 w (List.mem_cons_of_mem _ h)
  have hown : s.vm.findClass R_Ref = some m.cls := findClass_of_methodNamed B.named
  have hlocks := B.notSynchronized
  subst hsz
  have hD := hD0.self (sz := s.heap.size)
  generalize hAe : va_A [(b0, .inr (1, [.int rc, .ref bS, .ref bC, .int rv, .ref bW, .int rp, .ref bCe, .ref bA, .ref bB, .ref bM, .int rf, .ref bG, .ref bK, .ref bCa, .ref bL, .int rd, .int rg, .int re, .ref bO, .int rl, .int rq, .int rb, .long rz])), (bG, .inl (cI, 4, .inl uG)), (bCa, .inl (cI, 2304, .inl uCa))] s.heap.size = A at hD ⊢
  have hA : ∀ q : Nat, s.heap.size ≤ q → A q := fun q h => by rw [← hAe]; exact Or.inr h
  have hP : va_P (dC, dI) vw_cls [(b0, .inr (1, [.int rc, .ref bS, .ref bC, .int rv, .ref bW, .int rp, .ref bCe, .ref bA, .ref bB, .ref bM, .int rf, .ref bG, .ref bK, .ref bCa, .ref bL, .int rd, .int rg, .int re, .ref bO, .int rl, .int rq, .int rb, .long rz])), (bG, .inl (cI, 4, .inl uG)), (bCa, .inl (cI, 2304, .inl uCa))] s.heap := hP
  have hl := lv_entry ([.ref b0, .int p1, .int k1, .long a1]) (n := 10) (Nat.le_of_ble_eq_true rfl)
  rw [lg_entry_eq]
  generalize (lg_sl ([.ref b0, .int p1, .int k1, .long a1]) ++ List.replicate (10 - (lg_sl ([.ref b0, .int p1, .int k1, .long a1])).length) Slot.unset).toArray = ls at hl ⊢
  have hl : lv_has ls 10 [(0, .ref b0), (1, .int p1), (2, .int k1), (3, .long a1)] := hl
  refine gw_start (fun H locs hH hlocs => ?_)
  rw [← hH] at hP
  have hS : va_S A s.heap H locs := by rw [hH, hlocs]; exact va_S.rf
  refine lv_aload_n hx hb d_Ref_answer_0 rfl (lv_at hl 0 rfl) ?_
  refine va_get (D := (dC, dI)) (ci := 1) (v := .int rq) (C := R_Ref) (T := T_Ref) (N := 23) hx hb hts in_Ref hown hK hP 0 rfl rfl 20 (by decide) (hts _ tw_449) (fun _ h9 => h9) rfl d_Ref_answer_1 ?_
  refine lv_if_lt (tgt := 21) hx hb d_Ref_answer_4 (by decide) (fun c_1 => ?_) (fun c_1 => ?_)
  · skip
    exact absurd c_1 hcq
  · skip
    refine lv_iload_n hx hb d_Ref_answer_7 rfl (lv_at hl 1 rfl) ?_
    refine lv_iload_n hx hb d_Ref_answer_8 rfl (lv_at hl 2 rfl) ?_
    have hPc := hP.sub (ws' := []) [] rfl
    have hDc := hD.sub (ws' := []) [] (by decide) rfl
    have hFc := va_free (wc := []) hD hS hA [] rfl
    refine va_calli (va_runS (As := [.int p1, .int k1]) (rest := []) ⟨hx, hb, hml, hown, hts⟩ (m_isC l dC dI H.size cI cZ cQ p1 k1 ) ⟨(callB_of 2 hts (ga_all tw_513) rfl rfl rfl (hts _ tw_29) (hts _ tw_511) (by decide +kernel) ⟨Nat.le_of_ble_eq_true rfl, Nat.le_of_ble_eq_true rfl⟩), hts _ tw_512⟩ ⟨fun a U g mk q => by obtain ⟨q0, q1, qP, qK, qD⟩ := q; exact ⟨q0, q1, qP, g_K.same (u := U) (U := U.calling g mk a) rfl qK, qD⟩, fun U hU hW => ⟨rfl, by rw [hU], by rw [hU]; exact hPc, g_K.warm hW hKN, hDc.weaken (fun _ _ _ _ => trivial)⟩⟩ rfl rfl hl.1 rfl (lv_room (Nat.le_of_ble_eq_true rfl)) d_Ref_answer_9 ⟨Nat.le_of_ble_eq_true rfl, Nat.le_of_ble_eq_true rfl⟩) hS (fun q _ h => hFc q h) hFc (fun r_2 u t H1 locs htt hvm hw_3 hBB hzz hkk hS => ?_)
    have hw_3 : r_2 = q_cell p1 k1 := hw_3
    obtain ⟨hPP, hDD⟩ := hBB
    rw [htt] at hPP
    have hPP : va_P (dC, dI) vw_cls [] H1 := hPP
    have hDD : va_D (va_A [] H.size) [] := hDD
    obtain ⟨hP, hD⟩ := va_join (wr := [(b0, .inr (1, [.int rc, .ref bS, .ref bC, .int rv, .ref bW, .int rp, .ref bCe, .ref bA, .ref bB, .ref bM, .int rf, .ref bG, .ref bK, .ref bCa, .ref bL, .int rd, .int rg, .int re, .ref bO, .int rl, .int rq, .int rb, .long rz])), (bG, .inl (cI, 4, .inl uG)), (bCa, .inl (cI, 2304, .inl uCa))]) (w1 := []) hP hD [] [0, 1, 2] rfl rfl (by decide) (by decide) hkk hFc hPP hDD
    generalize H1 = H at hP hS ⊢
    have hP : va_P (dC, dI) vw_cls [(b0, .inr (1, [.int rc, .ref bS, .ref bC, .int rv, .ref bW, .int rp, .ref bCe, .ref bA, .ref bB, .ref bM, .int rf, .ref bG, .ref bK, .ref bCa, .ref bL, .int rd, .int rg, .int re, .ref bO, .int rl, .int rq, .int rb, .long rz])), (bG, .inl (cI, 4, .inl uG)), (bCa, .inl (cI, 2304, .inl uCa))] H := hP
    have hD : va_D A [(b0, .inr (1, [.int rc, .ref bS, .ref bC, .int rv, .ref bW, .int rp, .ref bCe, .ref bA, .ref bB, .ref bM, .int rf, .ref bG, .ref bK, .ref bCa, .ref bL, .int rd, .int rg, .int re, .ref bO, .int rl, .int rq, .int rb, .long rz])), (bG, .inl (cI, 4, .inl uG)), (bCa, .inl (cI, 2304, .inl uCa))] := hD
    refine lv_if_eq (tgt := 21) hx hb d_Ref_answer_12 (by decide) (fun c_4 => ?_) (fun c_4 => ?_)
    · skip
      have hbad : ¬ (¬ q_pl p1 k1 = -1 ∧ ¬ a1 < 0 ∧ a1 ≤ (uG jf).toInt64 - q_othr uCa (9 * (64 * jf + rq.toNatClampNeg)) (q_pl p1 k1).toNatClampNeg 9) := fun z => z.1 (q_cell_eq hw_3 c_4)
      refine lv_iconst (v := 0) hx hb d_Ref_answer_21 (by decide) ?_
      have hP9 := hP.sub (ws' := [(b0, .inr (1, [.int rc, .ref bS, .ref bC, .int rv, .ref bW, .int rp, .ref bCe, .ref bA, .ref bB, .ref bM, .int rf, .ref bG, .ref bK, .ref bCa, .ref bL, .int rd, .int rg, .int re, .ref bO, .int rl, .int rq, .int rb, .long rz])), (bG, .inl (cI, 4, .inl uG)), (bCa, .inl (cI, 2304, .inl uCa))]) [0, 1, 2] rfl
      have hD9 := hD.sub (ws' := [(b0, .inr (1, [.int rc, .ref bS, .ref bC, .int rv, .ref bW, .int rp, .ref bCe, .ref bA, .ref bB, .ref bM, .int rf, .ref bG, .ref bK, .ref bCa, .ref bL, .int rd, .int rg, .int re, .ref bO, .int rl, .int rq, .int rb, .long rz])), (bG, .inl (cI, 4, .inl uG)), (bCa, .inl (cI, 2304, .inl uCa))]) [0, 1, 2] (by decide) rfl
      have hpost_5 : ((¬ q_pl p1 k1 = -1 ∧ ¬ a1 < 0 ∧ a1 ≤ (uG jf).toInt64 - q_othr uCa (9 * (64 * jf + rq.toNatClampNeg)) (q_pl p1 k1).toNatClampNeg 9) ∧ (0 : Int32) = 1 ∧ uCa = upd uCa (9 * (64 * jf + rq.toNatClampNeg) + (q_pl p1 k1).toNatClampNeg) a1.toInt32) ∨ (¬ (¬ q_pl p1 k1 = -1 ∧ ¬ a1 < 0 ∧ a1 ≤ (uG jf).toInt64 - q_othr uCa (9 * (64 * jf + rq.toNatClampNeg)) (q_pl p1 k1).toNatClampNeg 9) ∧ (0 : Int32) = 0 ∧ uCa = uCa) := Or.inr ⟨hbad, rfl, rfl⟩
      exact W.zret (v := 0) hx hb hr (rfl) (fun t ht hW => ⟨⟨0, uCa, rfl, hpost_5, by rw [ht]; exact hP9, hD9⟩, hS.F ht⟩) hS.2.2 d_Ref_answer_22
    · skip
      have cp := q_cell_ne hw_3 c_4
      refine lv_lload_n hx hb d_Ref_answer_15 rfl (lv_at hl 3 rfl) ?_
      refine lv_lconst (v := 0) hx hb d_Ref_answer_16 (by decide) ?_
      refine W.lcmp hx hb d_Ref_answer_17 ?_
      refine lv_if_ge (tgt := 23) hx hb d_Ref_answer_18 (by decide) (fun c_6 => ?_) (fun c_6 => ?_)
      · skip
        have c_6 : (0 : Int64) ≤ a1 := (lg_cmp_ge _ _).mp c_6
        have ca : ¬ a1 < 0 := Int64.not_lt.mpr c_6
        refine lv_bipush (v := 9) hx hb d_Ref_answer_23 (by decide) ?_
        refine lv_bipush (v := 64) hx hb d_Ref_answer_25 (by decide) ?_
        refine lv_aload_n hx hb d_Ref_answer_27 rfl (lv_at hl 0 rfl) ?_
        refine va_get (D := (dC, dI)) (ci := 1) (v := .int rd) (C := R_Ref) (T := T_Ref) (N := 23) hx hb hts in_Ref hown hK hP 0 rfl rfl 15 (by decide) (hts _ tw_444) (fun _ h9 => h9) rfl d_Ref_answer_28 ?_
        refine lv_imul hx hb d_Ref_answer_31 ?_
        refine lv_topi (fun v_7 ev_7 => ?_)
        refine lv_aload_n hx hb d_Ref_answer_32 rfl (lv_at hl 0 rfl) ?_
        refine va_get (D := (dC, dI)) (ci := 1) (v := .int rq) (C := R_Ref) (T := T_Ref) (N := 23) hx hb hts in_Ref hown hK hP 0 rfl rfl 20 (by decide) (hts _ tw_449) (fun _ h9 => h9) rfl d_Ref_answer_33 ?_
        refine lv_iadd hx hb d_Ref_answer_36 ?_
        refine lv_topi (fun v_8 ev_8 => ?_)
        refine lv_imul hx hb d_Ref_answer_37 ?_
        refine lv_topi (fun v_9 ev_9 => ?_)
        have e5 : v_9 = nI (9 * (64 * jf + rq.toNatClampNeg)) := by simp only [ev_7, ev_8, ev_9]; rw [hrd, hq1, ix_64, nI_clamp (by omega)]; exact pk_mul 9 _
        refine lv_istore (lv' := [(5, .int v_9), (0, .ref b0), (1, .int p1), (2, .int k1), (3, .long a1)]) hx hb d_Ref_answer_38 hl (by decide) rfl (fun ls hl => ?_)
        refine lv_iconst (v := 3) hx hb d_Ref_answer_40 (by decide) ?_
        refine lv_iload_n hx hb d_Ref_answer_41 rfl (lv_at hl 2 rfl) ?_
        refine lv_imul hx hb d_Ref_answer_42 ?_
        refine lv_topi (fun v_10 ev_10 => ?_)
        refine lv_iload_n hx hb d_Ref_answer_43 rfl (lv_at hl 3 rfl) ?_
        refine lv_iadd hx hb d_Ref_answer_44 ?_
        refine lv_topi (fun v_11 ev_11 => ?_)
        have e6 : v_11 = nI (q_pl p1 k1).toNatClampNeg := by simp only [ev_7, ev_8, ev_9, ev_10, ev_11]; rw [q_pl_comm cp]; exact (q_pl_ok cp).2.2.2.2.1
        have how := (q_pl_ok cp).2.2.2.2.2.1
        refine lv_istore (lv' := [(6, .int v_11), (5, .int v_9), (0, .ref b0), (1, .int p1), (2, .int k1), (3, .long a1)]) hx hb d_Ref_answer_45 hl (by decide) rfl (fun ls hl => ?_)
        refine lv_lconst (v := 0) hx hb d_Ref_answer_47 (by decide) ?_
        refine lv_lstore (lv' := [(7, .long 0), (6, .int v_11), (5, .int v_9), (0, .ref b0), (1, .int p1), (2, .int k1), (3, .long a1)]) hx hb d_Ref_answer_48 hl (by decide) rfl (fun ls hl => ?_)
        refine lv_iconst (v := 0) hx hb d_Ref_answer_50 (by decide) ?_
        refine lv_istore (lv' := [(9, .int 0), (7, .long 0), (6, .int v_11), (5, .int v_9), (0, .ref b0), (1, .int p1), (2, .int k1), (3, .long a1)]) hx hb d_Ref_answer_51 hl (by decide) rfl (fun ls hl => ?_)
        refine L_an hx hb hml hown hts hA cI cZ cQ b0 rc bS bC rv bW rp bCe bA bB bM rf bG bK bCa bL rd rg re bO rl rq rb rz uG uCa p1 k1 a1 jf v_9 v_11 hrd hjf hcq hq1 hq2 e5 e6 how hKN ?_ (9 - 0 + 1) 0 0 0 (Nat.zero_le _) rfl rfl (Nat.lt_succ_self _) H locs (hP.sub [0, 1, 2] rfl) (hD.sub [0, 1, 2] (by decide) rfl) hS ls (lv_sub hl [4, 5, 6, 7, 3, 2, 1, 0] rfl)
        intro i xi acc hi exi eacc hendi H locs hP hD hS ls hl
        have hl : lv_has ls 10 [(0, .ref b0), (1, .int p1), (2, .int k1), (3, .long a1), (5, .int v_9), (6, .int v_11), (7, .long acc), (9, .int xi)] := hl
        have hP : va_P (dC, dI) vw_cls [(b0, .inr (1, [.int rc, .ref bS, .ref bC, .int rv, .ref bW, .int rp, .ref bCe, .ref bA, .ref bB, .ref bM, .int rf, .ref bG, .ref bK, .ref bCa, .ref bL, .int rd, .int rg, .int re, .ref bO, .int rl, .int rq, .int rb, .long rz])), (bG, .inl (cI, 4, .inl uG)), (bCa, .inl (cI, 2304, .inl uCa))] H := hP
        have hD : va_D A [(b0, .inr (1, [.int rc, .ref bS, .ref bC, .int rv, .ref bW, .int rp, .ref bCe, .ref bA, .ref bB, .ref bM, .int rf, .ref bG, .ref bK, .ref bCa, .ref bL, .int rd, .int rg, .int re, .ref bO, .int rl, .int rq, .int rb, .long rz])), (bG, .inl (cI, 4, .inl uG)), (bCa, .inl (cI, 2304, .inl uCa))] := hD
        refine lv_lload_n hx hb d_Ref_answer_93 rfl (lv_at hl 3 rfl) ?_
        refine lv_aload_n hx hb d_Ref_answer_94 rfl (lv_at hl 0 rfl) ?_
        refine va_get (D := (dC, dI)) (ci := 1) (v := .ref bG) (C := R_Ref) (T := T_Ref) (N := 23) hx hb hts in_Ref hown hK hP 0 rfl rfl 11 (by decide) (hts _ tw_440) (fun _ h9 => h9) rfl d_Ref_answer_95 ?_
        refine lv_aload_n hx hb d_Ref_answer_98 rfl (lv_at hl 0 rfl) ?_
        refine va_get (D := (dC, dI)) (ci := 1) (v := .int rd) (C := R_Ref) (T := T_Ref) (N := 23) hx hb hts in_Ref hown hK hP 0 rfl rfl 15 (by decide) (hts _ tw_444) (fun _ h9 => h9) rfl d_Ref_answer_99 ?_
        have eh_12 : rd = nI (jf) := hrd
        have bh_12 : jf < 4 := hjf
        have h_12 : vp_in rd 4 := by rw [eh_12]; exact vp_in_nI bh_12 (by decide)
        have kh_12 : rd.toNatClampNeg = jf := by rw [eh_12]; exact nI_clamp (by omega)
        refine va_iald hx hb hK hP 1 0 rfl rfl h_12 d_Ref_answer_102 ?_
        rw [kh_12]
        refine lv_topi (fun v_13 ev_13 => ?_)
        refine lv_i2l hx hb d_Ref_answer_103 rfl ?_
        refine lv_topl (fun v_14 ev_14 => ?_)
        refine lv_lload hx hb d_Ref_answer_104 (lv_at hl 6 rfl) ?_
        refine lv_lsub hx hb d_Ref_answer_106 ?_
        refine lv_topl (fun v_15 ev_15 => ?_)
        refine W.lcmp hx hb d_Ref_answer_107 ?_
        refine lv_if_le (tgt := 113) hx hb d_Ref_answer_108 (by decide) (fun c_16 => ?_) (fun c_16 => ?_)
        · skip
          have c_16 : a1 ≤ v_15 := (lg_cmp_le _ _).mp c_16
          have hok : (¬ q_pl p1 k1 = -1 ∧ ¬ a1 < 0 ∧ a1 ≤ (uG jf).toInt64 - q_othr uCa (9 * (64 * jf + rq.toNatClampNeg)) (q_pl p1 k1).toNatClampNeg 9) := ⟨cp, ca, by have q := c_16; simp only [ev_7, ev_8, ev_9, ev_10, ev_11, ev_13, ev_14, ev_15, eacc, hendi] at q; exact q⟩
          refine lv_aload_n hx hb d_Ref_answer_113 rfl (lv_at hl 0 rfl) ?_
          refine va_get (D := (dC, dI)) (ci := 1) (v := .ref bCa) (C := R_Ref) (T := T_Ref) (N := 23) hx hb hts in_Ref hown hK hP 0 rfl rfl 13 (by decide) (hts _ tw_442) (fun _ h9 => h9) rfl d_Ref_answer_114 ?_
          refine lv_iload hx hb d_Ref_answer_117 (lv_at hl 4 rfl) ?_
          refine lv_iload hx hb d_Ref_answer_119 (lv_at hl 5 rfl) ?_
          refine lv_iadd hx hb d_Ref_answer_121 ?_
          refine lv_topi (fun v_17 ev_17 => ?_)
          refine lv_lload_n hx hb d_Ref_answer_122 rfl (lv_at hl 3 rfl) ?_
          refine lv_l2i hx hb d_Ref_answer_123 rfl ?_
          refine lv_topi (fun v_18 ev_18 => ?_)
          have eh_19 : v_17 = nI (9 * (64 * jf + rq.toNatClampNeg) + (q_pl p1 k1).toNatClampNeg) := by rw [ev_17, e5, e6, nI_add]
          have bh_19 : 9 * (64 * jf + rq.toNatClampNeg) + (q_pl p1 k1).toNatClampNeg < 2304 := by omega
          have h_19 : vp_in v_17 2304 := by rw [eh_19]; exact vp_in_nI bh_19 (by decide)
          have kh_19 : v_17.toNatClampNeg = 9 * (64 * jf + rq.toNatClampNeg) + (q_pl p1 k1).toNatClampNeg := by rw [eh_19]; exact nI_clamp (by omega)
          refine va_iast hx hb hK hP hD hS 2 0 rfl rfl h_19 d_Ref_answer_124 (fun H locs hP hD hS => ?_)
          rw [kh_19] at hP hD
          obtain ⟨uCa2, euCa2⟩ : ∃ y : Nat → Int32, y = upd uCa (9 * (64 * jf + rq.toNatClampNeg) + (q_pl p1 k1).toNatClampNeg) v_18 := ⟨_, rfl⟩
          rw [← euCa2] at hP hD
          have hP : va_P (dC, dI) vw_cls [(b0, .inr (1, [.int rc, .ref bS, .ref bC, .int rv, .ref bW, .int rp, .ref bCe, .ref bA, .ref bB, .ref bM, .int rf, .ref bG, .ref bK, .ref bCa, .ref bL, .int rd, .int rg, .int re, .ref bO, .int rl, .int rq, .int rb, .long rz])), (bG, .inl (cI, 4, .inl uG)), (bCa, .inl (cI, 2304, .inl uCa2))] H := hP
          have hD : va_D A [(b0, .inr (1, [.int rc, .ref bS, .ref bC, .int rv, .ref bW, .int rp, .ref bCe, .ref bA, .ref bB, .ref bM, .int rf, .ref bG, .ref bK, .ref bCa, .ref bL, .int rd, .int rg, .int re, .ref bO, .int rl, .int rq, .int rb, .long rz])), (bG, .inl (cI, 4, .inl uG)), (bCa, .inl (cI, 2304, .inl uCa2))] := hD
          refine lv_iconst (v := 1) hx hb d_Ref_answer_125 (by decide) ?_
          have hP9 := hP.sub (ws' := [(b0, .inr (1, [.int rc, .ref bS, .ref bC, .int rv, .ref bW, .int rp, .ref bCe, .ref bA, .ref bB, .ref bM, .int rf, .ref bG, .ref bK, .ref bCa, .ref bL, .int rd, .int rg, .int re, .ref bO, .int rl, .int rq, .int rb, .long rz])), (bG, .inl (cI, 4, .inl uG)), (bCa, .inl (cI, 2304, .inl uCa2))]) [0, 1, 2] rfl
          have hD9 := hD.sub (ws' := [(b0, .inr (1, [.int rc, .ref bS, .ref bC, .int rv, .ref bW, .int rp, .ref bCe, .ref bA, .ref bB, .ref bM, .int rf, .ref bG, .ref bK, .ref bCa, .ref bL, .int rd, .int rg, .int re, .ref bO, .int rl, .int rq, .int rb, .long rz])), (bG, .inl (cI, 4, .inl uG)), (bCa, .inl (cI, 2304, .inl uCa2))]) [0, 1, 2] (by decide) rfl
          have hpost_20 : ((¬ q_pl p1 k1 = -1 ∧ ¬ a1 < 0 ∧ a1 ≤ (uG jf).toInt64 - q_othr uCa (9 * (64 * jf + rq.toNatClampNeg)) (q_pl p1 k1).toNatClampNeg 9) ∧ (1 : Int32) = 1 ∧ uCa2 = upd uCa (9 * (64 * jf + rq.toNatClampNeg) + (q_pl p1 k1).toNatClampNeg) a1.toInt32) ∨ (¬ (¬ q_pl p1 k1 = -1 ∧ ¬ a1 < 0 ∧ a1 ≤ (uG jf).toInt64 - q_othr uCa (9 * (64 * jf + rq.toNatClampNeg)) (q_pl p1 k1).toNatClampNeg 9) ∧ (1 : Int32) = 0 ∧ uCa2 = uCa) := Or.inl ⟨hok, rfl, by rw [euCa2]; simp only [ev_7, ev_8, ev_9, ev_10, ev_11, ev_13, ev_14, ev_15, ev_17, ev_18]⟩
          exact W.zret (v := 1) hx hb hr (rfl) (fun t ht hW => ⟨⟨1, uCa2, rfl, hpost_20, by rw [ht]; exact hP9, hD9⟩, hS.F ht⟩) hS.2.2 d_Ref_answer_126
        · skip
          have c_16 : ¬ a1 ≤ v_15 := fun h => c_16 ((lg_cmp_le _ _).mpr h)
          have hbad : ¬ (¬ q_pl p1 k1 = -1 ∧ ¬ a1 < 0 ∧ a1 ≤ (uG jf).toInt64 - q_othr uCa (9 * (64 * jf + rq.toNatClampNeg)) (q_pl p1 k1).toNatClampNeg 9) := fun z => c_16 (by simp only [ev_7, ev_8, ev_9, ev_10, ev_11, ev_13, ev_14, ev_15, eacc, hendi]; exact z.2.2)
          refine lv_iconst (v := 0) hx hb d_Ref_answer_111 (by decide) ?_
          have hP9 := hP.sub (ws' := [(b0, .inr (1, [.int rc, .ref bS, .ref bC, .int rv, .ref bW, .int rp, .ref bCe, .ref bA, .ref bB, .ref bM, .int rf, .ref bG, .ref bK, .ref bCa, .ref bL, .int rd, .int rg, .int re, .ref bO, .int rl, .int rq, .int rb, .long rz])), (bG, .inl (cI, 4, .inl uG)), (bCa, .inl (cI, 2304, .inl uCa))]) [0, 1, 2] rfl
          have hD9 := hD.sub (ws' := [(b0, .inr (1, [.int rc, .ref bS, .ref bC, .int rv, .ref bW, .int rp, .ref bCe, .ref bA, .ref bB, .ref bM, .int rf, .ref bG, .ref bK, .ref bCa, .ref bL, .int rd, .int rg, .int re, .ref bO, .int rl, .int rq, .int rb, .long rz])), (bG, .inl (cI, 4, .inl uG)), (bCa, .inl (cI, 2304, .inl uCa))]) [0, 1, 2] (by decide) rfl
          have hpost_21 : ((¬ q_pl p1 k1 = -1 ∧ ¬ a1 < 0 ∧ a1 ≤ (uG jf).toInt64 - q_othr uCa (9 * (64 * jf + rq.toNatClampNeg)) (q_pl p1 k1).toNatClampNeg 9) ∧ (0 : Int32) = 1 ∧ uCa = upd uCa (9 * (64 * jf + rq.toNatClampNeg) + (q_pl p1 k1).toNatClampNeg) a1.toInt32) ∨ (¬ (¬ q_pl p1 k1 = -1 ∧ ¬ a1 < 0 ∧ a1 ≤ (uG jf).toInt64 - q_othr uCa (9 * (64 * jf + rq.toNatClampNeg)) (q_pl p1 k1).toNatClampNeg 9) ∧ (0 : Int32) = 0 ∧ uCa = uCa) := Or.inr ⟨hbad, rfl, rfl⟩
          exact W.zret (v := 0) hx hb hr (rfl) (fun t ht hW => ⟨⟨0, uCa, rfl, hpost_21, by rw [ht]; exact hP9, hD9⟩, hS.F ht⟩) hS.2.2 d_Ref_answer_112
      · skip
        have c_6 : ¬ (0 : Int64) ≤ a1 := fun h => c_6 ((lg_cmp_ge _ _).mpr h)
        have hbad : ¬ (¬ q_pl p1 k1 = -1 ∧ ¬ a1 < 0 ∧ a1 ≤ (uG jf).toInt64 - q_othr uCa (9 * (64 * jf + rq.toNatClampNeg)) (q_pl p1 k1).toNatClampNeg 9) := fun z => z.2.1 (Int64.not_le.mp c_6)
        refine lv_iconst (v := 0) hx hb d_Ref_answer_21 (by decide) ?_
        have hP9 := hP.sub (ws' := [(b0, .inr (1, [.int rc, .ref bS, .ref bC, .int rv, .ref bW, .int rp, .ref bCe, .ref bA, .ref bB, .ref bM, .int rf, .ref bG, .ref bK, .ref bCa, .ref bL, .int rd, .int rg, .int re, .ref bO, .int rl, .int rq, .int rb, .long rz])), (bG, .inl (cI, 4, .inl uG)), (bCa, .inl (cI, 2304, .inl uCa))]) [0, 1, 2] rfl
        have hD9 := hD.sub (ws' := [(b0, .inr (1, [.int rc, .ref bS, .ref bC, .int rv, .ref bW, .int rp, .ref bCe, .ref bA, .ref bB, .ref bM, .int rf, .ref bG, .ref bK, .ref bCa, .ref bL, .int rd, .int rg, .int re, .ref bO, .int rl, .int rq, .int rb, .long rz])), (bG, .inl (cI, 4, .inl uG)), (bCa, .inl (cI, 2304, .inl uCa))]) [0, 1, 2] (by decide) rfl
        have hpost_22 : ((¬ q_pl p1 k1 = -1 ∧ ¬ a1 < 0 ∧ a1 ≤ (uG jf).toInt64 - q_othr uCa (9 * (64 * jf + rq.toNatClampNeg)) (q_pl p1 k1).toNatClampNeg 9) ∧ (0 : Int32) = 1 ∧ uCa = upd uCa (9 * (64 * jf + rq.toNatClampNeg) + (q_pl p1 k1).toNatClampNeg) a1.toInt32) ∨ (¬ (¬ q_pl p1 k1 = -1 ∧ ¬ a1 < 0 ∧ a1 ≤ (uG jf).toInt64 - q_othr uCa (9 * (64 * jf + rq.toNatClampNeg)) (q_pl p1 k1).toNatClampNeg 9) ∧ (0 : Int32) = 0 ∧ uCa = uCa) := Or.inr ⟨hbad, rfl, rfl⟩
        exact W.zret (v := 0) hx hb hr (rfl) (fun t ht hW => ⟨⟨0, uCa, rfl, hpost_22, by rw [ht]; exact hP9, hD9⟩, hS.F ht⟩) hS.2.2 d_Ref_answer_22
set_option maxHeartbeats 4000000 in
set_option maxRecDepth 100000 in
/-- the reference: load -/
theorem m_load_n (l : Launch) (dC : Nat → ClassId) (dI : Nat → Nat → Nat) (sz : Nat) (cI : ClassId) (cZ : ClassId) (cQ : ClassId) (b0 : Nat) (rc : Int32) (bS : Nat) (bC : Nat) (rv : Int32) (bW : Nat) (rp : Int32) (bCe : Nat) (bA : Nat) (bB : Nat) (bM : Nat) (rf : Int32) (bG : Nat) (bK : Nat) (bCa : Nat) (bL : Nat) (rd : Int32) (rg : Int32) (re : Int32) (bO : Nat) (rl : Int32) (rq : Int32) (rb : Int32) (rz : Int64) (m1 : Int32) (x1 : Int32) (hcq : rq < 0) : Met l y_Ref_load w_Ref_load ({ frames := 1, cells := 0, slots := 0, locals := 25 } : Room) (va_Pc [.ref b0, .int m1, .int x1] (fun U => U.heap.size = sz ∧ va_P (dC, dI) vw_cls [(b0, .inr (1, [.int rc, .ref bS, .ref bC, .int rv, .ref bW, .int rp, .ref bCe, .ref bA, .ref bB, .ref bM, .int rf, .ref bG, .ref bK, .ref bCa, .ref bL, .int rd, .int rg, .int re, .ref bO, .int rl, .int rq, .int rb, .long rz]))] U.heap ∧ g_K dC dI [(cI, .int), (cZ, .boolean), (cQ, (.object "SettingSearch$Answers"))] U ∧ va_D (fun _ => True) [(b0, .inr (1, [.int rc, .ref bS, .ref bC, .int rv, .ref bW, .int rp, .ref bCe, .ref bA, .ref bB, .ref bM, .int rf, .ref bG, .ref bK, .ref bCa, .ref bL, .int rd, .int rg, .int re, .ref bO, .int rl, .int rq, .int rb, .long rz]))])) (va_Qi (fun (r : Int32) (u : Unit) => r = 0) (fun (u : Unit) (t : State) => va_P (dC, dI) vw_cls [(b0, .inr (1, [.int rc, .ref bS, .ref bC, .int rv, .ref bW, .int rp, .ref bCe, .ref bA, .ref bB, .ref bM, .int rf, .ref bG, .ref bK, .ref bCa, .ref bL, .int rd, .int rg, .int re, .ref bO, .int rl, .int rq, .int rb, .long rz]))] t.heap ∧ va_D (va_A [(b0, .inr (1, [.int rc, .ref bS, .ref bC, .int rv, .ref bW, .int rp, .ref bCe, .ref bA, .ref bB, .ref bM, .int rf, .ref bG, .ref bK, .ref bCa, .ref bL, .int rd, .int rg, .int re, .ref bO, .int rl, .int rq, .int rb, .long rz]))] sz) [(b0, .inr (1, [.int rc, .ref bS, .ref bC, .int rv, .ref bW, .int rp, .ref bCe, .ref bA, .ref bB, .ref bM, .int rf, .ref bG, .ref bK, .ref bCa, .ref bL, .int rd, .int rg, .int re, .ref bO, .int rl, .int rq, .int rb, .long rz]))]) (va_A [(b0, .inr (1, [.int rc, .ref bS, .ref bC, .int rv, .ref bW, .int rp, .ref bCe, .ref bA, .ref bB, .ref bM, .int rf, .ref bG, .ref bK, .ref bCa, .ref bL, .int rd, .int rg, .int re, .ref bO, .int rl, .int rq, .int rb, .long rz]))] sz)) 0 0 (va_A [(b0, .inr (1, [.int rc, .ref bS, .ref bC, .int rv, .ref bW, .int rp, .ref bCe, .ref bA, .ref bB, .ref bM, .int rf, .ref bG, .ref bK, .ref bCa, .ref bL, .int rd, .int rg, .int re, .ref bO, .int rl, .int rq, .int rb, .long rz]))] sz) := by
  refine Met.ofW (cc := b_Ref_load) (maxL := 3) (ret := (some .boolean)) (by decide) rfl ?_
  intro p e s m args below meth c s₁ B hml hv
  obtain ⟨rfl, hsz, hP, hKN, hD0⟩ := hv
  obtain ⟨hK, hN⟩ := id hKN
  have hx := B.exec
  have hb := B.bytes
  have hr := B.returns
  have hts0 := atoms_spec (ws := w_Ref_load) B.pre
  have hts : ∀ w ∈ lw_g, w.before _ s = true := fun w h => hts0 w (List.mem_cons_of_mem _ h)
  have hown : s.vm.findClass R_Ref = some m.cls := findClass_of_methodNamed B.named
  have hlocks := B.notSynchronized
  subst hsz
  have hD := hD0.self (sz := s.heap.size)
  generalize hAe : va_A [(b0, .inr (1, [.int rc, .ref bS, .ref bC, .int rv, .ref bW, .int rp, .ref bCe, .ref bA, .ref bB, .ref bM, .int rf, .ref bG, .ref bK, .ref bCa, .ref bL, .int rd, .int rg, .int re, .ref bO, .int rl, .int rq, .int rb, .long rz]))] s.heap.size = A at hD ⊢
  have hA : ∀ q : Nat, s.heap.size ≤ q → A q := fun q h => by rw [← hAe]; exact Or.inr h
  have hP : va_P (dC, dI) vw_cls [(b0, .inr (1, [.int rc, .ref bS, .ref bC, .int rv, .ref bW, .int rp, .ref bCe, .ref bA, .ref bB, .ref bM, .int rf, .ref bG, .ref bK, .ref bCa, .ref bL, .int rd, .int rg, .int re, .ref bO, .int rl, .int rq, .int rb, .long rz]))] s.heap := hP
  have hl := lv_entry ([.ref b0, .int m1, .int x1]) (n := 3) (Nat.le_of_ble_eq_true rfl)
  rw [lg_entry_eq]
  generalize (lg_sl ([.ref b0, .int m1, .int x1]) ++ List.replicate (3 - (lg_sl ([.ref b0, .int m1, .int x1])).length) Slot.unset).toArray = ls at hl ⊢
  have hl : lv_has ls 3 [(0, .ref b0), (1, .int m1), (2, .int x1)] := hl
  refine gw_start (fun H locs hH hlocs => ?_)
  rw [← hH] at hP
  have hS : va_S A s.heap H locs := by rw [hH, hlocs]; exact va_S.rf
  refine lv_aload_n hx hb d_Ref_load_0 rfl (lv_at hl 0 rfl) ?_
  refine va_get (D := (dC, dI)) (ci := 1) (v := .int rq) (C := R_Ref) (T := T_Ref) (N := 23) hx hb hts in_Ref hown hK hP 0 rfl rfl 20 (by decide) (hts _ tw_449) (fun _ h9 => h9) rfl d_Ref_load_1 ?_
  refine lv_if_lt (tgt := 27) hx hb d_Ref_load_4 (by decide) (fun c_1 => ?_) (fun c_1 => ?_)
  · skip
    refine lv_iconst (v := 0) hx hb d_Ref_load_27 (by decide) ?_
    have hP9 := hP.sub (ws' := [(b0, .inr (1, [.int rc, .ref bS, .ref bC, .int rv, .ref bW, .int rp, .ref bCe, .ref bA, .ref bB, .ref bM, .int rf, .ref bG, .ref bK, .ref bCa, .ref bL, .int rd, .int rg, .int re, .ref bO, .int rl, .int rq, .int rb, .long rz]))]) [0] rfl
    have hD9 := hD.sub (ws' := [(b0, .inr (1, [.int rc, .ref bS, .ref bC, .int rv, .ref bW, .int rp, .ref bCe, .ref bA, .ref bB, .ref bM, .int rf, .ref bG, .ref bK, .ref bCa, .ref bL, .int rd, .int rg, .int re, .ref bO, .int rl, .int rq, .int rb, .long rz]))]) [0] (by decide) rfl
    have hpost_2 : (0 : Int32) = 0 := rfl
    exact W.zret (v := 0) hx hb hr (rfl) (fun t ht hW => ⟨⟨0, (), rfl, hpost_2, by rw [ht]; exact hP9, hD9⟩, hS.F ht⟩) hS.2.2 d_Ref_load_28
  · skip
    exact absurd hcq c_1
theorem ld_ix {x rd rq m : Int32} {jf : Nat} (hm : ¬ m < 0) (ex : x = 5 * (64 * rd + rq) + m) (hrd : rd = nI jf) (hq : rq = nI rq.toNatClampNeg) : x = nI (5 * (64 * jf + rq.toNatClampNeg) + m.toNatClampNeg) := by
  have e := ix_ge hm
  generalize rq.toNatClampNeg = a at *
  generalize m.toNatClampNeg = b at *
  rw [ex, hrd, hq, e, ix_64, ix_p5]
set_option maxHeartbeats 4000000 in
set_option maxRecDepth 100000 in
/-- the reference: load -/
theorem m_load (l : Launch) (dC : Nat → ClassId) (dI : Nat → Nat → Nat) (sz : Nat) (cI : ClassId) (cZ : ClassId) (cQ : ClassId) (b0 : Nat) (rc : Int32) (bS : Nat) (bC : Nat) (rv : Int32) (bW : Nat) (rp : Int32) (bCe : Nat) (bA : Nat) (bB : Nat) (bM : Nat) (rf : Int32) (bG : Nat) (bK : Nat) (bCa : Nat) (bL : Nat) (rd : Int32) (rg : Int32) (re : Int32) (bO : Nat) (rl : Int32) (rq : Int32) (rb : Int32) (rz : Int64) (uL : Nat → Int32) (m1 : Int32) (x1 : Int32) (nc : Nat) (jf : Nat) (hrc : rc = nI nc) (hnc : nc ≤ 5) (hrd : rd = nI jf) (hjf : jf < 4) (hcq : ¬ rq < 0) (hq1 : rq = nI rq.toNatClampNeg) (hq2 : rq.toNatClampNeg < 64) : Met l y_Ref_load w_Ref_load ({ frames := 1, cells := 0, slots := 0, locals := 25 } : Room) (va_Pc [.ref b0, .int m1, .int x1] (fun U => U.heap.size = sz ∧ va_P (dC, dI) vw_cls [(b0, .inr (1, [.int rc, .ref bS, .ref bC, .int rv, .ref bW, .int rp, .ref bCe, .ref bA, .ref bB, .ref bM, .int rf, .ref bG, .ref bK, .ref bCa, .ref bL, .int rd, .int rg, .int re, .ref bO, .int rl, .int rq, .int rb, .long rz])), (bL, .inl (cI, 1280, .inl uL))] U.heap ∧ g_K dC dI [(cI, .int), (cZ, .boolean), (cQ, (.object "SettingSearch$Answers"))] U ∧ va_D (fun _ => True) [(b0, .inr (1, [.int rc, .ref bS, .ref bC, .int rv, .ref bW, .int rp, .ref bCe, .ref bA, .ref bB, .ref bM, .int rf, .ref bG, .ref bK, .ref bCa, .ref bL, .int rd, .int rg, .int re, .ref bO, .int rl, .int rq, .int rb, .long rz])), (bL, .inl (cI, 1280, .inl uL))])) (va_Qi (fun (r : Int32) (u : (Nat → Int32)) => ((¬ m1 < 0 ∧ ¬ rc ≤ m1 ∧ ¬ x1 < 0 ∧ x1 ≤ 1000000) ∧ r = 1 ∧ u = upd uL (5 * (64 * jf + rq.toNatClampNeg) + m1.toNatClampNeg) x1) ∨ (¬ (¬ m1 < 0 ∧ ¬ rc ≤ m1 ∧ ¬ x1 < 0 ∧ x1 ≤ 1000000) ∧ r = 0 ∧ u = uL)) (fun (u : (Nat → Int32)) (t : State) => va_P (dC, dI) vw_cls [(b0, .inr (1, [.int rc, .ref bS, .ref bC, .int rv, .ref bW, .int rp, .ref bCe, .ref bA, .ref bB, .ref bM, .int rf, .ref bG, .ref bK, .ref bCa, .ref bL, .int rd, .int rg, .int re, .ref bO, .int rl, .int rq, .int rb, .long rz])), (bL, .inl (cI, 1280, .inl u))] t.heap ∧ va_D (va_A [(b0, .inr (1, [.int rc, .ref bS, .ref bC, .int rv, .ref bW, .int rp, .ref bCe, .ref bA, .ref bB, .ref bM, .int rf, .ref bG, .ref bK, .ref bCa, .ref bL, .int rd, .int rg, .int re, .ref bO, .int rl, .int rq, .int rb, .long rz])), (bL, .inl (cI, 1280, .inl uL))] sz) [(b0, .inr (1, [.int rc, .ref bS, .ref bC, .int rv, .ref bW, .int rp, .ref bCe, .ref bA, .ref bB, .ref bM, .int rf, .ref bG, .ref bK, .ref bCa, .ref bL, .int rd, .int rg, .int re, .ref bO, .int rl, .int rq, .int rb, .long rz])), (bL, .inl (cI, 1280, .inl u))]) (va_A [(b0, .inr (1, [.int rc, .ref bS, .ref bC, .int rv, .ref bW, .int rp, .ref bCe, .ref bA, .ref bB, .ref bM, .int rf, .ref bG, .ref bK, .ref bCa, .ref bL, .int rd, .int rg, .int re, .ref bO, .int rl, .int rq, .int rb, .long rz])), (bL, .inl (cI, 1280, .inl uL))] sz)) 0 0 (va_A [(b0, .inr (1, [.int rc, .ref bS, .ref bC, .int rv, .ref bW, .int rp, .ref bCe, .ref bA, .ref bB, .ref bM, .int rf, .ref bG, .ref bK, .ref bCa, .ref bL, .int rd, .int rg, .int re, .ref bO, .int rl, .int rq, .int rb, .long rz])), (bL, .inl (cI, 1280, .inl uL))] sz) := by
  refine Met.ofW (cc := b_Ref_load) (maxL := 3) (ret := (some .boolean)) (by decide) rfl ?_
  intro p e s m args below meth c s₁ B hml hv
  obtain ⟨rfl, hsz, hP, hKN, hD0⟩ := hv
  obtain ⟨hK, hN⟩ := id hKN
  have hx := B.exec
  have hb := B.bytes
  have hr := B.returns
  have hts0 := atoms_spec (ws := w_Ref_load) B.pre
  have hts : ∀ w ∈ lw_g, w.before _ s = true := fun w h => hts0 w (List.mem_cons_of_mem _ h)
  have hown : s.vm.findClass R_Ref = some m.cls := findClass_of_methodNamed B.named
  have hlocks := B.notSynchronized
  subst hsz
  have hD := hD0.self (sz := s.heap.size)
  generalize hAe : va_A [(b0, .inr (1, [.int rc, .ref bS, .ref bC, .int rv, .ref bW, .int rp, .ref bCe, .ref bA, .ref bB, .ref bM, .int rf, .ref bG, .ref bK, .ref bCa, .ref bL, .int rd, .int rg, .int re, .ref bO, .int rl, .int rq, .int rb, .long rz])), (bL, .inl (cI, 1280, .inl uL))] s.heap.size = A at hD ⊢
  have hA : ∀ q : Nat, s.heap.size ≤ q → A q := fun q h => by rw [← hAe]; exact Or.inr h
  have hP : va_P (dC, dI) vw_cls [(b0, .inr (1, [.int rc, .ref bS, .ref bC, .int rv, .ref bW, .int rp, .ref bCe, .ref bA, .ref bB, .ref bM, .int rf, .ref bG, .ref bK, .ref bCa, .ref bL, .int rd, .int rg, .int re, .ref bO, .int rl, .int rq, .int rb, .long rz])), (bL, .inl (cI, 1280, .inl uL))] s.heap := hP
  have hl := lv_entry ([.ref b0, .int m1, .int x1]) (n := 3) (Nat.le_of_ble_eq_true rfl)
  rw [lg_entry_eq]
  generalize (lg_sl ([.ref b0, .int m1, .int x1]) ++ List.replicate (3 - (lg_sl ([.ref b0, .int m1, .int x1])).length) Slot.unset).toArray = ls at hl ⊢
  have hl : lv_has ls 3 [(0, .ref b0), (1, .int m1), (2, .int x1)] := hl
  refine gw_start (fun H locs hH hlocs => ?_)
  rw [← hH] at hP
  have hS : va_S A s.heap H locs := by rw [hH, hlocs]; exact va_S.rf
  refine lv_aload_n hx hb d_Ref_load_0 rfl (lv_at hl 0 rfl) ?_
  refine va_get (D := (dC, dI)) (ci := 1) (v := .int rq) (C := R_Ref) (T := T_Ref) (N := 23) hx hb hts in_Ref hown hK hP 0 rfl rfl 20 (by decide) (hts _ tw_449) (fun _ h9 => h9) rfl d_Ref_load_1 ?_
  refine lv_if_lt (tgt := 27) hx hb d_Ref_load_4 (by decide) (fun c_1 => ?_) (fun c_1 => ?_)
  · skip
    exact absurd c_1 hcq
  · skip
    refine lv_aload_n hx hb d_Ref_load_7 rfl (lv_at hl 0 rfl) ?_
    refine lv_iload_n hx hb d_Ref_load_8 rfl (lv_at hl 1 rfl) ?_
    have hPc := hP.sub (ws' := [(b0, .inr (1, [.int rc, .ref bS, .ref bC, .int rv, .ref bW, .int rp, .ref bCe, .ref bA, .ref bB, .ref bM, .int rf, .ref bG, .ref bK, .ref bCa, .ref bL, .int rd, .int rg, .int re, .ref bO, .int rl, .int rq, .int rb, .long rz]))]) [0] rfl
    have hDc := hD.sub (ws' := [(b0, .inr (1, [.int rc, .ref bS, .ref bC, .int rv, .ref bW, .int rp, .ref bCe, .ref bA, .ref bB, .ref bM, .int rf, .ref bG, .ref bK, .ref bCa, .ref bL, .int rd, .int rg, .int re, .ref bO, .int rl, .int rq, .int rb, .long rz]))]) [0] (by decide) rfl
    have hFc := va_free (wc := [(b0, .inr (1, [.int rc, .ref bS, .ref bC, .int rv, .ref bW, .int rp, .ref bCe, .ref bA, .ref bB, .ref bM, .int rf, .ref bG, .ref bK, .ref bCa, .ref bL, .int rd, .int rg, .int re, .ref bO, .int rl, .int rq, .int rb, .long rz]))]) hD hS hA [0] rfl
    refine va_calli (va_runV (As := [.int m1]) (rest := []) ⟨hx, hb, hml, hown, hts⟩ (m_isM l dC dI H.size cI cZ cQ b0 rc bS bC rv bW rp bCe bA bB bM rf bG bK bCa bL rd rg re bO rl rq rb rz m1 ) ⟨(callB_of 1 hts (ga_all tw_528) rfl rfl rfl (hts _ tw_29) (hts _ tw_525) (by decide +kernel) ⟨Nat.le_of_ble_eq_true rfl, Nat.le_of_ble_eq_true rfl⟩), hts _ tw_527, hts _ tw_9⟩ ⟨fun a U g mk q => by obtain ⟨q0, q1, qP, qK, qD⟩ := q; exact ⟨q0, q1, qP, g_K.same (u := U) (U := U.calling g mk a) rfl qK, qD⟩, va_recv hK hPc (ci := 1) (q0 := 0) rfl rfl, fun U hU hW => ⟨rfl, by rw [hU], by rw [hU]; exact hPc, g_K.warm hW hKN, hDc.weaken (fun _ _ _ _ => trivial)⟩⟩ rfl rfl hl.1 rfl (lv_room (Nat.le_of_ble_eq_true rfl)) d_Ref_load_9 ⟨Nat.le_of_ble_eq_true rfl, Nat.le_of_ble_eq_true rfl⟩) hS (fun q _ h => hFc q h) hFc (fun r_2 u t H1 locs htt hvm hw_3 hBB hzz hkk hS => ?_)
    have hw_3 : r_2 = q_has rc m1 := hw_3
    obtain ⟨hPP, hDD⟩ := hBB
    rw [htt] at hPP
    have hPP : va_P (dC, dI) vw_cls [(b0, .inr (1, [.int rc, .ref bS, .ref bC, .int rv, .ref bW, .int rp, .ref bCe, .ref bA, .ref bB, .ref bM, .int rf, .ref bG, .ref bK, .ref bCa, .ref bL, .int rd, .int rg, .int re, .ref bO, .int rl, .int rq, .int rb, .long rz]))] H1 := hPP
    have hDD : va_D (va_A [(b0, .inr (1, [.int rc, .ref bS, .ref bC, .int rv, .ref bW, .int rp, .ref bCe, .ref bA, .ref bB, .ref bM, .int rf, .ref bG, .ref bK, .ref bCa, .ref bL, .int rd, .int rg, .int re, .ref bO, .int rl, .int rq, .int rb, .long rz]))] H.size) [(b0, .inr (1, [.int rc, .ref bS, .ref bC, .int rv, .ref bW, .int rp, .ref bCe, .ref bA, .ref bB, .ref bM, .int rf, .ref bG, .ref bK, .ref bCa, .ref bL, .int rd, .int rg, .int re, .ref bO, .int rl, .int rq, .int rb, .long rz]))] := hDD
    obtain ⟨hP, hD⟩ := va_join (wr := [(bL, .inl (cI, 1280, .inl uL))]) (w1 := [(b0, .inr (1, [.int rc, .ref bS, .ref bC, .int rv, .ref bW, .int rp, .ref bCe, .ref bA, .ref bB, .ref bM, .int rf, .ref bG, .ref bK, .ref bCa, .ref bL, .int rd, .int rg, .int re, .ref bO, .int rl, .int rq, .int rb, .long rz]))]) hP hD [0] [1] rfl rfl (by decide) (by decide) hkk hFc hPP hDD
    generalize H1 = H at hP hS ⊢
    have hP : va_P (dC, dI) vw_cls [(bL, .inl (cI, 1280, .inl uL)), (b0, .inr (1, [.int rc, .ref bS, .ref bC, .int rv, .ref bW, .int rp, .ref bCe, .ref bA, .ref bB, .ref bM, .int rf, .ref bG, .ref bK, .ref bCa, .ref bL, .int rd, .int rg, .int re, .ref bO, .int rl, .int rq, .int rb, .long rz]))] H := hP
    have hD : va_D A [(bL, .inl (cI, 1280, .inl uL)), (b0, .inr (1, [.int rc, .ref bS, .ref bC, .int rv, .ref bW, .int rp, .ref bCe, .ref bA, .ref bB, .ref bM, .int rf, .ref bG, .ref bK, .ref bCa, .ref bL, .int rd, .int rg, .int re, .ref bO, .int rl, .int rq, .int rb, .long rz]))] := hD
    refine lv_if_eq (tgt := 27) hx hb d_Ref_load_12 (by decide) (fun c_4 => ?_) (fun c_4 => ?_)
    · skip
      have hbad : ¬ (¬ m1 < 0 ∧ ¬ rc ≤ m1 ∧ ¬ x1 < 0 ∧ x1 ≤ 1000000) := fun z => (q_has_eq hw_3 c_4).elim z.1 z.2.1
      refine lv_iconst (v := 0) hx hb d_Ref_load_27 (by decide) ?_
      have hP9 := hP.sub (ws' := [(b0, .inr (1, [.int rc, .ref bS, .ref bC, .int rv, .ref bW, .int rp, .ref bCe, .ref bA, .ref bB, .ref bM, .int rf, .ref bG, .ref bK, .ref bCa, .ref bL, .int rd, .int rg, .int re, .ref bO, .int rl, .int rq, .int rb, .long rz])), (bL, .inl (cI, 1280, .inl uL))]) [1, 0] rfl
      have hD9 := hD.sub (ws' := [(b0, .inr (1, [.int rc, .ref bS, .ref bC, .int rv, .ref bW, .int rp, .ref bCe, .ref bA, .ref bB, .ref bM, .int rf, .ref bG, .ref bK, .ref bCa, .ref bL, .int rd, .int rg, .int re, .ref bO, .int rl, .int rq, .int rb, .long rz])), (bL, .inl (cI, 1280, .inl uL))]) [1, 0] (by decide) rfl
      have hpost_5 : ((¬ m1 < 0 ∧ ¬ rc ≤ m1 ∧ ¬ x1 < 0 ∧ x1 ≤ 1000000) ∧ (0 : Int32) = 1 ∧ uL = upd uL (5 * (64 * jf + rq.toNatClampNeg) + m1.toNatClampNeg) x1) ∨ (¬ (¬ m1 < 0 ∧ ¬ rc ≤ m1 ∧ ¬ x1 < 0 ∧ x1 ≤ 1000000) ∧ (0 : Int32) = 0 ∧ uL = uL) := Or.inr ⟨hbad, rfl, rfl⟩
      exact W.zret (v := 0) hx hb hr (rfl) (fun t ht hW => ⟨⟨0, uL, rfl, hpost_5, by rw [ht]; exact hP9, hD9⟩, hS.F ht⟩) hS.2.2 d_Ref_load_28
    · skip
      have ch := q_has_ne hw_3 c_4
      have hm5 := ix_lt ch.1 ch.2 hrc (by omega)
      refine lv_iload_n hx hb d_Ref_load_15 rfl (lv_at hl 2 rfl) ?_
      refine lv_i2l hx hb d_Ref_load_16 rfl ?_
      refine lv_topl (fun v_6 ev_6 => ?_)
      refine lv_lconst (v := 0) hx hb d_Ref_load_17 (by decide) ?_
      refine lv_ldc2 (v := 1000000) hx hb hown (hts _ tw_530) d_Ref_load_18 ?_
      have hPc := hP.sub (ws' := []) [] rfl
      have hDc := hD.sub (ws' := []) [] (by decide) rfl
      have hFc := va_free (wc := []) hD hS hA [] rfl
      refine va_calli (va_runS (As := [.long v_6, .long 0, .long 1000000]) (rest := []) ⟨hx, hb, hml, hown, hts⟩ (m_isIn l dC dI H.size cI cZ cQ v_6 0 1000000 ) ⟨(callB_of 3 hts (ga_all tw_506) rfl rfl rfl (hts _ tw_29) (hts _ tw_504) (by decide +kernel) ⟨Nat.le_of_ble_eq_true rfl, Nat.le_of_ble_eq_true rfl⟩), hts _ tw_505⟩ ⟨fun a U g mk q => by obtain ⟨q0, q1, qP, qK, qD⟩ := q; exact ⟨q0, q1, qP, g_K.same (u := U) (U := U.calling g mk a) rfl qK, qD⟩, fun U hU hW => ⟨rfl, by rw [hU], by rw [hU]; exact hPc, g_K.warm hW hKN, hDc.weaken (fun _ _ _ _ => trivial)⟩⟩ rfl rfl hl.1 rfl (lv_room (Nat.le_of_ble_eq_true rfl)) d_Ref_load_21 ⟨Nat.le_of_ble_eq_true rfl, Nat.le_of_ble_eq_true rfl⟩) hS (fun q _ h => hFc q h) hFc (fun r_7 u t H1 locs htt hvm hw_8 hBB hzz hkk hS => ?_)
      have hw_8 : r_7 = q_isIn v_6 0 1000000 := hw_8
      obtain ⟨hPP, hDD⟩ := hBB
      rw [htt] at hPP
      have hPP : va_P (dC, dI) vw_cls [] H1 := hPP
      have hDD : va_D (va_A [] H.size) [] := hDD
      obtain ⟨hP, hD⟩ := va_join (wr := [(bL, .inl (cI, 1280, .inl uL)), (b0, .inr (1, [.int rc, .ref bS, .ref bC, .int rv, .ref bW, .int rp, .ref bCe, .ref bA, .ref bB, .ref bM, .int rf, .ref bG, .ref bK, .ref bCa, .ref bL, .int rd, .int rg, .int re, .ref bO, .int rl, .int rq, .int rb, .long rz]))]) (w1 := []) hP hD [] [0, 1] rfl rfl (by decide) (by decide) hkk hFc hPP hDD
      generalize H1 = H at hP hS ⊢
      have hP : va_P (dC, dI) vw_cls [(bL, .inl (cI, 1280, .inl uL)), (b0, .inr (1, [.int rc, .ref bS, .ref bC, .int rv, .ref bW, .int rp, .ref bCe, .ref bA, .ref bB, .ref bM, .int rf, .ref bG, .ref bK, .ref bCa, .ref bL, .int rd, .int rg, .int re, .ref bO, .int rl, .int rq, .int rb, .long rz]))] H := hP
      have hD : va_D A [(bL, .inl (cI, 1280, .inl uL)), (b0, .inr (1, [.int rc, .ref bS, .ref bC, .int rv, .ref bW, .int rp, .ref bCe, .ref bA, .ref bB, .ref bM, .int rf, .ref bG, .ref bK, .ref bCa, .ref bL, .int rd, .int rg, .int re, .ref bO, .int rl, .int rq, .int rb, .long rz]))] := hD
      refine lv_if_ne (tgt := 29) hx hb d_Ref_load_24 (by decide) (fun c_9 => ?_) (fun c_9 => ?_)
      · skip
        have ck := ir_in (x := x1) (a := 0) (b := 1000000) (by show ¬ q_isIn x1.toInt64 0 1000000 = 0; rw [← ev_6, ← hw_8]; exact c_9)
        have hok : (¬ m1 < 0 ∧ ¬ rc ≤ m1 ∧ ¬ x1 < 0 ∧ x1 ≤ 1000000) := ⟨ch.1, ch.2, ck.1, Int32.not_lt.mp ck.2⟩
        refine lv_aload_n hx hb d_Ref_load_29 rfl (lv_at hl 0 rfl) ?_
        refine va_get (D := (dC, dI)) (ci := 1) (v := .ref bL) (C := R_Ref) (T := T_Ref) (N := 23) hx hb hts in_Ref hown hK hP 1 rfl rfl 14 (by decide) (hts _ tw_443) (fun _ h9 => h9) rfl d_Ref_load_30 ?_
        refine lv_iconst (v := 5) hx hb d_Ref_load_33 (by decide) ?_
        refine lv_bipush (v := 64) hx hb d_Ref_load_34 (by decide) ?_
        refine lv_aload_n hx hb d_Ref_load_36 rfl (lv_at hl 0 rfl) ?_
        refine va_get (D := (dC, dI)) (ci := 1) (v := .int rd) (C := R_Ref) (T := T_Ref) (N := 23) hx hb hts in_Ref hown hK hP 1 rfl rfl 15 (by decide) (hts _ tw_444) (fun _ h9 => h9) rfl d_Ref_load_37 ?_
        refine lv_imul hx hb d_Ref_load_40 ?_
        refine lv_topi (fun v_10 ev_10 => ?_)
        refine lv_aload_n hx hb d_Ref_load_41 rfl (lv_at hl 0 rfl) ?_
        refine va_get (D := (dC, dI)) (ci := 1) (v := .int rq) (C := R_Ref) (T := T_Ref) (N := 23) hx hb hts in_Ref hown hK hP 1 rfl rfl 20 (by decide) (hts _ tw_449) (fun _ h9 => h9) rfl d_Ref_load_42 ?_
        refine lv_iadd hx hb d_Ref_load_45 ?_
        refine lv_topi (fun v_11 ev_11 => ?_)
        refine lv_imul hx hb d_Ref_load_46 ?_
        refine lv_topi (fun v_12 ev_12 => ?_)
        refine lv_iload_n hx hb d_Ref_load_47 rfl (lv_at hl 1 rfl) ?_
        refine lv_iadd hx hb d_Ref_load_48 ?_
        refine lv_topi (fun v_13 ev_13 => ?_)
        refine lv_iload_n hx hb d_Ref_load_49 rfl (lv_at hl 2 rfl) ?_
        have eh_14 : v_13 = nI (5 * (64 * jf + rq.toNatClampNeg) + m1.toNatClampNeg) := ld_ix ch.1 (by simp only [ev_6, ev_10, ev_11, ev_12, ev_13]) hrd hq1
        have bh_14 : 5 * (64 * jf + rq.toNatClampNeg) + m1.toNatClampNeg < 1280 := by omega
        have h_14 : vp_in v_13 1280 := by rw [eh_14]; exact vp_in_nI bh_14 (by decide)
        have kh_14 : v_13.toNatClampNeg = 5 * (64 * jf + rq.toNatClampNeg) + m1.toNatClampNeg := by rw [eh_14]; exact nI_clamp (by omega)
        refine va_iast hx hb hK hP hD hS 0 0 rfl rfl h_14 d_Ref_load_50 (fun H locs hP hD hS => ?_)
        rw [kh_14] at hP hD
        obtain ⟨uL2, euL2⟩ : ∃ y : Nat → Int32, y = upd uL (5 * (64 * jf + rq.toNatClampNeg) + m1.toNatClampNeg) x1 := ⟨_, rfl⟩
        rw [← euL2] at hP hD
        have hP : va_P (dC, dI) vw_cls [(bL, .inl (cI, 1280, .inl uL2)), (b0, .inr (1, [.int rc, .ref bS, .ref bC, .int rv, .ref bW, .int rp, .ref bCe, .ref bA, .ref bB, .ref bM, .int rf, .ref bG, .ref bK, .ref bCa, .ref bL, .int rd, .int rg, .int re, .ref bO, .int rl, .int rq, .int rb, .long rz]))] H := hP
        have hD : va_D A [(bL, .inl (cI, 1280, .inl uL2)), (b0, .inr (1, [.int rc, .ref bS, .ref bC, .int rv, .ref bW, .int rp, .ref bCe, .ref bA, .ref bB, .ref bM, .int rf, .ref bG, .ref bK, .ref bCa, .ref bL, .int rd, .int rg, .int re, .ref bO, .int rl, .int rq, .int rb, .long rz]))] := hD
        refine lv_iconst (v := 1) hx hb d_Ref_load_51 (by decide) ?_
        have hP9 := hP.sub (ws' := [(b0, .inr (1, [.int rc, .ref bS, .ref bC, .int rv, .ref bW, .int rp, .ref bCe, .ref bA, .ref bB, .ref bM, .int rf, .ref bG, .ref bK, .ref bCa, .ref bL, .int rd, .int rg, .int re, .ref bO, .int rl, .int rq, .int rb, .long rz])), (bL, .inl (cI, 1280, .inl uL2))]) [1, 0] rfl
        have hD9 := hD.sub (ws' := [(b0, .inr (1, [.int rc, .ref bS, .ref bC, .int rv, .ref bW, .int rp, .ref bCe, .ref bA, .ref bB, .ref bM, .int rf, .ref bG, .ref bK, .ref bCa, .ref bL, .int rd, .int rg, .int re, .ref bO, .int rl, .int rq, .int rb, .long rz])), (bL, .inl (cI, 1280, .inl uL2))]) [1, 0] (by decide) rfl
        have hpost_15 : ((¬ m1 < 0 ∧ ¬ rc ≤ m1 ∧ ¬ x1 < 0 ∧ x1 ≤ 1000000) ∧ (1 : Int32) = 1 ∧ uL2 = upd uL (5 * (64 * jf + rq.toNatClampNeg) + m1.toNatClampNeg) x1) ∨ (¬ (¬ m1 < 0 ∧ ¬ rc ≤ m1 ∧ ¬ x1 < 0 ∧ x1 ≤ 1000000) ∧ (1 : Int32) = 0 ∧ uL2 = uL) := Or.inl ⟨hok, rfl, euL2⟩
        exact W.zret (v := 1) hx hb hr (rfl) (fun t ht hW => ⟨⟨1, uL2, rfl, hpost_15, by rw [ht]; exact hP9, hD9⟩, hS.F ht⟩) hS.2.2 d_Ref_load_52
      · skip
        have ck := ir_out (x := x1) (a := 0) (b := 1000000) (by show  q_isIn x1.toInt64 0 1000000 = 0; rw [← ev_6, ← hw_8]; exact c_9)
        have hbad : ¬ (¬ m1 < 0 ∧ ¬ rc ≤ m1 ∧ ¬ x1 < 0 ∧ x1 ≤ 1000000) := fun z => ck.elim z.2.2.1 (fun q => absurd z.2.2.2 (Int32.not_le.mpr q))
        refine lv_iconst (v := 0) hx hb d_Ref_load_27 (by decide) ?_
        have hP9 := hP.sub (ws' := [(b0, .inr (1, [.int rc, .ref bS, .ref bC, .int rv, .ref bW, .int rp, .ref bCe, .ref bA, .ref bB, .ref bM, .int rf, .ref bG, .ref bK, .ref bCa, .ref bL, .int rd, .int rg, .int re, .ref bO, .int rl, .int rq, .int rb, .long rz])), (bL, .inl (cI, 1280, .inl uL))]) [1, 0] rfl
        have hD9 := hD.sub (ws' := [(b0, .inr (1, [.int rc, .ref bS, .ref bC, .int rv, .ref bW, .int rp, .ref bCe, .ref bA, .ref bB, .ref bM, .int rf, .ref bG, .ref bK, .ref bCa, .ref bL, .int rd, .int rg, .int re, .ref bO, .int rl, .int rq, .int rb, .long rz])), (bL, .inl (cI, 1280, .inl uL))]) [1, 0] (by decide) rfl
        have hpost_16 : ((¬ m1 < 0 ∧ ¬ rc ≤ m1 ∧ ¬ x1 < 0 ∧ x1 ≤ 1000000) ∧ (0 : Int32) = 1 ∧ uL = upd uL (5 * (64 * jf + rq.toNatClampNeg) + m1.toNatClampNeg) x1) ∨ (¬ (¬ m1 < 0 ∧ ¬ rc ≤ m1 ∧ ¬ x1 < 0 ∧ x1 ≤ 1000000) ∧ (0 : Int32) = 0 ∧ uL = uL) := Or.inr ⟨hbad, rfl, rfl⟩
        exact W.zret (v := 0) hx hb hr (rfl) (fun t ht hW => ⟨⟨0, uL, rfl, hpost_16, by rw [ht]; exact hP9, hD9⟩, hS.F ht⟩) hS.2.2 d_Ref_load_28
theorem kx_ix {x fx xi : Int32} {i : Nat} (ex : x = 64 * fx + xi) (hf : fx = nI fx.toNatClampNeg) (exi : xi = nI i) : x = nI (64 * fx.toNatClampNeg + i) := by
  generalize fx.toNatClampNeg = a at *
  rw [ex, hf, exi, ix_64]
set_option maxHeartbeats 4000000 in
set_option maxRecDepth 100000 in
theorem L_kt {p : Program} {l : Launch} {e : Env} {s : State} {m : MethodId} {args : Array Value} {below : List Frame} {meth : Method} {c : Code} {Q : State → Prop} {A : Nat → Prop} (hx : p.tables.exec = Jvm.exec) (hb : c.code = b_Ref_kept) (hml : c.maxLocals = 6) (hown : s.vm.findClass R_Ref = some m.cls) (hts : ∀ w ∈ lw_g, w.before args s = true) (hA : ∀ q, s.heap.size ≤ q → A q) {dC : Nat → ClassId} {dI : Nat → Nat → Nat} (cI : ClassId) (cZ : ClassId) (cQ : ClassId) (b0 : Nat) (rc : Int32) (bS : Nat) (bC : Nat) (rv : Int32) (bW : Nat) (rp : Int32) (bCe : Nat) (bA : Nat) (bB : Nat) (bM : Nat) (rf : Int32) (bG : Nat) (bK : Nat) (bCa : Nat) (bL : Nat) (rd : Int32) (rg : Int32) (re : Int32) (bO : Nat) (rl : Int32) (rq : Int32) (rb : Int32) (rz : Int64) (uG : Nat → Int32) (uK : Nat → Int32) (g1 : Int64) (nf : Nat) (fx : Int32) (hrf : rf = nI nf) (hnf : nf ≤ 4) (hfr : fx < 0 ∨ ∃ j, j < 4 ∧ fx = nI j) (hKN : g_K dC dI [(cI, .int), (cZ, .boolean), (cQ, (.object "SettingSearch$Answers"))] s)
    (kx_54 : ∀ (nn : Int32) (_ : nn = (if fx < 0 then 0 else q_kc uK (64 * fx.toNatClampNeg) 64)) (H : Heap) (locs : List Loc), va_P (dC, dI) vw_cls [(b0, .inr (1, [.int rc, .ref bS, .ref bC, .int rv, .ref bW, .int rp, .ref bCe, .ref bA, .ref bB, .ref bM, .int rf, .ref bG, .ref bK, .ref bCa, .ref bL, .int rd, .int rg, .int re, .ref bO, .int rl, .int rq, .int rb, .long rz])), (bG, .inl (cI, 4, .inl uG)), (bK, .inl (cZ, 256, .inl uK))] H → va_D A [(b0, .inr (1, [.int rc, .ref bS, .ref bC, .int rv, .ref bW, .int rp, .ref bCe, .ref bA, .ref bB, .ref bM, .int rf, .ref bG, .ref bK, .ref bCa, .ref bL, .int rd, .int rg, .int re, .ref bO, .int rl, .int rq, .int rb, .long rz])), (bG, .inl (cI, 4, .inl uG)), (bK, .inl (cZ, 256, .inl uK))] → va_S A s.heap H locs → ∀ (ls : Array Slot), lv_has ls 6 [(4, .int nn)] → W p l e ({ frames := 1, cells := 0, slots := 0, locals := 23 } : Room) s m args below meth c H locs 0 0 Q (F0 m 54 ls [])) :
    ∀ (n : Nat) (i : Nat) (xi : Int32) (nn : Int32) (_ : i ≤ 64) (_ : xi = nI i) (_ : nn = (if fx < 0 then 0 else q_kc uK (64 * fx.toNatClampNeg) i)) (_ : 64 - i < n) (H : Heap) (locs : List Loc), va_P (dC, dI) vw_cls [(b0, .inr (1, [.int rc, .ref bS, .ref bC, .int rv, .ref bW, .int rp, .ref bCe, .ref bA, .ref bB, .ref bM, .int rf, .ref bG, .ref bK, .ref bCa, .ref bL, .int rd, .int rg, .int re, .ref bO, .int rl, .int rq, .int rb, .long rz])), (bG, .inl (cI, 4, .inl uG)), (bK, .inl (cZ, 256, .inl uK))] H → va_D A [(b0, .inr (1, [.int rc, .ref bS, .ref bC, .int rv, .ref bW, .int rp, .ref bCe, .ref bA, .ref bB, .ref bM, .int rf, .ref bG, .ref bK, .ref bCa, .ref bL, .int rd, .int rg, .int re, .ref bO, .int rl, .int rq, .int rb, .long rz])), (bG, .inl (cI, 4, .inl uG)), (bK, .inl (cZ, 256, .inl uK))] → va_S A s.heap H locs → ∀ (ls : Array Slot), lv_has ls 6 [(0, .ref b0), (1, .long g1), (3, .int fx), (4, .int nn), (5, .int xi)] → W p l e ({ frames := 1, cells := 0, slots := 0, locals := 23 } : Room) s m args below meth c H locs 0 0 Q (F0 m 12 ls []) := by
  obtain ⟨hK, hN⟩ := id hKN
  intro n
  induction n with
  | zero =>
    intro i xi nn hi exi en hm
    exact absurd hm (Nat.not_lt_zero _)
  | succ n ih =>
    intro i xi nn hi exi en hm H locs hP hD hS ls hl
    refine lv_iload hx hb d_Ref_kept_12 (lv_at hl 4 rfl) ?_
    refine lv_bipush (v := 64) hx hb d_Ref_kept_14 (by decide) ?_
    refine lv_icmp_ge (tgt := 54) hx hb d_Ref_kept_16 (by decide) (fun c_1 => ?_) (fun c_1 => ?_)
    · skip
      have hendi := lp_ge (N := 64) c_1 exi rfl hi (by omega)
      exact kx_54 nn (by first | (rw [en, hendi]; done) | (rw [en, if_pos hneg, if_pos hneg]; done)) H locs (hP.sub [0, 1, 2] rfl) (hD.sub [0, 1, 2] (by decide) rfl) hS ls (lv_sub hl [3] rfl)
    · skip
      have hlti := lp_lt (N := 64) c_1 exi rfl (by omega)
      refine lv_iload_n hx hb d_Ref_kept_19 rfl (lv_at hl 2 rfl) ?_
      refine lv_if_lt (tgt := 54) hx hb d_Ref_kept_20 (by decide) (fun c_2 => ?_) (fun c_2 => ?_)
      · skip
        have hneg : fx < 0 := c_2
        exact kx_54 nn (by first | (rw [en, hendi]; done) | (rw [en, if_pos hneg, if_pos hneg]; done)) H locs (hP.sub [0, 1, 2] rfl) (hD.sub [0, 1, 2] (by decide) rfl) hS ls (lv_sub hl [3] rfl)
      · skip
        have hpos : ¬ fx < 0 := c_2
        have hfj : fx = nI fx.toNatClampNeg ∧ fx.toNatClampNeg < 4 := by
          obtain ⟨j, hj, e⟩ := hfr.resolve_left hpos
          rw [e, nI_clamp (by omega)]
          exact ⟨rfl, hj⟩
        refine lv_iload hx hb d_Ref_kept_23 (lv_at hl 3 rfl) ?_
        refine lv_aload_n hx hb d_Ref_kept_25 rfl (lv_at hl 0 rfl) ?_
        refine va_get (D := (dC, dI)) (ci := 1) (v := .ref bK) (C := R_Ref) (T := T_Ref) (N := 23) hx hb hts in_Ref hown hK hP 0 rfl rfl 12 (by decide) (hts _ tw_441) (fun _ h9 => h9) rfl d_Ref_kept_26 ?_
        refine lv_bipush (v := 64) hx hb d_Ref_kept_29 (by decide) ?_
        refine lv_iload_n hx hb d_Ref_kept_31 rfl (lv_at hl 2 rfl) ?_
        refine lv_imul hx hb d_Ref_kept_32 ?_
        refine lv_topi (fun v_3 ev_3 => ?_)
        refine lv_iload hx hb d_Ref_kept_33 (lv_at hl 4 rfl) ?_
        refine lv_iadd hx hb d_Ref_kept_35 ?_
        refine lv_topi (fun v_4 ev_4 => ?_)
        have eh_5 : v_4 = nI (64 * fx.toNatClampNeg + i) := kx_ix (by simp only [ev_3, ev_4]) hfj.1 exi
        have bh_5 : 64 * fx.toNatClampNeg + i < 256 := by have := hfj.2; omega
        have h_5 : vp_in v_4 256 := by rw [eh_5]; exact vp_in_nI bh_5 (by decide)
        have kh_5 : v_4.toNatClampNeg = 64 * fx.toNatClampNeg + i := by rw [eh_5]; exact nI_clamp (by omega)
        refine va_zald hx hb hK hP 2 1 rfl rfl h_5 d_Ref_kept_36 ?_
        rw [kh_5]
        refine lv_topi (fun v_6 ev_6 => ?_)
        refine lv_if_eq (tgt := 44) hx hb d_Ref_kept_37 (by decide) (fun c_7 => ?_) (fun c_7 => ?_)
        · skip
          have ck : uK (64 * fx.toNatClampNeg + i) = 0 := by rw [← ev_6]; exact c_7
          refine lv_iconst (v := 0) hx hb d_Ref_kept_44 (by decide) ?_
          refine lv_iadd hx hb d_Ref_kept_45 ?_
          refine lv_topi (fun v_8 ev_8 => ?_)
          refine lv_istore (lv' := [(4, .int v_8), (0, .ref b0), (1, .long g1), (3, .int fx), (5, .int xi)]) hx hb d_Ref_kept_46 hl (by decide) rfl (fun ls hl => ?_)
          obtain ⟨v_9, ev_9⟩ : ∃ y : Int32, y = xi + 1 := ⟨_, rfl⟩
          refine lv_iinc (v := v_9) (lv' := [(5, .int v_9), (4, .int v_8), (0, .ref b0), (1, .long g1), (3, .int fx)]) hx hb d_Ref_kept_48 hl (k := 4) rfl (by rw [ev_9]; rfl) (by decide) rfl (fun ls hl => ?_)
          refine lv_goto (tgt := 12) hx hb d_Ref_kept_51 (by decide) ?_
          exact ih (i + 1) v_9 v_8 hlti (by rw [ev_9, exi]; exact nI_1 i) (by rw [ev_8, en, if_neg hpos, if_neg hpos, q_kc]; first | rw [if_pos ck] | rw [if_neg ck]) (by omega) H locs (hP.sub [0, 1, 2] rfl) (hD.sub [0, 1, 2] (by decide) rfl) hS ls (lv_sub hl [2, 3, 4, 1, 0] rfl)
        · skip
          have ck : ¬ uK (64 * fx.toNatClampNeg + i) = 0 := by rw [← ev_6]; exact c_7
          refine lv_iconst (v := 1) hx hb d_Ref_kept_40 (by decide) ?_
          refine lv_goto (tgt := 45) hx hb d_Ref_kept_41 (by decide) ?_
          refine lv_iadd hx hb d_Ref_kept_45 ?_
          refine lv_topi (fun v_10 ev_10 => ?_)
          refine lv_istore (lv' := [(4, .int v_10), (0, .ref b0), (1, .long g1), (3, .int fx), (5, .int xi)]) hx hb d_Ref_kept_46 hl (by decide) rfl (fun ls hl => ?_)
          obtain ⟨v_11, ev_11⟩ : ∃ y : Int32, y = xi + 1 := ⟨_, rfl⟩
          refine lv_iinc (v := v_11) (lv' := [(5, .int v_11), (4, .int v_10), (0, .ref b0), (1, .long g1), (3, .int fx)]) hx hb d_Ref_kept_48 hl (k := 4) rfl (by rw [ev_11]; rfl) (by decide) rfl (fun ls hl => ?_)
          refine lv_goto (tgt := 12) hx hb d_Ref_kept_51 (by decide) ?_
          exact ih (i + 1) v_11 v_10 hlti (by rw [ev_11, exi]; exact nI_1 i) (by rw [ev_10, en, if_neg hpos, if_neg hpos, q_kc]; first | rw [if_pos ck] | rw [if_neg ck]) (by omega) H locs (hP.sub [0, 1, 2] rfl) (hD.sub [0, 1, 2] (by decide) rfl) hS ls (lv_sub hl [2, 3, 4, 1, 0] rfl)
set_option maxHeartbeats 4000000 in
set_option maxRecDepth 100000 in
/-- the reference: kept -/
theorem m_kept (l : Launch) (dC : Nat → ClassId) (dI : Nat → Nat → Nat) (sz : Nat) (cI : ClassId) (cZ : ClassId) (cQ : ClassId) (b0 : Nat) (rc : Int32) (bS : Nat) (bC : Nat) (rv : Int32) (bW : Nat) (rp : Int32) (bCe : Nat) (bA : Nat) (bB : Nat) (bM : Nat) (rf : Int32) (bG : Nat) (bK : Nat) (bCa : Nat) (bL : Nat) (rd : Int32) (rg : Int32) (re : Int32) (bO : Nat) (rl : Int32) (rq : Int32) (rb : Int32) (rz : Int64) (uG : Nat → Int32) (uK : Nat → Int32) (g1 : Int64) (nf : Nat) (hrf : rf = nI nf) (hnf : nf ≤ 4) : Met l y_Ref_kept w_Ref_kept ({ frames := 1, cells := 0, slots := 0, locals := 23 } : Room) (va_Pc [.ref b0, .long g1] (fun U => U.heap.size = sz ∧ va_P (dC, dI) vw_cls [(b0, .inr (1, [.int rc, .ref bS, .ref bC, .int rv, .ref bW, .int rp, .ref bCe, .ref bA, .ref bB, .ref bM, .int rf, .ref bG, .ref bK, .ref bCa, .ref bL, .int rd, .int rg, .int re, .ref bO, .int rl, .int rq, .int rb, .long rz])), (bG, .inl (cI, 4, .inl uG)), (bK, .inl (cZ, 256, .inl uK))] U.heap ∧ g_K dC dI [(cI, .int), (cZ, .boolean), (cQ, (.object "SettingSearch$Answers"))] U ∧ va_D (fun _ => True) [(b0, .inr (1, [.int rc, .ref bS, .ref bC, .int rv, .ref bW, .int rp, .ref bCe, .ref bA, .ref bB, .ref bM, .int rf, .ref bG, .ref bK, .ref bCa, .ref bL, .int rd, .int rg, .int re, .ref bO, .int rl, .int rq, .int rb, .long rz])), (bG, .inl (cI, 4, .inl uG)), (bK, .inl (cZ, 256, .inl uK))])) (va_Qi (fun (r : Int32) (u : Unit) => r = if q_fa uG g1 nf 0 < 0 then 0 else q_kc uK (64 * (q_fa uG g1 nf 0).toNatClampNeg) 64) (fun (u : Unit) (t : State) => va_P (dC, dI) vw_cls [(b0, .inr (1, [.int rc, .ref bS, .ref bC, .int rv, .ref bW, .int rp, .ref bCe, .ref bA, .ref bB, .ref bM, .int rf, .ref bG, .ref bK, .ref bCa, .ref bL, .int rd, .int rg, .int re, .ref bO, .int rl, .int rq, .int rb, .long rz])), (bG, .inl (cI, 4, .inl uG)), (bK, .inl (cZ, 256, .inl uK))] t.heap ∧ va_D (va_A [(b0, .inr (1, [.int rc, .ref bS, .ref bC, .int rv, .ref bW, .int rp, .ref bCe, .ref bA, .ref bB, .ref bM, .int rf, .ref bG, .ref bK, .ref bCa, .ref bL, .int rd, .int rg, .int re, .ref bO, .int rl, .int rq, .int rb, .long rz])), (bG, .inl (cI, 4, .inl uG)), (bK, .inl (cZ, 256, .inl uK))] sz) [(b0, .inr (1, [.int rc, .ref bS, .ref bC, .int rv, .ref bW, .int rp, .ref bCe, .ref bA, .ref bB, .ref bM, .int rf, .ref bG, .ref bK, .ref bCa, .ref bL, .int rd, .int rg, .int re, .ref bO, .int rl, .int rq, .int rb, .long rz])), (bG, .inl (cI, 4, .inl uG)), (bK, .inl (cZ, 256, .inl uK))]) (va_A [(b0, .inr (1, [.int rc, .ref bS, .ref bC, .int rv, .ref bW, .int rp, .ref bCe, .ref bA, .ref bB, .ref bM, .int rf, .ref bG, .ref bK, .ref bCa, .ref bL, .int rd, .int rg, .int re, .ref bO, .int rl, .int rq, .int rb, .long rz])), (bG, .inl (cI, 4, .inl uG)), (bK, .inl (cZ, 256, .inl uK))] sz)) 0 0 (va_A [(b0, .inr (1, [.int rc, .ref bS, .ref bC, .int rv, .ref bW, .int rp, .ref bCe, .ref bA, .ref bB, .ref bM, .int rf, .ref bG, .ref bK, .ref bCa, .ref bL, .int rd, .int rg, .int re, .ref bO, .int rl, .int rq, .int rb, .long rz])), (bG, .inl (cI, 4, .inl uG)), (bK, .inl (cZ, 256, .inl uK))] sz) := by
  refine Met.ofW (cc := b_Ref_kept) (maxL := 6) (ret := (some .int)) (by decide) rfl ?_
  intro p e s m args below meth c s₁ B hml hv
  obtain ⟨rfl, hsz, hP, hKN, hD0⟩ := hv
  obtain ⟨hK, hN⟩ := id hKN
  have hx := B.exec
  have hb := B.bytes
  have hr := B.returns
  have hts0 := atoms_spec (ws := w_Ref_kept) B.pre
  have hts : ∀ w ∈ lw_g, w.before _ s = true := fun w h => hts0 w (List.mem_cons_of_mem _ h)
  have hown : s.vm.findClass R_Ref = some m.cls := findClass_of_methodNamed B.named
  have hlocks := B.notSynchronized
  subst hsz
  have hD := hD0.self (sz := s.heap.size)
  generalize hAe : va_A [(b0, .inr (1, [.int rc, .ref bS, .ref bC, .int rv, .ref bW, .int rp, .ref bCe, .ref bA, .ref bB, .ref bM, .int rf, .ref bG, .ref bK, .ref bCa, .ref bL, .int rd, .int rg, .int re, .ref bO, .int rl, .int rq, .int rb, .long rz])), (bG, .inl (cI, 4, .inl uG)), (bK, .inl (cZ, 256, .inl uK))] s.heap.size = A at hD ⊢
  have hA : ∀ q : Nat, s.heap.size ≤ q → A q := fun q h => by rw [← hAe]; exact Or.inr h
  have hP : va_P (dC, dI) vw_cls [(b0, .inr (1, [.int rc, .ref bS, .ref bC, .int rv, .ref bW, .int rp, .ref bCe, .ref bA, .ref bB, .ref bM, .int rf, .ref bG, .ref bK, .ref bCa, .ref bL, .int rd, .int rg, .int re, .ref bO, .int rl, .int rq, .int rb, .long rz])), (bG, .inl (cI, 4, .inl uG)), (bK, .inl (cZ, 256, .inl uK))] s.heap := hP
  have hl := lv_entry ([.ref b0, .long g1]) (n := 6) (Nat.le_of_ble_eq_true rfl)
  rw [lg_entry_eq]
  generalize (lg_sl ([.ref b0, .long g1]) ++ List.replicate (6 - (lg_sl ([.ref b0, .long g1])).length) Slot.unset).toArray = ls at hl ⊢
  have hl : lv_has ls 6 [(0, .ref b0), (1, .long g1)] := hl
  refine gw_start (fun H locs hH hlocs => ?_)
  rw [← hH] at hP
  have hS : va_S A s.heap H locs := by rw [hH, hlocs]; exact va_S.rf
  refine lv_aload_n hx hb d_Ref_kept_0 rfl (lv_at hl 0 rfl) ?_
  refine lv_lload_n hx hb d_Ref_kept_1 rfl (lv_at hl 1 rfl) ?_
  have hPc := hP.sub (ws' := [(b0, .inr (1, [.int rc, .ref bS, .ref bC, .int rv, .ref bW, .int rp, .ref bCe, .ref bA, .ref bB, .ref bM, .int rf, .ref bG, .ref bK, .ref bCa, .ref bL, .int rd, .int rg, .int re, .ref bO, .int rl, .int rq, .int rb, .long rz])), (bG, .inl (cI, 4, .inl uG))]) [0, 1] rfl
  have hDc := hD.sub (ws' := [(b0, .inr (1, [.int rc, .ref bS, .ref bC, .int rv, .ref bW, .int rp, .ref bCe, .ref bA, .ref bB, .ref bM, .int rf, .ref bG, .ref bK, .ref bCa, .ref bL, .int rd, .int rg, .int re, .ref bO, .int rl, .int rq, .int rb, .long rz])), (bG, .inl (cI, 4, .inl uG))]) [0, 1] (by decide) rfl
  have hFc := va_free (wc := [(b0, .inr (1, [.int rc, .ref bS, .ref bC, .int rv, .ref bW, .int rp, .ref bCe, .ref bA, .ref bB, .ref bM, .int rf, .ref bG, .ref bK, .ref bCa, .ref bL, .int rd, .int rg, .int re, .ref bO, .int rl, .int rq, .int rb, .long rz])), (bG, .inl (cI, 4, .inl uG))]) hD hS hA [0, 1] rfl
  refine va_calli (va_runV (As := [.long g1]) (rest := []) ⟨hx, hb, hml, hown, hts⟩ (m_fa l dC dI H.size cI cZ cQ b0 rc bS bC rv bW rp bCe bA bB bM rf bG bK bCa bL rd rg re bO rl rq rb rz uG g1 nf hrf hnf) ⟨(callB_of 1 hts (ga_all tw_538) rfl rfl rfl (hts _ tw_29) (hts _ tw_535) (by decide +kernel) ⟨Nat.le_of_ble_eq_true rfl, Nat.le_of_ble_eq_true rfl⟩), hts _ tw_537, hts _ tw_10⟩ ⟨fun a U g mk q => by obtain ⟨q0, q1, qP, qK, qD⟩ := q; exact ⟨q0, q1, qP, g_K.same (u := U) (U := U.calling g mk a) rfl qK, qD⟩, va_recv hK hPc (ci := 1) (q0 := 0) rfl rfl, fun U hU hW => ⟨rfl, by rw [hU], by rw [hU]; exact hPc, g_K.warm hW hKN, hDc.weaken (fun _ _ _ _ => trivial)⟩⟩ rfl rfl hl.1 rfl (lv_room (Nat.le_of_ble_eq_true rfl)) d_Ref_kept_2 ⟨Nat.le_of_ble_eq_true rfl, Nat.le_of_ble_eq_true rfl⟩) hS (fun q _ h => hFc q h) hFc (fun fx u t H1 locs htt hvm hw_1 hBB hzz hkk hS => ?_)
  have hw_1 : fx = q_fa uG g1 nf 0 := hw_1
  obtain ⟨hPP, hDD⟩ := hBB
  rw [htt] at hPP
  have hPP : va_P (dC, dI) vw_cls [(b0, .inr (1, [.int rc, .ref bS, .ref bC, .int rv, .ref bW, .int rp, .ref bCe, .ref bA, .ref bB, .ref bM, .int rf, .ref bG, .ref bK, .ref bCa, .ref bL, .int rd, .int rg, .int re, .ref bO, .int rl, .int rq, .int rb, .long rz])), (bG, .inl (cI, 4, .inl uG))] H1 := hPP
  have hDD : va_D (va_A [(b0, .inr (1, [.int rc, .ref bS, .ref bC, .int rv, .ref bW, .int rp, .ref bCe, .ref bA, .ref bB, .ref bM, .int rf, .ref bG, .ref bK, .ref bCa, .ref bL, .int rd, .int rg, .int re, .ref bO, .int rl, .int rq, .int rb, .long rz])), (bG, .inl (cI, 4, .inl uG))] H.size) [(b0, .inr (1, [.int rc, .ref bS, .ref bC, .int rv, .ref bW, .int rp, .ref bCe, .ref bA, .ref bB, .ref bM, .int rf, .ref bG, .ref bK, .ref bCa, .ref bL, .int rd, .int rg, .int re, .ref bO, .int rl, .int rq, .int rb, .long rz])), (bG, .inl (cI, 4, .inl uG))] := hDD
  obtain ⟨hP, hD⟩ := va_join (wr := [(bK, .inl (cZ, 256, .inl uK))]) (w1 := [(b0, .inr (1, [.int rc, .ref bS, .ref bC, .int rv, .ref bW, .int rp, .ref bCe, .ref bA, .ref bB, .ref bM, .int rf, .ref bG, .ref bK, .ref bCa, .ref bL, .int rd, .int rg, .int re, .ref bO, .int rl, .int rq, .int rb, .long rz])), (bG, .inl (cI, 4, .inl uG))]) hP hD [0, 1] [2] rfl rfl (by decide) (by decide) hkk hFc hPP hDD
  generalize H1 = H at hP hS ⊢
  have hP : va_P (dC, dI) vw_cls [(bK, .inl (cZ, 256, .inl uK)), (b0, .inr (1, [.int rc, .ref bS, .ref bC, .int rv, .ref bW, .int rp, .ref bCe, .ref bA, .ref bB, .ref bM, .int rf, .ref bG, .ref bK, .ref bCa, .ref bL, .int rd, .int rg, .int re, .ref bO, .int rl, .int rq, .int rb, .long rz])), (bG, .inl (cI, 4, .inl uG))] H := hP
  have hD : va_D A [(bK, .inl (cZ, 256, .inl uK)), (b0, .inr (1, [.int rc, .ref bS, .ref bC, .int rv, .ref bW, .int rp, .ref bCe, .ref bA, .ref bB, .ref bM, .int rf, .ref bG, .ref bK, .ref bCa, .ref bL, .int rd, .int rg, .int re, .ref bO, .int rl, .int rq, .int rb, .long rz])), (bG, .inl (cI, 4, .inl uG))] := hD
  have hfx : fx = q_fa uG g1 nf 0 := hw_1
  have hfr : fx < 0 ∨ ∃ j, j < 4 ∧ fx = nI j := by
    rw [hfx]
    rcases q_fa_r (uG := uG) (g := g1) nf 0 (by omega) with q | ⟨k, hk, e⟩
    · exact Or.inl (by rw [q]; decide)
    · exact Or.inr ⟨k, by omega, e⟩
  refine lv_istore_n (lv' := [(3, .int fx), (0, .ref b0), (1, .long g1)]) hx hb d_Ref_kept_5 rfl hl (by decide) rfl (fun ls hl => ?_)
  refine lv_iconst (v := 0) hx hb d_Ref_kept_6 (by decide) ?_
  refine lv_istore (lv' := [(4, .int 0), (3, .int fx), (0, .ref b0), (1, .long g1)]) hx hb d_Ref_kept_7 hl (by decide) rfl (fun ls hl => ?_)
  refine lv_iconst (v := 0) hx hb d_Ref_kept_9 (by decide) ?_
  refine lv_istore (lv' := [(5, .int 0), (4, .int 0), (3, .int fx), (0, .ref b0), (1, .long g1)]) hx hb d_Ref_kept_10 hl (by decide) rfl (fun ls hl => ?_)
  refine L_kt hx hb hml hown hts hA cI cZ cQ b0 rc bS bC rv bW rp bCe bA bB bM rf bG bK bCa bL rd rg re bO rl rq rb rz uG uK g1 nf fx hrf hnf hfr hKN ?_ (64 - 0 + 1) 0 0 0 (Nat.zero_le _) rfl (by split <;> rfl) (Nat.lt_succ_self _) H locs (hP.sub [1, 2, 0] rfl) (hD.sub [1, 2, 0] (by decide) rfl) hS ls (lv_sub hl [3, 4, 2, 1, 0] rfl)
  intro nn hen H locs hP hD hS ls hl
  have hl : lv_has ls 6 [(4, .int nn)] := hl
  have hP : va_P (dC, dI) vw_cls [(b0, .inr (1, [.int rc, .ref bS, .ref bC, .int rv, .ref bW, .int rp, .ref bCe, .ref bA, .ref bB, .ref bM, .int rf, .ref bG, .ref bK, .ref bCa, .ref bL, .int rd, .int rg, .int re, .ref bO, .int rl, .int rq, .int rb, .long rz])), (bG, .inl (cI, 4, .inl uG)), (bK, .inl (cZ, 256, .inl uK))] H := hP
  have hD : va_D A [(b0, .inr (1, [.int rc, .ref bS, .ref bC, .int rv, .ref bW, .int rp, .ref bCe, .ref bA, .ref bB, .ref bM, .int rf, .ref bG, .ref bK, .ref bCa, .ref bL, .int rd, .int rg, .int re, .ref bO, .int rl, .int rq, .int rb, .long rz])), (bG, .inl (cI, 4, .inl uG)), (bK, .inl (cZ, 256, .inl uK))] := hD
  refine lv_iload hx hb d_Ref_kept_54 (lv_at hl 0 rfl) ?_
  have hP9 := hP.sub (ws' := [(b0, .inr (1, [.int rc, .ref bS, .ref bC, .int rv, .ref bW, .int rp, .ref bCe, .ref bA, .ref bB, .ref bM, .int rf, .ref bG, .ref bK, .ref bCa, .ref bL, .int rd, .int rg, .int re, .ref bO, .int rl, .int rq, .int rb, .long rz])), (bG, .inl (cI, 4, .inl uG)), (bK, .inl (cZ, 256, .inl uK))]) [0, 1, 2] rfl
  have hD9 := hD.sub (ws' := [(b0, .inr (1, [.int rc, .ref bS, .ref bC, .int rv, .ref bW, .int rp, .ref bCe, .ref bA, .ref bB, .ref bM, .int rf, .ref bG, .ref bK, .ref bCa, .ref bL, .int rd, .int rg, .int re, .ref bO, .int rl, .int rq, .int rb, .long rz])), (bG, .inl (cI, 4, .inl uG)), (bK, .inl (cZ, 256, .inl uK))]) [0, 1, 2] (by decide) rfl
  have hpost_2 : (nn : Int32) = if q_fa uG g1 nf 0 < 0 then 0 else q_kc uK (64 * (q_fa uG g1 nf 0).toNatClampNeg) 64 := by rw [← hfx]; exact hen
  exact W.iret (v := nn) hx hb hr (fun t ht hW => ⟨⟨nn, (), rfl, hpost_2, by rw [ht]; exact hP9, hD9⟩, hS.F ht⟩) hS.2.2 d_Ref_kept_56
