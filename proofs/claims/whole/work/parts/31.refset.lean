set_option maxHeartbeats 4000000 in
set_option maxRecDepth 100000 in
theorem L_rm {p : Program} {l : Launch} {e : Env} {s : State} {m : MethodId} {args : Array Value} {below : List Frame} {meth : Method} {c : Code} {Q : State → Prop} {A : Nat → Prop} (hx : p.tables.exec = Jvm.exec) (hb : c.code = b_Ref_machine) (hml : c.maxLocals = 3) (hown : s.vm.findClass R_Ref = some m.cls) (hts : ∀ w ∈ lw_g, w.before args s = true) (hA : ∀ q, s.heap.size ≤ q → A q) {dC : Nat → ClassId} {dI : Nat → Nat → Nat} (cI : ClassId) (cZ : ClassId) (cQ : ClassId) (b0 : Nat) (rc : Int32) (bS : Nat) (bC : Nat) (rv : Int32) (bW : Nat) (rp : Int32) (bCe : Nat) (bA : Nat) (bB : Nat) (bM : Nat) (rf : Int32) (bG : Nat) (bK : Nat) (bCa : Nat) (bL : Nat) (rd : Int32) (rg : Int32) (re : Int32) (bO : Nat) (rl : Int32) (rq : Int32) (rb : Int32) (rz : Int64) (uS : Nat → Int32) (uC : Nat → Int32) (uK : Nat → Int32) (k1 : Int32) (nc : Nat) (nv : Nat) (rcx : Int32) (rvx : Int32) (uSx : Nat → Int32) (uCx : Nat → Int32) (hrc : rc = nI nc) (hnc : nc ≤ 5) (hrv : rv = nI nv) (hnv : nv ≤ 64) (hnv1 : 1 ≤ nv)  (hKN : g_K dC dI [(cI, .int), (cZ, .boolean), (cQ, (.object "SettingSearch$Answers"))] s)
    (kx_102 : ∀ (i : Nat) (xi : Int32) (g : Nat → Int32) (_ : i ≤ 256) (_ : xi = nI i) (_ : g = q_z uK 0 i) (_ : i = 256) (H : Heap) (locs : List Loc), va_P (dC, dI) vw_cls [(b0, .inr (1, [.int rcx, .ref bS, .ref bC, .int rvx, .ref bW, .int rp, .ref bCe, .ref bA, .ref bB, .ref bM, .int rf, .ref bG, .ref bK, .ref bCa, .ref bL, .int rd, .int rg, .int re, .ref bO, .int rl, .int rq, .int rb, .long rz])), (bS, .inl (cI, 5, .inl uSx)), (bC, .inl (cI, 5, .inl uCx)), (bK, .inl (cZ, 256, .inl g))] H → va_D A [(b0, .inr (1, [.int rcx, .ref bS, .ref bC, .int rvx, .ref bW, .int rp, .ref bCe, .ref bA, .ref bB, .ref bM, .int rf, .ref bG, .ref bK, .ref bCa, .ref bL, .int rd, .int rg, .int re, .ref bO, .int rl, .int rq, .int rb, .long rz])), (bS, .inl (cI, 5, .inl uSx)), (bC, .inl (cI, 5, .inl uCx)), (bK, .inl (cZ, 256, .inl g))] → va_S A s.heap H locs → ∀ (ls : Array Slot), lv_has ls 3 [(0, .ref b0), (1, .int k1), (2, .int xi)] → W p l e ({ frames := 1, cells := 0, slots := 0, locals := 25 } : Room) s m args below meth c H locs 0 0 Q (F0 m 102 ls [])) :
    ∀ (n : Nat) (i : Nat) (xi : Int32) (g : Nat → Int32) (_ : i ≤ 256) (_ : xi = nI i) (_ : g = q_z uK 0 i) (_ : 256 - i < n) (H : Heap) (locs : List Loc), va_P (dC, dI) vw_cls [(b0, .inr (1, [.int rcx, .ref bS, .ref bC, .int rvx, .ref bW, .int rp, .ref bCe, .ref bA, .ref bB, .ref bM, .int rf, .ref bG, .ref bK, .ref bCa, .ref bL, .int rd, .int rg, .int re, .ref bO, .int rl, .int rq, .int rb, .long rz])), (bS, .inl (cI, 5, .inl uSx)), (bC, .inl (cI, 5, .inl uCx)), (bK, .inl (cZ, 256, .inl g))] H → va_D A [(b0, .inr (1, [.int rcx, .ref bS, .ref bC, .int rvx, .ref bW, .int rp, .ref bCe, .ref bA, .ref bB, .ref bM, .int rf, .ref bG, .ref bK, .ref bCa, .ref bL, .int rd, .int rg, .int re, .ref bO, .int rl, .int rq, .int rb, .long rz])), (bS, .inl (cI, 5, .inl uSx)), (bC, .inl (cI, 5, .inl uCx)), (bK, .inl (cZ, 256, .inl g))] → va_S A s.heap H locs → ∀ (ls : Array Slot), lv_has ls 3 [(0, .ref b0), (1, .int k1), (2, .int xi)] → W p l e ({ frames := 1, cells := 0, slots := 0, locals := 25 } : Room) s m args below meth c H locs 0 0 Q (F0 m 82 ls []) := by
  obtain ⟨hK, hN⟩ := id hKN
  intro n
  induction n with
  | zero =>
    intro i xi g hi exi eg hm
    exact absurd hm (Nat.not_lt_zero _)
  | succ n ih =>
    intro i xi g hi exi eg hm H locs hP hD hS ls hl
    skip
    refine lv_iload_n hx hb d_Ref_machine_82 rfl (lv_at hl 2 rfl) ?_
    refine lv_sipush (v := 256) hx hb d_Ref_machine_83 (by decide) ?_
    refine lv_icmp_ge (tgt := 102) hx hb d_Ref_machine_86 (by decide) (fun c_1 => ?_) (fun c_1 => ?_)
    · skip
      have hendi := lp_ge (N := 256) c_1 exi rfl hi (by omega)
      exact kx_102 i xi g hi exi eg hendi H locs (hP.sub [0, 1, 2, 3] rfl) (hD.sub [0, 1, 2, 3] (by decide) rfl) hS ls (lv_sub hl [0, 1, 2] rfl)
    · skip
      have hlti := lp_lt (N := 256) c_1 exi rfl (by omega)
      refine lv_aload_n hx hb d_Ref_machine_89 rfl (lv_at hl 0 rfl) ?_
      refine va_get (D := (dC, dI)) (ci := 1) (v := .ref bK) (C := R_Ref) (T := T_Ref) (N := 23) hx hb hts in_Ref hown hK hP 0 rfl rfl 12 (by decide) (hts _ tw_441) (fun _ h9 => h9) rfl d_Ref_machine_90 ?_
      refine lv_iload_n hx hb d_Ref_machine_93 rfl (lv_at hl 2 rfl) ?_
      refine lv_iconst (v := 0) hx hb d_Ref_machine_94 (by decide) ?_
      have eh_2 : xi = nI (i) := exi
      have bh_2 : i < 256 := by omega
      have h_2 : vp_in xi 256 := by rw [eh_2]; exact vp_in_nI bh_2 (by decide)
      have kh_2 : xi.toNatClampNeg = i := by rw [eh_2]; exact nI_clamp (by omega)
      refine va_zast hx hb hK hP hD hS 3 1 rfl rfl h_2 d_Ref_machine_95 (fun H locs hP hD hS => ?_)
      rw [kh_2] at hP hD
      rw [show vp_nar .boolean 0 = 0 from rfl] at hP hD
      obtain ⟨g2, eg2⟩ : ∃ y : Nat → Int32, y = upd g (i) 0 := ⟨_, rfl⟩
      rw [← eg2] at hP hD
      have hP : va_P (dC, dI) vw_cls [(b0, .inr (1, [.int rcx, .ref bS, .ref bC, .int rvx, .ref bW, .int rp, .ref bCe, .ref bA, .ref bB, .ref bM, .int rf, .ref bG, .ref bK, .ref bCa, .ref bL, .int rd, .int rg, .int re, .ref bO, .int rl, .int rq, .int rb, .long rz])), (bS, .inl (cI, 5, .inl uSx)), (bC, .inl (cI, 5, .inl uCx)), (bK, .inl (cZ, 256, .inl g2))] H := hP
      have hD : va_D A [(b0, .inr (1, [.int rcx, .ref bS, .ref bC, .int rvx, .ref bW, .int rp, .ref bCe, .ref bA, .ref bB, .ref bM, .int rf, .ref bG, .ref bK, .ref bCa, .ref bL, .int rd, .int rg, .int re, .ref bO, .int rl, .int rq, .int rb, .long rz])), (bS, .inl (cI, 5, .inl uSx)), (bC, .inl (cI, 5, .inl uCx)), (bK, .inl (cZ, 256, .inl g2))] := hD
      obtain ⟨v_3, ev_3⟩ : ∃ y : Int32, y = xi + 1 := ⟨_, rfl⟩
      refine lv_iinc (v := v_3) (lv' := [(2, .int v_3), (0, .ref b0), (1, .int k1)]) hx hb d_Ref_machine_96 hl (k := 2) rfl (by rw [ev_3]; rfl) (by decide) rfl (fun ls hl => ?_)
      refine lv_goto (tgt := 82) hx hb d_Ref_machine_99 (by decide) ?_
      exact ih (i + 1) v_3 g2 hlti (by rw [ev_3, exi]; exact nI_1 i) (by rw [eg2, eg]; show _ = upd _ (0 + i) 0; rw [Nat.zero_add]) (by omega) H locs (hP.sub [0, 1, 2, 3] rfl) (hD.sub [0, 1, 2, 3] (by decide) rfl) hS ls (lv_sub hl [1, 2, 0] rfl)
set_option maxHeartbeats 4000000 in
set_option maxRecDepth 100000 in
/-- the reference: machine -/
theorem m_machine (l : Launch) (dC : Nat → ClassId) (dI : Nat → Nat → Nat) (sz : Nat) (cI : ClassId) (cZ : ClassId) (cQ : ClassId) (b0 : Nat) (rc : Int32) (bS : Nat) (bC : Nat) (rv : Int32) (bW : Nat) (rp : Int32) (bCe : Nat) (bA : Nat) (bB : Nat) (bM : Nat) (rf : Int32) (bG : Nat) (bK : Nat) (bCa : Nat) (bL : Nat) (rd : Int32) (rg : Int32) (re : Int32) (bO : Nat) (rl : Int32) (rq : Int32) (rb : Int32) (rz : Int64) (uS : Nat → Int32) (uC : Nat → Int32) (uK : Nat → Int32) (k1 : Int32) (nc : Nat) (nv : Nat) (hrc : rc = nI nc) (hnc : nc ≤ 5) (hrv : rv = nI nv) (hnv : nv ≤ 64) (hnv1 : 1 ≤ nv) : Met l y_Ref_machine w_Ref_machine ({ frames := 1, cells := 0, slots := 0, locals := 25 } : Room) (va_Pc [.ref b0, .int k1] (fun U => U.heap.size = sz ∧ va_P (dC, dI) vw_cls [(b0, .inr (1, [.int rc, .ref bS, .ref bC, .int rv, .ref bW, .int rp, .ref bCe, .ref bA, .ref bB, .ref bM, .int rf, .ref bG, .ref bK, .ref bCa, .ref bL, .int rd, .int rg, .int re, .ref bO, .int rl, .int rq, .int rb, .long rz])), (bS, .inl (cI, 5, .inl uS)), (bC, .inl (cI, 5, .inl uC)), (bK, .inl (cZ, 256, .inl uK))] U.heap ∧ g_K dC dI [(cI, .int), (cZ, .boolean), (cQ, (.object "SettingSearch$Answers"))] U ∧ va_D (fun _ => True) [(b0, .inr (1, [.int rc, .ref bS, .ref bC, .int rv, .ref bW, .int rp, .ref bCe, .ref bA, .ref bB, .ref bM, .int rf, .ref bG, .ref bK, .ref bCa, .ref bL, .int rd, .int rg, .int re, .ref bO, .int rl, .int rq, .int rb, .long rz])), (bS, .inl (cI, 5, .inl uS)), (bC, .inl (cI, 5, .inl uC)), (bK, .inl (cZ, 256, .inl uK))])) (va_Qi (fun (r : Int32) (u : Int32 × Int32 × (Nat → Int32) × (Nat → Int32) × (Nat → Int32) × Int32 × Int32 × Int32 × Int32) => (rg = 0 ∧ q_addOk rc rv k1 ∧ r = rc ∧ u.1 = rc + 1 ∧ u.2.1 = rv * k1 ∧ u.2.2.1 = upd uS nc k1 ∧ u.2.2.2.1 = upd uC nc 0 ∧ u.2.2.2.2.1 = q_z uK 0 256 ∧ u.2.2.2.2.2.1 = 0 ∧ u.2.2.2.2.2.2.1 = -1 ∧ u.2.2.2.2.2.2.2.1 = 0 ∧ u.2.2.2.2.2.2.2.2 = -1) ∨ (¬ (rg = 0 ∧ q_addOk rc rv k1) ∧ r = -1 ∧ u.1 = rc ∧ u.2.1 = rv ∧ u.2.2.1 = uS ∧ u.2.2.2.1 = uC ∧ u.2.2.2.2.1 = uK ∧ u.2.2.2.2.2.1 = rf ∧ u.2.2.2.2.2.2.1 = rd ∧ u.2.2.2.2.2.2.2.1 = re ∧ u.2.2.2.2.2.2.2.2 = rb)) (fun (u : Int32 × Int32 × (Nat → Int32) × (Nat → Int32) × (Nat → Int32) × Int32 × Int32 × Int32 × Int32) (t : State) => va_P (dC, dI) vw_cls [(b0, .inr (1, [.int u.1, .ref bS, .ref bC, .int u.2.1, .ref bW, .int rp, .ref bCe, .ref bA, .ref bB, .ref bM, .int u.2.2.2.2.2.1, .ref bG, .ref bK, .ref bCa, .ref bL, .int u.2.2.2.2.2.2.1, .int rg, .int u.2.2.2.2.2.2.2.1, .ref bO, .int rl, .int rq, .int u.2.2.2.2.2.2.2.2, .long rz])), (bS, .inl (cI, 5, .inl u.2.2.1)), (bC, .inl (cI, 5, .inl u.2.2.2.1)), (bK, .inl (cZ, 256, .inl u.2.2.2.2.1))] t.heap ∧ va_D (va_A [(b0, .inr (1, [.int rc, .ref bS, .ref bC, .int rv, .ref bW, .int rp, .ref bCe, .ref bA, .ref bB, .ref bM, .int rf, .ref bG, .ref bK, .ref bCa, .ref bL, .int rd, .int rg, .int re, .ref bO, .int rl, .int rq, .int rb, .long rz])), (bS, .inl (cI, 5, .inl uS)), (bC, .inl (cI, 5, .inl uC)), (bK, .inl (cZ, 256, .inl uK))] sz) [(b0, .inr (1, [.int u.1, .ref bS, .ref bC, .int u.2.1, .ref bW, .int rp, .ref bCe, .ref bA, .ref bB, .ref bM, .int u.2.2.2.2.2.1, .ref bG, .ref bK, .ref bCa, .ref bL, .int u.2.2.2.2.2.2.1, .int rg, .int u.2.2.2.2.2.2.2.1, .ref bO, .int rl, .int rq, .int u.2.2.2.2.2.2.2.2, .long rz])), (bS, .inl (cI, 5, .inl u.2.2.1)), (bC, .inl (cI, 5, .inl u.2.2.2.1)), (bK, .inl (cZ, 256, .inl u.2.2.2.2.1))]) (va_A [(b0, .inr (1, [.int rc, .ref bS, .ref bC, .int rv, .ref bW, .int rp, .ref bCe, .ref bA, .ref bB, .ref bM, .int rf, .ref bG, .ref bK, .ref bCa, .ref bL, .int rd, .int rg, .int re, .ref bO, .int rl, .int rq, .int rb, .long rz])), (bS, .inl (cI, 5, .inl uS)), (bC, .inl (cI, 5, .inl uC)), (bK, .inl (cZ, 256, .inl uK))] sz)) 0 0 (va_A [(b0, .inr (1, [.int rc, .ref bS, .ref bC, .int rv, .ref bW, .int rp, .ref bCe, .ref bA, .ref bB, .ref bM, .int rf, .ref bG, .ref bK, .ref bCa, .ref bL, .int rd, .int rg, .int re, .ref bO, .int rl, .int rq, .int rb, .long rz])), (bS, .inl (cI, 5, .inl uS)), (bC, .inl (cI, 5, .inl uC)), (bK, .inl (cZ, 256, .inl uK))] sz) := by
  refine Met.ofW (cc := b_Ref_machine) (maxL := 3) (ret := (some .int)) (by decide) rfl ?_
  intro p e s m args below meth c s₁ B hml hv
  obtain ⟨rfl, hsz, hP, hKN, hD0⟩ := hv
  obtain ⟨hK, hN⟩ := id hKN
  have hx := B.exec
  have hb := B.bytes
  have hr := B.returns
  have hts0 := atoms_spec (ws := w_Ref_machine) B.pre
  have hts : ∀ w ∈ lw_g, w.before _ s = true := fun w h => hts0 w (List.mem_cons_of_mem _ h)
  have hown : s.vm.findClass R_Ref = some m.cls := findClass_of_methodNamed B.named
  have hlocks := B.notSynchronized
  subst hsz
  have hD := hD0.self (sz := s.heap.size)
  generalize hAe : va_A [(b0, .inr (1, [.int rc, .ref bS, .ref bC, .int rv, .ref bW, .int rp, .ref bCe, .ref bA, .ref bB, .ref bM, .int rf, .ref bG, .ref bK, .ref bCa, .ref bL, .int rd, .int rg, .int re, .ref bO, .int rl, .int rq, .int rb, .long rz])), (bS, .inl (cI, 5, .inl uS)), (bC, .inl (cI, 5, .inl uC)), (bK, .inl (cZ, 256, .inl uK))] s.heap.size = A at hD ⊢
  have hA : ∀ q : Nat, s.heap.size ≤ q → A q := fun q h => by rw [← hAe]; exact Or.inr h
  have hP : va_P (dC, dI) vw_cls [(b0, .inr (1, [.int rc, .ref bS, .ref bC, .int rv, .ref bW, .int rp, .ref bCe, .ref bA, .ref bB, .ref bM, .int rf, .ref bG, .ref bK, .ref bCa, .ref bL, .int rd, .int rg, .int re, .ref bO, .int rl, .int rq, .int rb, .long rz])), (bS, .inl (cI, 5, .inl uS)), (bC, .inl (cI, 5, .inl uC)), (bK, .inl (cZ, 256, .inl uK))] s.heap := hP
  have hl := lv_entry ([.ref b0, .int k1]) (n := 3) (Nat.le_of_ble_eq_true rfl)
  rw [lg_entry_eq]
  generalize (lg_sl ([.ref b0, .int k1]) ++ List.replicate (3 - (lg_sl ([.ref b0, .int k1])).length) Slot.unset).toArray = ls at hl ⊢
  have hl : lv_has ls 3 [(0, .ref b0), (1, .int k1)] := hl
  refine gw_start (fun H locs hH hlocs => ?_)
  rw [← hH] at hP
  have hS : va_S A s.heap H locs := by rw [hH, hlocs]; exact va_S.rf
  refine lv_aload_n hx hb d_Ref_machine_0 rfl (lv_at hl 0 rfl) ?_
  refine va_get (D := (dC, dI)) (ci := 1) (v := .int rg) (C := R_Ref) (T := T_Ref) (N := 23) hx hb hts in_Ref hown hK hP 0 rfl rfl 16 (by decide) (hts _ tw_445) (fun _ h9 => h9) rfl d_Ref_machine_1 ?_
  refine lv_if_ne (tgt := 38) hx hb d_Ref_machine_4 (by decide) (fun c_1 => ?_) (fun c_1 => ?_)
  · skip
    have hbad : ¬ (rg = 0 ∧ q_addOk rc rv k1) := fun z => c_1 z.1
    refine lv_iconst (v := (-1)) hx hb d_Ref_machine_38 (by decide) ?_
    have hP9 := hP.sub (ws' := [(b0, .inr (1, [.int rc, .ref bS, .ref bC, .int rv, .ref bW, .int rp, .ref bCe, .ref bA, .ref bB, .ref bM, .int rf, .ref bG, .ref bK, .ref bCa, .ref bL, .int rd, .int rg, .int re, .ref bO, .int rl, .int rq, .int rb, .long rz])), (bS, .inl (cI, 5, .inl uS)), (bC, .inl (cI, 5, .inl uC)), (bK, .inl (cZ, 256, .inl uK))]) [0, 1, 2, 3] rfl
    have hD9 := hD.sub (ws' := [(b0, .inr (1, [.int rc, .ref bS, .ref bC, .int rv, .ref bW, .int rp, .ref bCe, .ref bA, .ref bB, .ref bM, .int rf, .ref bG, .ref bK, .ref bCa, .ref bL, .int rd, .int rg, .int re, .ref bO, .int rl, .int rq, .int rb, .long rz])), (bS, .inl (cI, 5, .inl uS)), (bC, .inl (cI, 5, .inl uC)), (bK, .inl (cZ, 256, .inl uK))]) [0, 1, 2, 3] (by decide) rfl
    have hpost_2 : (rg = 0 ∧ q_addOk rc rv k1 ∧ ((-1) : Int32) = rc ∧ rc = rc + 1 ∧ rv = rv * k1 ∧ uS = upd uS nc k1 ∧ uC = upd uC nc 0 ∧ uK = q_z uK 0 256 ∧ rf = 0 ∧ rd = -1 ∧ re = 0 ∧ rb = -1) ∨ (¬ (rg = 0 ∧ q_addOk rc rv k1) ∧ ((-1) : Int32) = -1 ∧ rc = rc ∧ rv = rv ∧ uS = uS ∧ uC = uC ∧ uK = uK ∧ rf = rf ∧ rd = rd ∧ re = re ∧ rb = rb) := Or.inr ⟨hbad, rfl, rfl, rfl, rfl, rfl, rfl, rfl, rfl, rfl, rfl⟩
    exact W.iret (v := (-1)) hx hb hr (fun t ht hW => ⟨⟨(-1), (rc, rv, uS, uC, uK, rf, rd, re, rb), rfl, hpost_2, by rw [ht]; exact hP9, hD9⟩, hS.F ht⟩) hS.2.2 d_Ref_machine_39
  · skip
    have cg : rg = 0 := c_1
    refine lv_aload_n hx hb d_Ref_machine_7 rfl (lv_at hl 0 rfl) ?_
    refine va_get (D := (dC, dI)) (ci := 1) (v := .int rc) (C := R_Ref) (T := T_Ref) (N := 23) hx hb hts in_Ref hown hK hP 0 rfl rfl 0 (by decide) (hts _ tw_429) (fun _ h9 => h9) rfl d_Ref_machine_8 ?_
    refine lv_iconst (v := 5) hx hb d_Ref_machine_11 (by decide) ?_
    refine lv_icmp_eq (tgt := 38) hx hb d_Ref_machine_12 (by decide) (fun c_3 => ?_) (fun c_3 => ?_)
    · skip
      have hbad : ¬ (rg = 0 ∧ q_addOk rc rv k1) := fun z => z.2.1 (by rw [show rc = 5 from c_3]; decide)
      refine lv_iconst (v := (-1)) hx hb d_Ref_machine_38 (by decide) ?_
      have hP9 := hP.sub (ws' := [(b0, .inr (1, [.int rc, .ref bS, .ref bC, .int rv, .ref bW, .int rp, .ref bCe, .ref bA, .ref bB, .ref bM, .int rf, .ref bG, .ref bK, .ref bCa, .ref bL, .int rd, .int rg, .int re, .ref bO, .int rl, .int rq, .int rb, .long rz])), (bS, .inl (cI, 5, .inl uS)), (bC, .inl (cI, 5, .inl uC)), (bK, .inl (cZ, 256, .inl uK))]) [0, 1, 2, 3] rfl
      have hD9 := hD.sub (ws' := [(b0, .inr (1, [.int rc, .ref bS, .ref bC, .int rv, .ref bW, .int rp, .ref bCe, .ref bA, .ref bB, .ref bM, .int rf, .ref bG, .ref bK, .ref bCa, .ref bL, .int rd, .int rg, .int re, .ref bO, .int rl, .int rq, .int rb, .long rz])), (bS, .inl (cI, 5, .inl uS)), (bC, .inl (cI, 5, .inl uC)), (bK, .inl (cZ, 256, .inl uK))]) [0, 1, 2, 3] (by decide) rfl
      have hpost_4 : (rg = 0 ∧ q_addOk rc rv k1 ∧ ((-1) : Int32) = rc ∧ rc = rc + 1 ∧ rv = rv * k1 ∧ uS = upd uS nc k1 ∧ uC = upd uC nc 0 ∧ uK = q_z uK 0 256 ∧ rf = 0 ∧ rd = -1 ∧ re = 0 ∧ rb = -1) ∨ (¬ (rg = 0 ∧ q_addOk rc rv k1) ∧ ((-1) : Int32) = -1 ∧ rc = rc ∧ rv = rv ∧ uS = uS ∧ uC = uC ∧ uK = uK ∧ rf = rf ∧ rd = rd ∧ re = re ∧ rb = rb) := Or.inr ⟨hbad, rfl, rfl, rfl, rfl, rfl, rfl, rfl, rfl, rfl, rfl⟩
      exact W.iret (v := (-1)) hx hb hr (fun t ht hW => ⟨⟨(-1), (rc, rv, uS, uC, uK, rf, rd, re, rb), rfl, hpost_4, by rw [ht]; exact hP9, hD9⟩, hS.F ht⟩) hS.2.2 d_Ref_machine_39
    · skip
      have ca : ¬ 5 ≤ rc := fun q => c_3 (by rw [hrc] at q ⊢; have := (nI_leI (by decide) (by omega)).mp (show nI 5 ≤ nI nc from q); rw [show nc = 5 by omega]; rfl)
      refine lv_iload_n hx hb d_Ref_machine_15 rfl (lv_at hl 1 rfl) ?_
      refine lv_i2l hx hb d_Ref_machine_16 rfl ?_
      refine lv_topl (fun v_5 ev_5 => ?_)
      refine lv_lconst (v := 1) hx hb d_Ref_machine_17 (by decide) ?_
      refine lv_ldc2 (v := 4) hx hb hown (hts _ tw_503) d_Ref_machine_18 ?_
      have hPc := hP.sub (ws' := []) [] rfl
      have hDc := hD.sub (ws' := []) [] (by decide) rfl
      have hFc := va_free (wc := []) hD hS hA [] rfl
      refine va_calli (va_runS (As := [.long v_5, .long 1, .long 4]) (rest := []) ⟨hx, hb, hml, hown, hts⟩ (m_isIn l dC dI H.size cI cZ cQ v_5 1 4 ) ⟨(callB_of 3 hts (ga_all tw_506) rfl rfl rfl (hts _ tw_29) (hts _ tw_504) (by decide +kernel) ⟨Nat.le_of_ble_eq_true rfl, Nat.le_of_ble_eq_true rfl⟩), hts _ tw_505⟩ ⟨fun a U g mk q => by obtain ⟨q0, q1, qP, qK, qD⟩ := q; exact ⟨q0, q1, qP, g_K.same (u := U) (U := U.calling g mk a) rfl qK, qD⟩, fun U hU hW => ⟨rfl, by rw [hU], by rw [hU]; exact hPc, g_K.warm hW hKN, hDc.weaken (fun _ _ _ _ => trivial)⟩⟩ rfl rfl hl.1 rfl (lv_room (Nat.le_of_ble_eq_true rfl)) d_Ref_machine_21 ⟨Nat.le_of_ble_eq_true rfl, Nat.le_of_ble_eq_true rfl⟩) hS (fun q _ h => hFc q h) hFc (fun r_6 u t H1 locs htt hvm hw_7 hBB hzz hkk hS => ?_)
      have hw_7 : r_6 = q_isIn v_5 1 4 := hw_7
      obtain ⟨hPP, hDD⟩ := hBB
      rw [htt] at hPP
      have hPP : va_P (dC, dI) vw_cls [] H1 := hPP
      have hDD : va_D (va_A [] H.size) [] := hDD
      obtain ⟨hP, hD⟩ := va_join (wr := [(b0, .inr (1, [.int rc, .ref bS, .ref bC, .int rv, .ref bW, .int rp, .ref bCe, .ref bA, .ref bB, .ref bM, .int rf, .ref bG, .ref bK, .ref bCa, .ref bL, .int rd, .int rg, .int re, .ref bO, .int rl, .int rq, .int rb, .long rz])), (bS, .inl (cI, 5, .inl uS)), (bC, .inl (cI, 5, .inl uC)), (bK, .inl (cZ, 256, .inl uK))]) (w1 := []) hP hD [] [0, 1, 2, 3] rfl rfl (by decide) (by decide) hkk hFc hPP hDD
      generalize H1 = H at hP hS ⊢
      have hP : va_P (dC, dI) vw_cls [(b0, .inr (1, [.int rc, .ref bS, .ref bC, .int rv, .ref bW, .int rp, .ref bCe, .ref bA, .ref bB, .ref bM, .int rf, .ref bG, .ref bK, .ref bCa, .ref bL, .int rd, .int rg, .int re, .ref bO, .int rl, .int rq, .int rb, .long rz])), (bS, .inl (cI, 5, .inl uS)), (bC, .inl (cI, 5, .inl uC)), (bK, .inl (cZ, 256, .inl uK))] H := hP
      have hD : va_D A [(b0, .inr (1, [.int rc, .ref bS, .ref bC, .int rv, .ref bW, .int rp, .ref bCe, .ref bA, .ref bB, .ref bM, .int rf, .ref bG, .ref bK, .ref bCa, .ref bL, .int rd, .int rg, .int re, .ref bO, .int rl, .int rq, .int rb, .long rz])), (bS, .inl (cI, 5, .inl uS)), (bC, .inl (cI, 5, .inl uC)), (bK, .inl (cZ, 256, .inl uK))] := hD
      refine lv_if_eq (tgt := 38) hx hb d_Ref_machine_24 (by decide) (fun c_8 => ?_) (fun c_8 => ?_)
      · skip
        have ck := ir_out (x := k1) (a := 1) (b := 4) (by show q_isIn k1.toInt64 1 4 = 0; rw [← ev_5, ← hw_7]; exact c_8)
        have hbad : ¬ (rg = 0 ∧ q_addOk rc rv k1) := fun z => ck.elim z.2.2.1 z.2.2.2.1
        refine lv_iconst (v := (-1)) hx hb d_Ref_machine_38 (by decide) ?_
        have hP9 := hP.sub (ws' := [(b0, .inr (1, [.int rc, .ref bS, .ref bC, .int rv, .ref bW, .int rp, .ref bCe, .ref bA, .ref bB, .ref bM, .int rf, .ref bG, .ref bK, .ref bCa, .ref bL, .int rd, .int rg, .int re, .ref bO, .int rl, .int rq, .int rb, .long rz])), (bS, .inl (cI, 5, .inl uS)), (bC, .inl (cI, 5, .inl uC)), (bK, .inl (cZ, 256, .inl uK))]) [0, 1, 2, 3] rfl
        have hD9 := hD.sub (ws' := [(b0, .inr (1, [.int rc, .ref bS, .ref bC, .int rv, .ref bW, .int rp, .ref bCe, .ref bA, .ref bB, .ref bM, .int rf, .ref bG, .ref bK, .ref bCa, .ref bL, .int rd, .int rg, .int re, .ref bO, .int rl, .int rq, .int rb, .long rz])), (bS, .inl (cI, 5, .inl uS)), (bC, .inl (cI, 5, .inl uC)), (bK, .inl (cZ, 256, .inl uK))]) [0, 1, 2, 3] (by decide) rfl
        have hpost_9 : (rg = 0 ∧ q_addOk rc rv k1 ∧ ((-1) : Int32) = rc ∧ rc = rc + 1 ∧ rv = rv * k1 ∧ uS = upd uS nc k1 ∧ uC = upd uC nc 0 ∧ uK = q_z uK 0 256 ∧ rf = 0 ∧ rd = -1 ∧ re = 0 ∧ rb = -1) ∨ (¬ (rg = 0 ∧ q_addOk rc rv k1) ∧ ((-1) : Int32) = -1 ∧ rc = rc ∧ rv = rv ∧ uS = uS ∧ uC = uC ∧ uK = uK ∧ rf = rf ∧ rd = rd ∧ re = re ∧ rb = rb) := Or.inr ⟨hbad, rfl, rfl, rfl, rfl, rfl, rfl, rfl, rfl, rfl, rfl⟩
        exact W.iret (v := (-1)) hx hb hr (fun t ht hW => ⟨⟨(-1), (rc, rv, uS, uC, uK, rf, rd, re, rb), rfl, hpost_9, by rw [ht]; exact hP9, hD9⟩, hS.F ht⟩) hS.2.2 d_Ref_machine_39
      · skip
        have ck := ir_in (x := k1) (a := 1) (b := 4) (by show ¬ q_isIn k1.toInt64 1 4 = 0; rw [← ev_5, ← hw_7]; exact c_8)
        refine lv_aload_n hx hb d_Ref_machine_27 rfl (lv_at hl 0 rfl) ?_
        refine va_get (D := (dC, dI)) (ci := 1) (v := .int rv) (C := R_Ref) (T := T_Ref) (N := 23) hx hb hts in_Ref hown hK hP 0 rfl rfl 3 (by decide) (hts _ tw_432) (fun _ h9 => h9) rfl d_Ref_machine_28 ?_
        refine lv_iload_n hx hb d_Ref_machine_31 rfl (lv_at hl 1 rfl) ?_
        refine lv_imul hx hb d_Ref_machine_32 ?_
        refine lv_topi (fun v_10 ev_10 => ?_)
        refine lv_bipush (v := 64) hx hb d_Ref_machine_33 (by decide) ?_
        refine lv_icmp_le (tgt := 40) hx hb d_Ref_machine_35 (by decide) (fun c_11 => ?_) (fun c_11 => ?_)
        · skip
          have hok : q_addOk rc rv k1 := ⟨ca, ck.1, ck.2, fun q => absurd (by rw [ev_10] at c_11; exact c_11) (Int32.not_le.mpr q)⟩
          obtain ⟨hnc1, kk, ekk, hkk1, hkk4, evk, hvk⟩ := q_add_fit hok hrc hrv hnc hnv hnv1
          refine lv_aload_n hx hb d_Ref_machine_40 rfl (lv_at hl 0 rfl) ?_
          refine va_get (D := (dC, dI)) (ci := 1) (v := .ref bS) (C := R_Ref) (T := T_Ref) (N := 23) hx hb hts in_Ref hown hK hP 0 rfl rfl 1 (by decide) (hts _ tw_430) (fun _ h9 => h9) rfl d_Ref_machine_41 ?_
          refine lv_aload_n hx hb d_Ref_machine_44 rfl (lv_at hl 0 rfl) ?_
          refine va_get (D := (dC, dI)) (ci := 1) (v := .int rc) (C := R_Ref) (T := T_Ref) (N := 23) hx hb hts in_Ref hown hK hP 0 rfl rfl 0 (by decide) (hts _ tw_429) (fun _ h9 => h9) rfl d_Ref_machine_45 ?_
          refine lv_iload_n hx hb d_Ref_machine_48 rfl (lv_at hl 1 rfl) ?_
          have eh_12 : rc = nI (nc) := hrc
          have bh_12 : nc < 5 := by omega
          have h_12 : vp_in rc 5 := by rw [eh_12]; exact vp_in_nI bh_12 (by decide)
          have kh_12 : rc.toNatClampNeg = nc := by rw [eh_12]; exact nI_clamp (by omega)
          refine va_iast hx hb hK hP hD hS 1 0 rfl rfl h_12 d_Ref_machine_49 (fun H locs hP hD hS => ?_)
          rw [kh_12] at hP hD
          obtain ⟨uS2, euS2⟩ : ∃ y : Nat → Int32, y = upd uS (nc) k1 := ⟨_, rfl⟩
          rw [← euS2] at hP hD
          have hP : va_P (dC, dI) vw_cls [(b0, .inr (1, [.int rc, .ref bS, .ref bC, .int rv, .ref bW, .int rp, .ref bCe, .ref bA, .ref bB, .ref bM, .int rf, .ref bG, .ref bK, .ref bCa, .ref bL, .int rd, .int rg, .int re, .ref bO, .int rl, .int rq, .int rb, .long rz])), (bS, .inl (cI, 5, .inl uS2)), (bC, .inl (cI, 5, .inl uC)), (bK, .inl (cZ, 256, .inl uK))] H := hP
          have hD : va_D A [(b0, .inr (1, [.int rc, .ref bS, .ref bC, .int rv, .ref bW, .int rp, .ref bCe, .ref bA, .ref bB, .ref bM, .int rf, .ref bG, .ref bK, .ref bCa, .ref bL, .int rd, .int rg, .int re, .ref bO, .int rl, .int rq, .int rb, .long rz])), (bS, .inl (cI, 5, .inl uS2)), (bC, .inl (cI, 5, .inl uC)), (bK, .inl (cZ, 256, .inl uK))] := hD
          refine lv_aload_n hx hb d_Ref_machine_50 rfl (lv_at hl 0 rfl) ?_
          refine va_get (D := (dC, dI)) (ci := 1) (v := .ref bC) (C := R_Ref) (T := T_Ref) (N := 23) hx hb hts in_Ref hown hK hP 0 rfl rfl 2 (by decide) (hts _ tw_431) (fun _ h9 => h9) rfl d_Ref_machine_51 ?_
          refine lv_aload_n hx hb d_Ref_machine_54 rfl (lv_at hl 0 rfl) ?_
          refine va_get (D := (dC, dI)) (ci := 1) (v := .int rc) (C := R_Ref) (T := T_Ref) (N := 23) hx hb hts in_Ref hown hK hP 0 rfl rfl 0 (by decide) (hts _ tw_429) (fun _ h9 => h9) rfl d_Ref_machine_55 ?_
          refine lv_iconst (v := 0) hx hb d_Ref_machine_58 (by decide) ?_
          have eh_13 : rc = nI (nc) := hrc
          have bh_13 : nc < 5 := by omega
          have h_13 : vp_in rc 5 := by rw [eh_13]; exact vp_in_nI bh_13 (by decide)
          have kh_13 : rc.toNatClampNeg = nc := by rw [eh_13]; exact nI_clamp (by omega)
          refine va_iast hx hb hK hP hD hS 2 0 rfl rfl h_13 d_Ref_machine_59 (fun H locs hP hD hS => ?_)
          rw [kh_13] at hP hD
          obtain ⟨uC2, euC2⟩ : ∃ y : Nat → Int32, y = upd uC (nc) 0 := ⟨_, rfl⟩
          rw [← euC2] at hP hD
          have hP : va_P (dC, dI) vw_cls [(b0, .inr (1, [.int rc, .ref bS, .ref bC, .int rv, .ref bW, .int rp, .ref bCe, .ref bA, .ref bB, .ref bM, .int rf, .ref bG, .ref bK, .ref bCa, .ref bL, .int rd, .int rg, .int re, .ref bO, .int rl, .int rq, .int rb, .long rz])), (bS, .inl (cI, 5, .inl uS2)), (bC, .inl (cI, 5, .inl uC2)), (bK, .inl (cZ, 256, .inl uK))] H := hP
          have hD : va_D A [(b0, .inr (1, [.int rc, .ref bS, .ref bC, .int rv, .ref bW, .int rp, .ref bCe, .ref bA, .ref bB, .ref bM, .int rf, .ref bG, .ref bK, .ref bCa, .ref bL, .int rd, .int rg, .int re, .ref bO, .int rl, .int rq, .int rb, .long rz])), (bS, .inl (cI, 5, .inl uS2)), (bC, .inl (cI, 5, .inl uC2)), (bK, .inl (cZ, 256, .inl uK))] := hD
          refine lv_aload_n hx hb d_Ref_machine_60 rfl (lv_at hl 0 rfl) ?_
          refine lv_dup hx hb d_Ref_machine_61 rfl ?_
          refine va_get (D := (dC, dI)) (ci := 1) (v := .int rc) (C := R_Ref) (T := T_Ref) (N := 23) hx hb hts in_Ref hown hK hP 0 rfl rfl 0 (by decide) (hts _ tw_429) (fun _ h9 => h9) rfl d_Ref_machine_62 ?_
          refine lv_iconst (v := 1) hx hb d_Ref_machine_65 (by decide) ?_
          refine lv_iadd hx hb d_Ref_machine_66 ?_
          refine lv_topi (fun v_14 ev_14 => ?_)
          refine va_put (D := (dC, dI)) (ci := 1) (v := .int v_14) (ty := .int) (C := R_Ref) (T := T_Ref) (N := 23) hx hb hts in_Ref ty_Ref ty_Ref_ok nm_Ref hown hK hP hD hS 0 rfl rfl 0 (by decide) (hts _ tw_429) (fun _ h9 => h9) rfl (by decide +kernel) rfl rfl (Nat.le_of_ble_eq_true rfl) d_Ref_machine_67 (fun H locs hP hD hS => ?_)
          have hP : va_P (dC, dI) vw_cls [(b0, .inr (1, [.int v_14, .ref bS, .ref bC, .int rv, .ref bW, .int rp, .ref bCe, .ref bA, .ref bB, .ref bM, .int rf, .ref bG, .ref bK, .ref bCa, .ref bL, .int rd, .int rg, .int re, .ref bO, .int rl, .int rq, .int rb, .long rz])), (bS, .inl (cI, 5, .inl uS2)), (bC, .inl (cI, 5, .inl uC2)), (bK, .inl (cZ, 256, .inl uK))] H := hP
          have hD : va_D A [(b0, .inr (1, [.int v_14, .ref bS, .ref bC, .int rv, .ref bW, .int rp, .ref bCe, .ref bA, .ref bB, .ref bM, .int rf, .ref bG, .ref bK, .ref bCa, .ref bL, .int rd, .int rg, .int re, .ref bO, .int rl, .int rq, .int rb, .long rz])), (bS, .inl (cI, 5, .inl uS2)), (bC, .inl (cI, 5, .inl uC2)), (bK, .inl (cZ, 256, .inl uK))] := hD
          refine lv_aload_n hx hb d_Ref_machine_70 rfl (lv_at hl 0 rfl) ?_
          refine lv_dup hx hb d_Ref_machine_71 rfl ?_
          refine va_get (D := (dC, dI)) (ci := 1) (v := .int rv) (C := R_Ref) (T := T_Ref) (N := 23) hx hb hts in_Ref hown hK hP 0 rfl rfl 3 (by decide) (hts _ tw_432) (fun _ h9 => h9) rfl d_Ref_machine_72 ?_
          refine lv_iload_n hx hb d_Ref_machine_75 rfl (lv_at hl 1 rfl) ?_
          refine lv_imul hx hb d_Ref_machine_76 ?_
          refine lv_topi (fun v_15 ev_15 => ?_)
          refine va_put (D := (dC, dI)) (ci := 1) (v := .int v_15) (ty := .int) (C := R_Ref) (T := T_Ref) (N := 23) hx hb hts in_Ref ty_Ref ty_Ref_ok nm_Ref hown hK hP hD hS 0 rfl rfl 3 (by decide) (hts _ tw_432) (fun _ h9 => h9) rfl (by decide +kernel) rfl rfl (Nat.le_of_ble_eq_true rfl) d_Ref_machine_77 (fun H locs hP hD hS => ?_)
          have hP : va_P (dC, dI) vw_cls [(b0, .inr (1, [.int v_14, .ref bS, .ref bC, .int v_15, .ref bW, .int rp, .ref bCe, .ref bA, .ref bB, .ref bM, .int rf, .ref bG, .ref bK, .ref bCa, .ref bL, .int rd, .int rg, .int re, .ref bO, .int rl, .int rq, .int rb, .long rz])), (bS, .inl (cI, 5, .inl uS2)), (bC, .inl (cI, 5, .inl uC2)), (bK, .inl (cZ, 256, .inl uK))] H := hP
          have hD : va_D A [(b0, .inr (1, [.int v_14, .ref bS, .ref bC, .int v_15, .ref bW, .int rp, .ref bCe, .ref bA, .ref bB, .ref bM, .int rf, .ref bG, .ref bK, .ref bCa, .ref bL, .int rd, .int rg, .int re, .ref bO, .int rl, .int rq, .int rb, .long rz])), (bS, .inl (cI, 5, .inl uS2)), (bC, .inl (cI, 5, .inl uC2)), (bK, .inl (cZ, 256, .inl uK))] := hD
          refine lv_iconst (v := 0) hx hb d_Ref_machine_80 (by decide) ?_
          refine lv_istore_n (lv' := [(2, .int 0), (0, .ref b0), (1, .int k1)]) hx hb d_Ref_machine_81 rfl hl (by decide) rfl (fun ls hl => ?_)
          have e_rc : v_14 = rc + 1 := ev_14
          have e_rv : v_15 = rv * k1 := ev_15
          refine L_rm hx hb hml hown hts hA cI cZ cQ b0 rc bS bC rv bW rp bCe bA bB bM rf bG bK bCa bL rd rg re bO rl rq rb rz uS uC uK k1 nc nv v_14 v_15 uS2 uC2 hrc hnc hrv hnv hnv1 hKN ?_ (256 - 0 + 1) 0 0 uK (Nat.zero_le _) rfl rfl (Nat.lt_succ_self _) H locs (hP.sub [0, 1, 2, 3] rfl) (hD.sub [0, 1, 2, 3] (by decide) rfl) hS ls (lv_sub hl [1, 2, 0] rfl)
          intro i xi g hi exi eg hendi H locs hP hD hS ls hl
          have hl : lv_has ls 3 [(0, .ref b0), (1, .int k1), (2, .int xi)] := hl
          have hP : va_P (dC, dI) vw_cls [(b0, .inr (1, [.int v_14, .ref bS, .ref bC, .int v_15, .ref bW, .int rp, .ref bCe, .ref bA, .ref bB, .ref bM, .int rf, .ref bG, .ref bK, .ref bCa, .ref bL, .int rd, .int rg, .int re, .ref bO, .int rl, .int rq, .int rb, .long rz])), (bS, .inl (cI, 5, .inl uS2)), (bC, .inl (cI, 5, .inl uC2)), (bK, .inl (cZ, 256, .inl g))] H := hP
          have hD : va_D A [(b0, .inr (1, [.int v_14, .ref bS, .ref bC, .int v_15, .ref bW, .int rp, .ref bCe, .ref bA, .ref bB, .ref bM, .int rf, .ref bG, .ref bK, .ref bCa, .ref bL, .int rd, .int rg, .int re, .ref bO, .int rl, .int rq, .int rb, .long rz])), (bS, .inl (cI, 5, .inl uS2)), (bC, .inl (cI, 5, .inl uC2)), (bK, .inl (cZ, 256, .inl g))] := hD
          refine lv_aload_n hx hb d_Ref_machine_102 rfl (lv_at hl 0 rfl) ?_
          refine lv_iconst (v := 0) hx hb d_Ref_machine_103 (by decide) ?_
          refine va_put (D := (dC, dI)) (ci := 1) (v := .int 0) (ty := .int) (C := R_Ref) (T := T_Ref) (N := 23) hx hb hts in_Ref ty_Ref ty_Ref_ok nm_Ref hown hK hP hD hS 0 rfl rfl 10 (by decide) (hts _ tw_439) (fun _ h9 => h9) rfl (by decide +kernel) rfl rfl (Nat.le_of_ble_eq_true rfl) d_Ref_machine_104 (fun H locs hP hD hS => ?_)
          have hP : va_P (dC, dI) vw_cls [(b0, .inr (1, [.int v_14, .ref bS, .ref bC, .int v_15, .ref bW, .int rp, .ref bCe, .ref bA, .ref bB, .ref bM, .int 0, .ref bG, .ref bK, .ref bCa, .ref bL, .int rd, .int rg, .int re, .ref bO, .int rl, .int rq, .int rb, .long rz])), (bS, .inl (cI, 5, .inl uS2)), (bC, .inl (cI, 5, .inl uC2)), (bK, .inl (cZ, 256, .inl g))] H := hP
          have hD : va_D A [(b0, .inr (1, [.int v_14, .ref bS, .ref bC, .int v_15, .ref bW, .int rp, .ref bCe, .ref bA, .ref bB, .ref bM, .int 0, .ref bG, .ref bK, .ref bCa, .ref bL, .int rd, .int rg, .int re, .ref bO, .int rl, .int rq, .int rb, .long rz])), (bS, .inl (cI, 5, .inl uS2)), (bC, .inl (cI, 5, .inl uC2)), (bK, .inl (cZ, 256, .inl g))] := hD
          refine lv_aload_n hx hb d_Ref_machine_107 rfl (lv_at hl 0 rfl) ?_
          refine lv_iconst (v := (-1)) hx hb d_Ref_machine_108 (by decide) ?_
          refine va_put (D := (dC, dI)) (ci := 1) (v := .int (-1)) (ty := .int) (C := R_Ref) (T := T_Ref) (N := 23) hx hb hts in_Ref ty_Ref ty_Ref_ok nm_Ref hown hK hP hD hS 0 rfl rfl 15 (by decide) (hts _ tw_444) (fun _ h9 => h9) rfl (by decide +kernel) rfl rfl (Nat.le_of_ble_eq_true rfl) d_Ref_machine_109 (fun H locs hP hD hS => ?_)
          have hP : va_P (dC, dI) vw_cls [(b0, .inr (1, [.int v_14, .ref bS, .ref bC, .int v_15, .ref bW, .int rp, .ref bCe, .ref bA, .ref bB, .ref bM, .int 0, .ref bG, .ref bK, .ref bCa, .ref bL, .int (-1), .int rg, .int re, .ref bO, .int rl, .int rq, .int rb, .long rz])), (bS, .inl (cI, 5, .inl uS2)), (bC, .inl (cI, 5, .inl uC2)), (bK, .inl (cZ, 256, .inl g))] H := hP
          have hD : va_D A [(b0, .inr (1, [.int v_14, .ref bS, .ref bC, .int v_15, .ref bW, .int rp, .ref bCe, .ref bA, .ref bB, .ref bM, .int 0, .ref bG, .ref bK, .ref bCa, .ref bL, .int (-1), .int rg, .int re, .ref bO, .int rl, .int rq, .int rb, .long rz])), (bS, .inl (cI, 5, .inl uS2)), (bC, .inl (cI, 5, .inl uC2)), (bK, .inl (cZ, 256, .inl g))] := hD
          refine lv_aload_n hx hb d_Ref_machine_112 rfl (lv_at hl 0 rfl) ?_
          refine lv_iconst (v := 0) hx hb d_Ref_machine_113 (by decide) ?_
          refine va_put (D := (dC, dI)) (ci := 1) (v := .int 0) (ty := .boolean) (C := R_Ref) (T := T_Ref) (N := 23) hx hb hts in_Ref ty_Ref ty_Ref_ok nm_Ref hown hK hP hD hS 0 rfl rfl 17 (by decide) (hts _ tw_446) (fun _ h9 => h9) rfl (by decide +kernel) rfl rfl (Nat.le_of_ble_eq_true rfl) d_Ref_machine_114 (fun H locs hP hD hS => ?_)
          have hP : va_P (dC, dI) vw_cls [(b0, .inr (1, [.int v_14, .ref bS, .ref bC, .int v_15, .ref bW, .int rp, .ref bCe, .ref bA, .ref bB, .ref bM, .int 0, .ref bG, .ref bK, .ref bCa, .ref bL, .int (-1), .int rg, .int 0, .ref bO, .int rl, .int rq, .int rb, .long rz])), (bS, .inl (cI, 5, .inl uS2)), (bC, .inl (cI, 5, .inl uC2)), (bK, .inl (cZ, 256, .inl g))] H := hP
          have hD : va_D A [(b0, .inr (1, [.int v_14, .ref bS, .ref bC, .int v_15, .ref bW, .int rp, .ref bCe, .ref bA, .ref bB, .ref bM, .int 0, .ref bG, .ref bK, .ref bCa, .ref bL, .int (-1), .int rg, .int 0, .ref bO, .int rl, .int rq, .int rb, .long rz])), (bS, .inl (cI, 5, .inl uS2)), (bC, .inl (cI, 5, .inl uC2)), (bK, .inl (cZ, 256, .inl g))] := hD
          refine lv_aload_n hx hb d_Ref_machine_117 rfl (lv_at hl 0 rfl) ?_
          refine lv_iconst (v := (-1)) hx hb d_Ref_machine_118 (by decide) ?_
          refine va_put (D := (dC, dI)) (ci := 1) (v := .int (-1)) (ty := .int) (C := R_Ref) (T := T_Ref) (N := 23) hx hb hts in_Ref ty_Ref ty_Ref_ok nm_Ref hown hK hP hD hS 0 rfl rfl 21 (by decide) (hts _ tw_450) (fun _ h9 => h9) rfl (by decide +kernel) rfl rfl (Nat.le_of_ble_eq_true rfl) d_Ref_machine_119 (fun H locs hP hD hS => ?_)
          have hP : va_P (dC, dI) vw_cls [(b0, .inr (1, [.int v_14, .ref bS, .ref bC, .int v_15, .ref bW, .int rp, .ref bCe, .ref bA, .ref bB, .ref bM, .int 0, .ref bG, .ref bK, .ref bCa, .ref bL, .int (-1), .int rg, .int 0, .ref bO, .int rl, .int rq, .int (-1), .long rz])), (bS, .inl (cI, 5, .inl uS2)), (bC, .inl (cI, 5, .inl uC2)), (bK, .inl (cZ, 256, .inl g))] H := hP
          have hD : va_D A [(b0, .inr (1, [.int v_14, .ref bS, .ref bC, .int v_15, .ref bW, .int rp, .ref bCe, .ref bA, .ref bB, .ref bM, .int 0, .ref bG, .ref bK, .ref bCa, .ref bL, .int (-1), .int rg, .int 0, .ref bO, .int rl, .int rq, .int (-1), .long rz])), (bS, .inl (cI, 5, .inl uS2)), (bC, .inl (cI, 5, .inl uC2)), (bK, .inl (cZ, 256, .inl g))] := hD
          refine lv_aload_n hx hb d_Ref_machine_122 rfl (lv_at hl 0 rfl) ?_
          refine va_get (D := (dC, dI)) (ci := 1) (v := .int v_14) (C := R_Ref) (T := T_Ref) (N := 23) hx hb hts in_Ref hown hK hP 0 rfl rfl 0 (by decide) (hts _ tw_429) (fun _ h9 => h9) rfl d_Ref_machine_123 ?_
          refine lv_iconst (v := 1) hx hb d_Ref_machine_126 (by decide) ?_
          refine lv_isub hx hb d_Ref_machine_127 ?_
          refine lv_topi (fun v_16 ev_16 => ?_)
          have hP9 := hP.sub (ws' := [(b0, .inr (1, [.int v_14, .ref bS, .ref bC, .int v_15, .ref bW, .int rp, .ref bCe, .ref bA, .ref bB, .ref bM, .int 0, .ref bG, .ref bK, .ref bCa, .ref bL, .int (-1), .int rg, .int 0, .ref bO, .int rl, .int rq, .int (-1), .long rz])), (bS, .inl (cI, 5, .inl uS2)), (bC, .inl (cI, 5, .inl uC2)), (bK, .inl (cZ, 256, .inl g))]) [0, 1, 2, 3] rfl
          have hD9 := hD.sub (ws' := [(b0, .inr (1, [.int v_14, .ref bS, .ref bC, .int v_15, .ref bW, .int rp, .ref bCe, .ref bA, .ref bB, .ref bM, .int 0, .ref bG, .ref bK, .ref bCa, .ref bL, .int (-1), .int rg, .int 0, .ref bO, .int rl, .int rq, .int (-1), .long rz])), (bS, .inl (cI, 5, .inl uS2)), (bC, .inl (cI, 5, .inl uC2)), (bK, .inl (cZ, 256, .inl g))]) [0, 1, 2, 3] (by decide) rfl
          have hpost_17 : (rg = 0 ∧ q_addOk rc rv k1 ∧ (v_16 : Int32) = rc ∧ v_14 = rc + 1 ∧ v_15 = rv * k1 ∧ uS2 = upd uS nc k1 ∧ uC2 = upd uC nc 0 ∧ g = q_z uK 0 256 ∧ (0 : Int32) = 0 ∧ ((-1) : Int32) = -1 ∧ (0 : Int32) = 0 ∧ ((-1) : Int32) = -1) ∨ (¬ (rg = 0 ∧ q_addOk rc rv k1) ∧ (v_16 : Int32) = -1 ∧ v_14 = rc ∧ v_15 = rv ∧ uS2 = uS ∧ uC2 = uC ∧ g = uK ∧ (0 : Int32) = rf ∧ ((-1) : Int32) = rd ∧ (0 : Int32) = re ∧ ((-1) : Int32) = rb) := Or.inl ⟨cg, hok, by rw [ev_16, e_rc]; exact Int32.add_sub_cancel _ _, e_rc, e_rv, euS2, euC2, by rw [eg, hendi], rfl, rfl, rfl, rfl⟩
          exact W.iret (v := v_16) hx hb hr (fun t ht hW => ⟨⟨v_16, (v_14, v_15, uS2, uC2, g, 0, (-1), 0, (-1)), rfl, hpost_17, by rw [ht]; exact hP9, hD9⟩, hS.F ht⟩) hS.2.2 d_Ref_machine_128
        · skip
          have hbad : ¬ (rg = 0 ∧ q_addOk rc rv k1) := fun z => c_11 (by rw [ev_10]; exact Int32.not_lt.mp z.2.2.2.2)
          refine lv_iconst (v := (-1)) hx hb d_Ref_machine_38 (by decide) ?_
          have hP9 := hP.sub (ws' := [(b0, .inr (1, [.int rc, .ref bS, .ref bC, .int rv, .ref bW, .int rp, .ref bCe, .ref bA, .ref bB, .ref bM, .int rf, .ref bG, .ref bK, .ref bCa, .ref bL, .int rd, .int rg, .int re, .ref bO, .int rl, .int rq, .int rb, .long rz])), (bS, .inl (cI, 5, .inl uS)), (bC, .inl (cI, 5, .inl uC)), (bK, .inl (cZ, 256, .inl uK))]) [0, 1, 2, 3] rfl
          have hD9 := hD.sub (ws' := [(b0, .inr (1, [.int rc, .ref bS, .ref bC, .int rv, .ref bW, .int rp, .ref bCe, .ref bA, .ref bB, .ref bM, .int rf, .ref bG, .ref bK, .ref bCa, .ref bL, .int rd, .int rg, .int re, .ref bO, .int rl, .int rq, .int rb, .long rz])), (bS, .inl (cI, 5, .inl uS)), (bC, .inl (cI, 5, .inl uC)), (bK, .inl (cZ, 256, .inl uK))]) [0, 1, 2, 3] (by decide) rfl
          have hpost_18 : (rg = 0 ∧ q_addOk rc rv k1 ∧ ((-1) : Int32) = rc ∧ rc = rc + 1 ∧ rv = rv * k1 ∧ uS = upd uS nc k1 ∧ uC = upd uC nc 0 ∧ uK = q_z uK 0 256 ∧ rf = 0 ∧ rd = -1 ∧ re = 0 ∧ rb = -1) ∨ (¬ (rg = 0 ∧ q_addOk rc rv k1) ∧ ((-1) : Int32) = -1 ∧ rc = rc ∧ rv = rv ∧ uS = uS ∧ uC = uC ∧ uK = uK ∧ rf = rf ∧ rd = rd ∧ re = re ∧ rb = rb) := Or.inr ⟨hbad, rfl, rfl, rfl, rfl, rfl, rfl, rfl, rfl, rfl, rfl⟩
          exact W.iret (v := (-1)) hx hb hr (fun t ht hW => ⟨⟨(-1), (rc, rv, uS, uC, uK, rf, rd, re, rb), rfl, hpost_18, by rw [ht]; exact hP9, hD9⟩, hS.F ht⟩) hS.2.2 d_Ref_machine_39
set_option maxHeartbeats 4000000 in
set_option maxRecDepth 100000 in
/-- the reference: worth -/
theorem m_worth (l : Launch) (dC : Nat → ClassId) (dI : Nat → Nat → Nat) (sz : Nat) (cI : ClassId) (cZ : ClassId) (cQ : ClassId) (b0 : Nat) (rc : Int32) (bS : Nat) (bC : Nat) (rv : Int32) (bW : Nat) (rp : Int32) (bCe : Nat) (bA : Nat) (bB : Nat) (bM : Nat) (rf : Int32) (bG : Nat) (bK : Nat) (bCa : Nat) (bL : Nat) (rd : Int32) (rg : Int32) (re : Int32) (bO : Nat) (rl : Int32) (rq : Int32) (rb : Int32) (rz : Int64) (uW : Nat → Int32) (p1 : Int32) (k1 : Int32) (x1 : Int32)  : Met l y_Ref_worth w_Ref_worth ({ frames := 2, cells := 0, slots := 0, locals := 46 } : Room) (va_Pc [.ref b0, .int p1, .int k1, .int x1] (fun U => U.heap.size = sz ∧ va_P (dC, dI) vw_cls [(b0, .inr (1, [.int rc, .ref bS, .ref bC, .int rv, .ref bW, .int rp, .ref bCe, .ref bA, .ref bB, .ref bM, .int rf, .ref bG, .ref bK, .ref bCa, .ref bL, .int rd, .int rg, .int re, .ref bO, .int rl, .int rq, .int rb, .long rz])), (bW, .inl (cI, 9, .inl uW))] U.heap ∧ g_K dC dI [(cI, .int), (cZ, .boolean), (cQ, (.object "SettingSearch$Answers"))] U ∧ va_D (fun _ => True) [(b0, .inr (1, [.int rc, .ref bS, .ref bC, .int rv, .ref bW, .int rp, .ref bCe, .ref bA, .ref bB, .ref bM, .int rf, .ref bG, .ref bK, .ref bCa, .ref bL, .int rd, .int rg, .int re, .ref bO, .int rl, .int rq, .int rb, .long rz])), (bW, .inl (cI, 9, .inl uW))])) (va_Qi (fun (r : Int32) (u : (Nat → Int32)) => ((rg = 0 ∧ ¬ q_pl p1 k1 = -1 ∧ ¬ x1 < -1000 ∧ x1 ≤ 1000) ∧ r = 1 ∧ u = upd uW (q_pl p1 k1).toNatClampNeg x1) ∨ (¬ (rg = 0 ∧ ¬ q_pl p1 k1 = -1 ∧ ¬ x1 < -1000 ∧ x1 ≤ 1000) ∧ r = 0 ∧ u = uW)) (fun (u : (Nat → Int32)) (t : State) => va_P (dC, dI) vw_cls [(b0, .inr (1, [.int rc, .ref bS, .ref bC, .int rv, .ref bW, .int rp, .ref bCe, .ref bA, .ref bB, .ref bM, .int rf, .ref bG, .ref bK, .ref bCa, .ref bL, .int rd, .int rg, .int re, .ref bO, .int rl, .int rq, .int rb, .long rz])), (bW, .inl (cI, 9, .inl u))] t.heap ∧ va_D (va_A [(b0, .inr (1, [.int rc, .ref bS, .ref bC, .int rv, .ref bW, .int rp, .ref bCe, .ref bA, .ref bB, .ref bM, .int rf, .ref bG, .ref bK, .ref bCa, .ref bL, .int rd, .int rg, .int re, .ref bO, .int rl, .int rq, .int rb, .long rz])), (bW, .inl (cI, 9, .inl uW))] sz) [(b0, .inr (1, [.int rc, .ref bS, .ref bC, .int rv, .ref bW, .int rp, .ref bCe, .ref bA, .ref bB, .ref bM, .int rf, .ref bG, .ref bK, .ref bCa, .ref bL, .int rd, .int rg, .int re, .ref bO, .int rl, .int rq, .int rb, .long rz])), (bW, .inl (cI, 9, .inl u))]) (va_A [(b0, .inr (1, [.int rc, .ref bS, .ref bC, .int rv, .ref bW, .int rp, .ref bCe, .ref bA, .ref bB, .ref bM, .int rf, .ref bG, .ref bK, .ref bCa, .ref bL, .int rd, .int rg, .int re, .ref bO, .int rl, .int rq, .int rb, .long rz])), (bW, .inl (cI, 9, .inl uW))] sz)) 0 0 (va_A [(b0, .inr (1, [.int rc, .ref bS, .ref bC, .int rv, .ref bW, .int rp, .ref bCe, .ref bA, .ref bB, .ref bM, .int rf, .ref bG, .ref bK, .ref bCa, .ref bL, .int rd, .int rg, .int re, .ref bO, .int rl, .int rq, .int rb, .long rz])), (bW, .inl (cI, 9, .inl uW))] sz) := by
  refine Met.ofW (cc := b_Ref_worth) (maxL := 4) (ret := (some .boolean)) (by decide) rfl ?_
  intro p e s m args below meth c s₁ B hml hv
  obtain ⟨rfl, hsz, hP, hKN, hD0⟩ := hv
  obtain ⟨hK, hN⟩ := id hKN
  have hx := B.exec
  have hb := B.bytes
  have hr := B.returns
  have hts0 := atoms_spec (ws := w_Ref_worth) B.pre
  have hts : ∀ w ∈ lw_g, w.before _ s = true := fun w h => hts0 w (List.mem_cons_of_mem _ h)
  have hown : s.vm.findClass R_Ref = some m.cls := findClass_of_methodNamed B.named
  have hlocks := B.notSynchronized
  subst hsz
  have hD := hD0.self (sz := s.heap.size)
  generalize hAe : va_A [(b0, .inr (1, [.int rc, .ref bS, .ref bC, .int rv, .ref bW, .int rp, .ref bCe, .ref bA, .ref bB, .ref bM, .int rf, .ref bG, .ref bK, .ref bCa, .ref bL, .int rd, .int rg, .int re, .ref bO, .int rl, .int rq, .int rb, .long rz])), (bW, .inl (cI, 9, .inl uW))] s.heap.size = A at hD ⊢
  have hA : ∀ q : Nat, s.heap.size ≤ q → A q := fun q h => by rw [← hAe]; exact Or.inr h
  have hP : va_P (dC, dI) vw_cls [(b0, .inr (1, [.int rc, .ref bS, .ref bC, .int rv, .ref bW, .int rp, .ref bCe, .ref bA, .ref bB, .ref bM, .int rf, .ref bG, .ref bK, .ref bCa, .ref bL, .int rd, .int rg, .int re, .ref bO, .int rl, .int rq, .int rb, .long rz])), (bW, .inl (cI, 9, .inl uW))] s.heap := hP
  have hl := lv_entry ([.ref b0, .int p1, .int k1, .int x1]) (n := 4) (Nat.le_of_ble_eq_true rfl)
  rw [lg_entry_eq]
  generalize (lg_sl ([.ref b0, .int p1, .int k1, .int x1]) ++ List.replicate (4 - (lg_sl ([.ref b0, .int p1, .int k1, .int x1])).length) Slot.unset).toArray = ls at hl ⊢
  have hl : lv_has ls 4 [(0, .ref b0), (1, .int p1), (2, .int k1), (3, .int x1)] := hl
  refine gw_start (fun H locs hH hlocs => ?_)
  rw [← hH] at hP
  have hS : va_S A s.heap H locs := by rw [hH, hlocs]; exact va_S.rf
  refine lv_aload_n hx hb d_Ref_worth_0 rfl (lv_at hl 0 rfl) ?_
  refine va_get (D := (dC, dI)) (ci := 1) (v := .int rg) (C := R_Ref) (T := T_Ref) (N := 23) hx hb hts in_Ref hown hK hP 0 rfl rfl 16 (by decide) (hts _ tw_445) (fun _ h9 => h9) rfl d_Ref_worth_1 ?_
  refine lv_if_ne (tgt := 29) hx hb d_Ref_worth_4 (by decide) (fun c_1 => ?_) (fun c_1 => ?_)
  · skip
    have hbad : ¬ (rg = 0 ∧ ¬ q_pl p1 k1 = -1 ∧ ¬ x1 < -1000 ∧ x1 ≤ 1000) := fun z => c_1 z.1
    refine lv_iconst (v := 0) hx hb d_Ref_worth_29 (by decide) ?_
    have hP9 := hP.sub (ws' := [(b0, .inr (1, [.int rc, .ref bS, .ref bC, .int rv, .ref bW, .int rp, .ref bCe, .ref bA, .ref bB, .ref bM, .int rf, .ref bG, .ref bK, .ref bCa, .ref bL, .int rd, .int rg, .int re, .ref bO, .int rl, .int rq, .int rb, .long rz])), (bW, .inl (cI, 9, .inl uW))]) [0, 1] rfl
    have hD9 := hD.sub (ws' := [(b0, .inr (1, [.int rc, .ref bS, .ref bC, .int rv, .ref bW, .int rp, .ref bCe, .ref bA, .ref bB, .ref bM, .int rf, .ref bG, .ref bK, .ref bCa, .ref bL, .int rd, .int rg, .int re, .ref bO, .int rl, .int rq, .int rb, .long rz])), (bW, .inl (cI, 9, .inl uW))]) [0, 1] (by decide) rfl
    have hpost_2 : ((rg = 0 ∧ ¬ q_pl p1 k1 = -1 ∧ ¬ x1 < -1000 ∧ x1 ≤ 1000) ∧ (0 : Int32) = 1 ∧ uW = upd uW (q_pl p1 k1).toNatClampNeg x1) ∨ (¬ (rg = 0 ∧ ¬ q_pl p1 k1 = -1 ∧ ¬ x1 < -1000 ∧ x1 ≤ 1000) ∧ (0 : Int32) = 0 ∧ uW = uW) := Or.inr ⟨hbad, rfl, rfl⟩
    exact W.zret (v := 0) hx hb hr (rfl) (fun t ht hW => ⟨⟨0, uW, rfl, hpost_2, by rw [ht]; exact hP9, hD9⟩, hS.F ht⟩) hS.2.2 d_Ref_worth_30
  · skip
    have cg : rg = 0 := c_1
    refine lv_iload_n hx hb d_Ref_worth_7 rfl (lv_at hl 1 rfl) ?_
    refine lv_iload_n hx hb d_Ref_worth_8 rfl (lv_at hl 2 rfl) ?_
    have hPc := hP.sub (ws' := []) [] rfl
    have hDc := hD.sub (ws' := []) [] (by decide) rfl
    have hFc := va_free (wc := []) hD hS hA [] rfl
    refine va_calli (va_runS (As := [.int p1, .int k1]) (rest := []) ⟨hx, hb, hml, hown, hts⟩ (m_isC l dC dI H.size cI cZ cQ p1 k1 ) ⟨(callB_of 2 hts (ga_all tw_513) rfl rfl rfl (hts _ tw_29) (hts _ tw_511) (by decide +kernel) ⟨Nat.le_of_ble_eq_true rfl, Nat.le_of_ble_eq_true rfl⟩), hts _ tw_512⟩ ⟨fun a U g mk q => by obtain ⟨q0, q1, qP, qK, qD⟩ := q; exact ⟨q0, q1, qP, g_K.same (u := U) (U := U.calling g mk a) rfl qK, qD⟩, fun U hU hW => ⟨rfl, by rw [hU], by rw [hU]; exact hPc, g_K.warm hW hKN, hDc.weaken (fun _ _ _ _ => trivial)⟩⟩ rfl rfl hl.1 rfl (lv_room (Nat.le_of_ble_eq_true rfl)) d_Ref_worth_9 ⟨Nat.le_of_ble_eq_true rfl, Nat.le_of_ble_eq_true rfl⟩) hS (fun q _ h => hFc q h) hFc (fun r_3 u t H1 locs htt hvm hw_4 hBB hzz hkk hS => ?_)
    have hw_4 : r_3 = q_cell p1 k1 := hw_4
    obtain ⟨hPP, hDD⟩ := hBB
    rw [htt] at hPP
    have hPP : va_P (dC, dI) vw_cls [] H1 := hPP
    have hDD : va_D (va_A [] H.size) [] := hDD
    obtain ⟨hP, hD⟩ := va_join (wr := [(b0, .inr (1, [.int rc, .ref bS, .ref bC, .int rv, .ref bW, .int rp, .ref bCe, .ref bA, .ref bB, .ref bM, .int rf, .ref bG, .ref bK, .ref bCa, .ref bL, .int rd, .int rg, .int re, .ref bO, .int rl, .int rq, .int rb, .long rz])), (bW, .inl (cI, 9, .inl uW))]) (w1 := []) hP hD [] [0, 1] rfl rfl (by decide) (by decide) hkk hFc hPP hDD
    generalize H1 = H at hP hS ⊢
    have hP : va_P (dC, dI) vw_cls [(b0, .inr (1, [.int rc, .ref bS, .ref bC, .int rv, .ref bW, .int rp, .ref bCe, .ref bA, .ref bB, .ref bM, .int rf, .ref bG, .ref bK, .ref bCa, .ref bL, .int rd, .int rg, .int re, .ref bO, .int rl, .int rq, .int rb, .long rz])), (bW, .inl (cI, 9, .inl uW))] H := hP
    have hD : va_D A [(b0, .inr (1, [.int rc, .ref bS, .ref bC, .int rv, .ref bW, .int rp, .ref bCe, .ref bA, .ref bB, .ref bM, .int rf, .ref bG, .ref bK, .ref bCa, .ref bL, .int rd, .int rg, .int re, .ref bO, .int rl, .int rq, .int rb, .long rz])), (bW, .inl (cI, 9, .inl uW))] := hD
    refine lv_if_eq (tgt := 29) hx hb d_Ref_worth_12 (by decide) (fun c_5 => ?_) (fun c_5 => ?_)
    · skip
      have hbad : ¬ (rg = 0 ∧ ¬ q_pl p1 k1 = -1 ∧ ¬ x1 < -1000 ∧ x1 ≤ 1000) := fun z => z.2.1 (q_cell_eq hw_4 c_5)
      refine lv_iconst (v := 0) hx hb d_Ref_worth_29 (by decide) ?_
      have hP9 := hP.sub (ws' := [(b0, .inr (1, [.int rc, .ref bS, .ref bC, .int rv, .ref bW, .int rp, .ref bCe, .ref bA, .ref bB, .ref bM, .int rf, .ref bG, .ref bK, .ref bCa, .ref bL, .int rd, .int rg, .int re, .ref bO, .int rl, .int rq, .int rb, .long rz])), (bW, .inl (cI, 9, .inl uW))]) [0, 1] rfl
      have hD9 := hD.sub (ws' := [(b0, .inr (1, [.int rc, .ref bS, .ref bC, .int rv, .ref bW, .int rp, .ref bCe, .ref bA, .ref bB, .ref bM, .int rf, .ref bG, .ref bK, .ref bCa, .ref bL, .int rd, .int rg, .int re, .ref bO, .int rl, .int rq, .int rb, .long rz])), (bW, .inl (cI, 9, .inl uW))]) [0, 1] (by decide) rfl
      have hpost_6 : ((rg = 0 ∧ ¬ q_pl p1 k1 = -1 ∧ ¬ x1 < -1000 ∧ x1 ≤ 1000) ∧ (0 : Int32) = 1 ∧ uW = upd uW (q_pl p1 k1).toNatClampNeg x1) ∨ (¬ (rg = 0 ∧ ¬ q_pl p1 k1 = -1 ∧ ¬ x1 < -1000 ∧ x1 ≤ 1000) ∧ (0 : Int32) = 0 ∧ uW = uW) := Or.inr ⟨hbad, rfl, rfl⟩
      exact W.zret (v := 0) hx hb hr (rfl) (fun t ht hW => ⟨⟨0, uW, rfl, hpost_6, by rw [ht]; exact hP9, hD9⟩, hS.F ht⟩) hS.2.2 d_Ref_worth_30
    · skip
      have cp := q_cell_ne hw_4 c_5
      refine lv_iload_n hx hb d_Ref_worth_15 rfl (lv_at hl 3 rfl) ?_
      refine lv_i2l hx hb d_Ref_worth_16 rfl ?_
      refine lv_topl (fun v_7 ev_7 => ?_)
      refine lv_ldc2 (v := (-1000)) hx hb hown (hts _ tw_515) d_Ref_worth_17 ?_
      refine lv_ldc2 (v := 1000) hx hb hown (hts _ tw_516) d_Ref_worth_20 ?_
      have hPc := hP.sub (ws' := []) [] rfl
      have hDc := hD.sub (ws' := []) [] (by decide) rfl
      have hFc := va_free (wc := []) hD hS hA [] rfl
      refine va_calli (va_runS (As := [.long v_7, .long (-1000), .long 1000]) (rest := []) ⟨hx, hb, hml, hown, hts⟩ (m_isIn l dC dI H.size cI cZ cQ v_7 (-1000) 1000 ) ⟨(callB_of 3 hts (ga_all tw_506) rfl rfl rfl (hts _ tw_29) (hts _ tw_504) (by decide +kernel) ⟨Nat.le_of_ble_eq_true rfl, Nat.le_of_ble_eq_true rfl⟩), hts _ tw_505⟩ ⟨fun a U g mk q => by obtain ⟨q0, q1, qP, qK, qD⟩ := q; exact ⟨q0, q1, qP, g_K.same (u := U) (U := U.calling g mk a) rfl qK, qD⟩, fun U hU hW => ⟨rfl, by rw [hU], by rw [hU]; exact hPc, g_K.warm hW hKN, hDc.weaken (fun _ _ _ _ => trivial)⟩⟩ rfl rfl hl.1 rfl (lv_room (Nat.le_of_ble_eq_true rfl)) d_Ref_worth_23 ⟨Nat.le_of_ble_eq_true rfl, Nat.le_of_ble_eq_true rfl⟩) hS (fun q _ h => hFc q h) hFc (fun r_8 u t H1 locs htt hvm hw_9 hBB hzz hkk hS => ?_)
      have hw_9 : r_8 = q_isIn v_7 (-1000) 1000 := hw_9
      obtain ⟨hPP, hDD⟩ := hBB
      rw [htt] at hPP
      have hPP : va_P (dC, dI) vw_cls [] H1 := hPP
      have hDD : va_D (va_A [] H.size) [] := hDD
      obtain ⟨hP, hD⟩ := va_join (wr := [(b0, .inr (1, [.int rc, .ref bS, .ref bC, .int rv, .ref bW, .int rp, .ref bCe, .ref bA, .ref bB, .ref bM, .int rf, .ref bG, .ref bK, .ref bCa, .ref bL, .int rd, .int rg, .int re, .ref bO, .int rl, .int rq, .int rb, .long rz])), (bW, .inl (cI, 9, .inl uW))]) (w1 := []) hP hD [] [0, 1] rfl rfl (by decide) (by decide) hkk hFc hPP hDD
      generalize H1 = H at hP hS ⊢
      have hP : va_P (dC, dI) vw_cls [(b0, .inr (1, [.int rc, .ref bS, .ref bC, .int rv, .ref bW, .int rp, .ref bCe, .ref bA, .ref bB, .ref bM, .int rf, .ref bG, .ref bK, .ref bCa, .ref bL, .int rd, .int rg, .int re, .ref bO, .int rl, .int rq, .int rb, .long rz])), (bW, .inl (cI, 9, .inl uW))] H := hP
      have hD : va_D A [(b0, .inr (1, [.int rc, .ref bS, .ref bC, .int rv, .ref bW, .int rp, .ref bCe, .ref bA, .ref bB, .ref bM, .int rf, .ref bG, .ref bK, .ref bCa, .ref bL, .int rd, .int rg, .int re, .ref bO, .int rl, .int rq, .int rb, .long rz])), (bW, .inl (cI, 9, .inl uW))] := hD
      refine lv_if_ne (tgt := 31) hx hb d_Ref_worth_26 (by decide) (fun c_10 => ?_) (fun c_10 => ?_)
      · skip
        have ck := ir_in (x := x1) (a := (-1000)) (b := 1000) (by show ¬ q_isIn x1.toInt64 (-1000) 1000 = 0; rw [← ev_7, ← hw_9]; exact c_10)
        have hok : (rg = 0 ∧ ¬ q_pl p1 k1 = -1 ∧ ¬ x1 < -1000 ∧ x1 ≤ 1000) := ⟨cg, cp, ck.1, Int32.not_lt.mp ck.2⟩
        refine lv_aload_n hx hb d_Ref_worth_31 rfl (lv_at hl 0 rfl) ?_
        refine va_get (D := (dC, dI)) (ci := 1) (v := .ref bW) (C := R_Ref) (T := T_Ref) (N := 23) hx hb hts in_Ref hown hK hP 0 rfl rfl 4 (by decide) (hts _ tw_433) (fun _ h9 => h9) rfl d_Ref_worth_32 ?_
        refine lv_iconst (v := 3) hx hb d_Ref_worth_35 (by decide) ?_
        refine lv_iload_n hx hb d_Ref_worth_36 rfl (lv_at hl 1 rfl) ?_
        refine lv_imul hx hb d_Ref_worth_37 ?_
        refine lv_topi (fun v_11 ev_11 => ?_)
        refine lv_iload_n hx hb d_Ref_worth_38 rfl (lv_at hl 2 rfl) ?_
        refine lv_iadd hx hb d_Ref_worth_39 ?_
        refine lv_topi (fun v_12 ev_12 => ?_)
        refine lv_iload_n hx hb d_Ref_worth_40 rfl (lv_at hl 3 rfl) ?_
        have eh_13 : v_12 = nI ((q_pl p1 k1).toNatClampNeg) := by simp only [ev_7, ev_11, ev_12]; rw [q_pl_comm cp]; exact (q_pl_ok cp).2.2.2.2.1
        have bh_13 : (q_pl p1 k1).toNatClampNeg < 9 := (q_pl_ok cp).2.2.2.2.2.1
        have h_13 : vp_in v_12 9 := by rw [eh_13]; exact vp_in_nI bh_13 (by decide)
        have kh_13 : v_12.toNatClampNeg = (q_pl p1 k1).toNatClampNeg := by rw [eh_13]; exact nI_clamp (by omega)
        refine va_iast hx hb hK hP hD hS 1 0 rfl rfl h_13 d_Ref_worth_41 (fun H locs hP hD hS => ?_)
        rw [kh_13] at hP hD
        obtain ⟨uW2, euW2⟩ : ∃ y : Nat → Int32, y = upd uW ((q_pl p1 k1).toNatClampNeg) x1 := ⟨_, rfl⟩
        rw [← euW2] at hP hD
        have hP : va_P (dC, dI) vw_cls [(b0, .inr (1, [.int rc, .ref bS, .ref bC, .int rv, .ref bW, .int rp, .ref bCe, .ref bA, .ref bB, .ref bM, .int rf, .ref bG, .ref bK, .ref bCa, .ref bL, .int rd, .int rg, .int re, .ref bO, .int rl, .int rq, .int rb, .long rz])), (bW, .inl (cI, 9, .inl uW2))] H := hP
        have hD : va_D A [(b0, .inr (1, [.int rc, .ref bS, .ref bC, .int rv, .ref bW, .int rp, .ref bCe, .ref bA, .ref bB, .ref bM, .int rf, .ref bG, .ref bK, .ref bCa, .ref bL, .int rd, .int rg, .int re, .ref bO, .int rl, .int rq, .int rb, .long rz])), (bW, .inl (cI, 9, .inl uW2))] := hD
        refine lv_iconst (v := 1) hx hb d_Ref_worth_42 (by decide) ?_
        have hP9 := hP.sub (ws' := [(b0, .inr (1, [.int rc, .ref bS, .ref bC, .int rv, .ref bW, .int rp, .ref bCe, .ref bA, .ref bB, .ref bM, .int rf, .ref bG, .ref bK, .ref bCa, .ref bL, .int rd, .int rg, .int re, .ref bO, .int rl, .int rq, .int rb, .long rz])), (bW, .inl (cI, 9, .inl uW2))]) [0, 1] rfl
        have hD9 := hD.sub (ws' := [(b0, .inr (1, [.int rc, .ref bS, .ref bC, .int rv, .ref bW, .int rp, .ref bCe, .ref bA, .ref bB, .ref bM, .int rf, .ref bG, .ref bK, .ref bCa, .ref bL, .int rd, .int rg, .int re, .ref bO, .int rl, .int rq, .int rb, .long rz])), (bW, .inl (cI, 9, .inl uW2))]) [0, 1] (by decide) rfl
        have hpost_14 : ((rg = 0 ∧ ¬ q_pl p1 k1 = -1 ∧ ¬ x1 < -1000 ∧ x1 ≤ 1000) ∧ (1 : Int32) = 1 ∧ uW2 = upd uW (q_pl p1 k1).toNatClampNeg x1) ∨ (¬ (rg = 0 ∧ ¬ q_pl p1 k1 = -1 ∧ ¬ x1 < -1000 ∧ x1 ≤ 1000) ∧ (1 : Int32) = 0 ∧ uW2 = uW) := Or.inl ⟨hok, rfl, euW2⟩
        exact W.zret (v := 1) hx hb hr (rfl) (fun t ht hW => ⟨⟨1, uW2, rfl, hpost_14, by rw [ht]; exact hP9, hD9⟩, hS.F ht⟩) hS.2.2 d_Ref_worth_43
      · skip
        have ck := ir_out (x := x1) (a := (-1000)) (b := 1000) (by show  q_isIn x1.toInt64 (-1000) 1000 = 0; rw [← ev_7, ← hw_9]; exact c_10)
        have hbad : ¬ (rg = 0 ∧ ¬ q_pl p1 k1 = -1 ∧ ¬ x1 < -1000 ∧ x1 ≤ 1000) := fun z => ck.elim z.2.2.1 (fun q => absurd z.2.2.2 (Int32.not_le.mpr q))
        refine lv_iconst (v := 0) hx hb d_Ref_worth_29 (by decide) ?_
        have hP9 := hP.sub (ws' := [(b0, .inr (1, [.int rc, .ref bS, .ref bC, .int rv, .ref bW, .int rp, .ref bCe, .ref bA, .ref bB, .ref bM, .int rf, .ref bG, .ref bK, .ref bCa, .ref bL, .int rd, .int rg, .int re, .ref bO, .int rl, .int rq, .int rb, .long rz])), (bW, .inl (cI, 9, .inl uW))]) [0, 1] rfl
        have hD9 := hD.sub (ws' := [(b0, .inr (1, [.int rc, .ref bS, .ref bC, .int rv, .ref bW, .int rp, .ref bCe, .ref bA, .ref bB, .ref bM, .int rf, .ref bG, .ref bK, .ref bCa, .ref bL, .int rd, .int rg, .int re, .ref bO, .int rl, .int rq, .int rb, .long rz])), (bW, .inl (cI, 9, .inl uW))]) [0, 1] (by decide) rfl
        have hpost_15 : ((rg = 0 ∧ ¬ q_pl p1 k1 = -1 ∧ ¬ x1 < -1000 ∧ x1 ≤ 1000) ∧ (0 : Int32) = 1 ∧ uW = upd uW (q_pl p1 k1).toNatClampNeg x1) ∨ (¬ (rg = 0 ∧ ¬ q_pl p1 k1 = -1 ∧ ¬ x1 < -1000 ∧ x1 ≤ 1000) ∧ (0 : Int32) = 0 ∧ uW = uW) := Or.inr ⟨hbad, rfl, rfl⟩
        exact W.zret (v := 0) hx hb hr (rfl) (fun t ht hW => ⟨⟨0, uW, rfl, hpost_15, by rw [ht]; exact hP9, hD9⟩, hS.F ht⟩) hS.2.2 d_Ref_worth_30
set_option maxHeartbeats 4000000 in
set_option maxRecDepth 100000 in
/-- the reference: purity -/
theorem m_purity (l : Launch) (dC : Nat → ClassId) (dI : Nat → Nat → Nat) (sz : Nat) (cI : ClassId) (cZ : ClassId) (cQ : ClassId) (b0 : Nat) (rc : Int32) (bS : Nat) (bC : Nat) (rv : Int32) (bW : Nat) (rp : Int32) (bCe : Nat) (bA : Nat) (bB : Nat) (bM : Nat) (rf : Int32) (bG : Nat) (bK : Nat) (bCa : Nat) (bL : Nat) (rd : Int32) (rg : Int32) (re : Int32) (bO : Nat) (rl : Int32) (rq : Int32) (rb : Int32) (rz : Int64) (uCe : Nat → Int32) (uA : Nat → Int32) (uB : Nat → Int32) (p1 : Int32) (k1 : Int32) (o1 : Int32) (u1 : Int32) (np : Nat) (hrp : rp = nI np) (hnp : np ≤ 4) : Met l y_Ref_purity w_Ref_purity ({ frames := 2, cells := 0, slots := 0, locals := 46 } : Room) (va_Pc [.ref b0, .int p1, .int k1, .int o1, .int u1] (fun U => U.heap.size = sz ∧ va_P (dC, dI) vw_cls [(b0, .inr (1, [.int rc, .ref bS, .ref bC, .int rv, .ref bW, .int rp, .ref bCe, .ref bA, .ref bB, .ref bM, .int rf, .ref bG, .ref bK, .ref bCa, .ref bL, .int rd, .int rg, .int re, .ref bO, .int rl, .int rq, .int rb, .long rz])), (bCe, .inl (cI, 4, .inl uCe)), (bA, .inl (cI, 4, .inl uA)), (bB, .inl (cI, 4, .inl uB))] U.heap ∧ g_K dC dI [(cI, .int), (cZ, .boolean), (cQ, (.object "SettingSearch$Answers"))] U ∧ va_D (fun _ => True) [(b0, .inr (1, [.int rc, .ref bS, .ref bC, .int rv, .ref bW, .int rp, .ref bCe, .ref bA, .ref bB, .ref bM, .int rf, .ref bG, .ref bK, .ref bCa, .ref bL, .int rd, .int rg, .int re, .ref bO, .int rl, .int rq, .int rb, .long rz])), (bCe, .inl (cI, 4, .inl uCe)), (bA, .inl (cI, 4, .inl uA)), (bB, .inl (cI, 4, .inl uB))])) (va_Qi (fun (r : Int32) (u : Int32 × (Nat → Int32) × (Nat → Int32) × (Nat → Int32)) => ((rg = 0 ∧ ¬ q_pl p1 k1 = -1 ∧ q_puOk rp o1 u1) ∧ r = rp ∧ u.1 = rp + 1 ∧ u.2.1 = upd uCe np (q_pl p1 k1) ∧ u.2.2.1 = upd uA np o1 ∧ u.2.2.2 = upd uB np u1) ∨ (¬ (rg = 0 ∧ ¬ q_pl p1 k1 = -1 ∧ q_puOk rp o1 u1) ∧ r = -1 ∧ u.1 = rp ∧ u.2.1 = uCe ∧ u.2.2.1 = uA ∧ u.2.2.2 = uB)) (fun (u : Int32 × (Nat → Int32) × (Nat → Int32) × (Nat → Int32)) (t : State) => va_P (dC, dI) vw_cls [(b0, .inr (1, [.int rc, .ref bS, .ref bC, .int rv, .ref bW, .int u.1, .ref bCe, .ref bA, .ref bB, .ref bM, .int rf, .ref bG, .ref bK, .ref bCa, .ref bL, .int rd, .int rg, .int re, .ref bO, .int rl, .int rq, .int rb, .long rz])), (bCe, .inl (cI, 4, .inl u.2.1)), (bA, .inl (cI, 4, .inl u.2.2.1)), (bB, .inl (cI, 4, .inl u.2.2.2))] t.heap ∧ va_D (va_A [(b0, .inr (1, [.int rc, .ref bS, .ref bC, .int rv, .ref bW, .int rp, .ref bCe, .ref bA, .ref bB, .ref bM, .int rf, .ref bG, .ref bK, .ref bCa, .ref bL, .int rd, .int rg, .int re, .ref bO, .int rl, .int rq, .int rb, .long rz])), (bCe, .inl (cI, 4, .inl uCe)), (bA, .inl (cI, 4, .inl uA)), (bB, .inl (cI, 4, .inl uB))] sz) [(b0, .inr (1, [.int rc, .ref bS, .ref bC, .int rv, .ref bW, .int u.1, .ref bCe, .ref bA, .ref bB, .ref bM, .int rf, .ref bG, .ref bK, .ref bCa, .ref bL, .int rd, .int rg, .int re, .ref bO, .int rl, .int rq, .int rb, .long rz])), (bCe, .inl (cI, 4, .inl u.2.1)), (bA, .inl (cI, 4, .inl u.2.2.1)), (bB, .inl (cI, 4, .inl u.2.2.2))]) (va_A [(b0, .inr (1, [.int rc, .ref bS, .ref bC, .int rv, .ref bW, .int rp, .ref bCe, .ref bA, .ref bB, .ref bM, .int rf, .ref bG, .ref bK, .ref bCa, .ref bL, .int rd, .int rg, .int re, .ref bO, .int rl, .int rq, .int rb, .long rz])), (bCe, .inl (cI, 4, .inl uCe)), (bA, .inl (cI, 4, .inl uA)), (bB, .inl (cI, 4, .inl uB))] sz)) 0 0 (va_A [(b0, .inr (1, [.int rc, .ref bS, .ref bC, .int rv, .ref bW, .int rp, .ref bCe, .ref bA, .ref bB, .ref bM, .int rf, .ref bG, .ref bK, .ref bCa, .ref bL, .int rd, .int rg, .int re, .ref bO, .int rl, .int rq, .int rb, .long rz])), (bCe, .inl (cI, 4, .inl uCe)), (bA, .inl (cI, 4, .inl uA)), (bB, .inl (cI, 4, .inl uB))] sz) := by
  refine Met.ofW (cc := b_Ref_purity) (maxL := 5) (ret := (some .int)) (by decide) rfl ?_
  intro p e s m args below meth c s₁ B hml hv
  obtain ⟨rfl, hsz, hP, hKN, hD0⟩ := hv
  obtain ⟨hK, hN⟩ := id hKN
  have hx := B.exec
  have hb := B.bytes
  have hr := B.returns
  have hts0 := atoms_spec (ws := w_Ref_purity) B.pre
  have hts : ∀ w ∈ lw_g, w.before _ s = true := fun w h => hts0 w (List.mem_cons_of_mem _ h)
  have hown : s.vm.findClass R_Ref = some m.cls := findClass_of_methodNamed B.named
  have hlocks := B.notSynchronized
  subst hsz
  have hD := hD0.self (sz := s.heap.size)
  generalize hAe : va_A [(b0, .inr (1, [.int rc, .ref bS, .ref bC, .int rv, .ref bW, .int rp, .ref bCe, .ref bA, .ref bB, .ref bM, .int rf, .ref bG, .ref bK, .ref bCa, .ref bL, .int rd, .int rg, .int re, .ref bO, .int rl, .int rq, .int rb, .long rz])), (bCe, .inl (cI, 4, .inl uCe)), (bA, .inl (cI, 4, .inl uA)), (bB, .inl (cI, 4, .inl uB))] s.heap.size = A at hD ⊢
  have hA : ∀ q : Nat, s.heap.size ≤ q → A q := fun q h => by rw [← hAe]; exact Or.inr h
  have hP : va_P (dC, dI) vw_cls [(b0, .inr (1, [.int rc, .ref bS, .ref bC, .int rv, .ref bW, .int rp, .ref bCe, .ref bA, .ref bB, .ref bM, .int rf, .ref bG, .ref bK, .ref bCa, .ref bL, .int rd, .int rg, .int re, .ref bO, .int rl, .int rq, .int rb, .long rz])), (bCe, .inl (cI, 4, .inl uCe)), (bA, .inl (cI, 4, .inl uA)), (bB, .inl (cI, 4, .inl uB))] s.heap := hP
  have hl := lv_entry ([.ref b0, .int p1, .int k1, .int o1, .int u1]) (n := 5) (Nat.le_of_ble_eq_true rfl)
  rw [lg_entry_eq]
  generalize (lg_sl ([.ref b0, .int p1, .int k1, .int o1, .int u1]) ++ List.replicate (5 - (lg_sl ([.ref b0, .int p1, .int k1, .int o1, .int u1])).length) Slot.unset).toArray = ls at hl ⊢
  have hl : lv_has ls 5 [(0, .ref b0), (1, .int p1), (2, .int k1), (3, .int o1), (4, .int u1)] := hl
  refine gw_start (fun H locs hH hlocs => ?_)
  rw [← hH] at hP
  have hS : va_S A s.heap H locs := by rw [hH, hlocs]; exact va_S.rf
  refine lv_aload_n hx hb d_Ref_purity_0 rfl (lv_at hl 0 rfl) ?_
  refine va_get (D := (dC, dI)) (ci := 1) (v := .int rg) (C := R_Ref) (T := T_Ref) (N := 23) hx hb hts in_Ref hown hK hP 0 rfl rfl 16 (by decide) (hts _ tw_445) (fun _ h9 => h9) rfl d_Ref_purity_1 ?_
  refine lv_if_ne (tgt := 48) hx hb d_Ref_purity_4 (by decide) (fun c_1 => ?_) (fun c_1 => ?_)
  · skip
    have hbad : ¬ (rg = 0 ∧ ¬ q_pl p1 k1 = -1 ∧ q_puOk rp o1 u1) := fun z => c_1 z.1
    refine lv_iconst (v := (-1)) hx hb d_Ref_purity_48 (by decide) ?_
    have hP9 := hP.sub (ws' := [(b0, .inr (1, [.int rc, .ref bS, .ref bC, .int rv, .ref bW, .int rp, .ref bCe, .ref bA, .ref bB, .ref bM, .int rf, .ref bG, .ref bK, .ref bCa, .ref bL, .int rd, .int rg, .int re, .ref bO, .int rl, .int rq, .int rb, .long rz])), (bCe, .inl (cI, 4, .inl uCe)), (bA, .inl (cI, 4, .inl uA)), (bB, .inl (cI, 4, .inl uB))]) [0, 1, 2, 3] rfl
    have hD9 := hD.sub (ws' := [(b0, .inr (1, [.int rc, .ref bS, .ref bC, .int rv, .ref bW, .int rp, .ref bCe, .ref bA, .ref bB, .ref bM, .int rf, .ref bG, .ref bK, .ref bCa, .ref bL, .int rd, .int rg, .int re, .ref bO, .int rl, .int rq, .int rb, .long rz])), (bCe, .inl (cI, 4, .inl uCe)), (bA, .inl (cI, 4, .inl uA)), (bB, .inl (cI, 4, .inl uB))]) [0, 1, 2, 3] (by decide) rfl
    have hpost_2 : ((rg = 0 ∧ ¬ q_pl p1 k1 = -1 ∧ q_puOk rp o1 u1) ∧ ((-1) : Int32) = rp ∧ rp = rp + 1 ∧ uCe = upd uCe np (q_pl p1 k1) ∧ uA = upd uA np o1 ∧ uB = upd uB np u1) ∨ (¬ (rg = 0 ∧ ¬ q_pl p1 k1 = -1 ∧ q_puOk rp o1 u1) ∧ ((-1) : Int32) = -1 ∧ rp = rp ∧ uCe = uCe ∧ uA = uA ∧ uB = uB) := Or.inr ⟨hbad, rfl, rfl, rfl, rfl, rfl⟩
    exact W.iret (v := (-1)) hx hb hr (fun t ht hW => ⟨⟨(-1), (rp, uCe, uA, uB), rfl, hpost_2, by rw [ht]; exact hP9, hD9⟩, hS.F ht⟩) hS.2.2 d_Ref_purity_49
  · skip
    have cg : rg = 0 := c_1
    refine lv_aload_n hx hb d_Ref_purity_7 rfl (lv_at hl 0 rfl) ?_
    refine va_get (D := (dC, dI)) (ci := 1) (v := .int rp) (C := R_Ref) (T := T_Ref) (N := 23) hx hb hts in_Ref hown hK hP 0 rfl rfl 5 (by decide) (hts _ tw_434) (fun _ h9 => h9) rfl d_Ref_purity_8 ?_
    refine lv_iconst (v := 4) hx hb d_Ref_purity_11 (by decide) ?_
    refine lv_icmp_eq (tgt := 48) hx hb d_Ref_purity_12 (by decide) (fun c_3 => ?_) (fun c_3 => ?_)
    · skip
      have hbad : ¬ (rg = 0 ∧ ¬ q_pl p1 k1 = -1 ∧ q_puOk rp o1 u1) := fun z => z.2.2.1 (by rw [show rp = 4 from c_3]; decide)
      refine lv_iconst (v := (-1)) hx hb d_Ref_purity_48 (by decide) ?_
      have hP9 := hP.sub (ws' := [(b0, .inr (1, [.int rc, .ref bS, .ref bC, .int rv, .ref bW, .int rp, .ref bCe, .ref bA, .ref bB, .ref bM, .int rf, .ref bG, .ref bK, .ref bCa, .ref bL, .int rd, .int rg, .int re, .ref bO, .int rl, .int rq, .int rb, .long rz])), (bCe, .inl (cI, 4, .inl uCe)), (bA, .inl (cI, 4, .inl uA)), (bB, .inl (cI, 4, .inl uB))]) [0, 1, 2, 3] rfl
      have hD9 := hD.sub (ws' := [(b0, .inr (1, [.int rc, .ref bS, .ref bC, .int rv, .ref bW, .int rp, .ref bCe, .ref bA, .ref bB, .ref bM, .int rf, .ref bG, .ref bK, .ref bCa, .ref bL, .int rd, .int rg, .int re, .ref bO, .int rl, .int rq, .int rb, .long rz])), (bCe, .inl (cI, 4, .inl uCe)), (bA, .inl (cI, 4, .inl uA)), (bB, .inl (cI, 4, .inl uB))]) [0, 1, 2, 3] (by decide) rfl
      have hpost_4 : ((rg = 0 ∧ ¬ q_pl p1 k1 = -1 ∧ q_puOk rp o1 u1) ∧ ((-1) : Int32) = rp ∧ rp = rp + 1 ∧ uCe = upd uCe np (q_pl p1 k1) ∧ uA = upd uA np o1 ∧ uB = upd uB np u1) ∨ (¬ (rg = 0 ∧ ¬ q_pl p1 k1 = -1 ∧ q_puOk rp o1 u1) ∧ ((-1) : Int32) = -1 ∧ rp = rp ∧ uCe = uCe ∧ uA = uA ∧ uB = uB) := Or.inr ⟨hbad, rfl, rfl, rfl, rfl, rfl⟩
      exact W.iret (v := (-1)) hx hb hr (fun t ht hW => ⟨⟨(-1), (rp, uCe, uA, uB), rfl, hpost_4, by rw [ht]; exact hP9, hD9⟩, hS.F ht⟩) hS.2.2 d_Ref_purity_49
    · skip
      have ca : ¬ 4 ≤ rp := fun q => c_3 (by rw [hrp] at q ⊢; have := (nI_leI (by decide) (by omega)).mp (show nI 4 ≤ nI np from q); rw [show np = 4 by omega]; rfl)
      have hlt : np < 4 := lp_lt (N := 4) ca hrp rfl (by omega)
      refine lv_iload_n hx hb d_Ref_purity_15 rfl (lv_at hl 1 rfl) ?_
      refine lv_iload_n hx hb d_Ref_purity_16 rfl (lv_at hl 2 rfl) ?_
      have hPc := hP.sub (ws' := []) [] rfl
      have hDc := hD.sub (ws' := []) [] (by decide) rfl
      have hFc := va_free (wc := []) hD hS hA [] rfl
      refine va_calli (va_runS (As := [.int p1, .int k1]) (rest := []) ⟨hx, hb, hml, hown, hts⟩ (m_isC l dC dI H.size cI cZ cQ p1 k1 ) ⟨(callB_of 2 hts (ga_all tw_513) rfl rfl rfl (hts _ tw_29) (hts _ tw_511) (by decide +kernel) ⟨Nat.le_of_ble_eq_true rfl, Nat.le_of_ble_eq_true rfl⟩), hts _ tw_512⟩ ⟨fun a U g mk q => by obtain ⟨q0, q1, qP, qK, qD⟩ := q; exact ⟨q0, q1, qP, g_K.same (u := U) (U := U.calling g mk a) rfl qK, qD⟩, fun U hU hW => ⟨rfl, by rw [hU], by rw [hU]; exact hPc, g_K.warm hW hKN, hDc.weaken (fun _ _ _ _ => trivial)⟩⟩ rfl rfl hl.1 rfl (lv_room (Nat.le_of_ble_eq_true rfl)) d_Ref_purity_17 ⟨Nat.le_of_ble_eq_true rfl, Nat.le_of_ble_eq_true rfl⟩) hS (fun q _ h => hFc q h) hFc (fun r_5 u t H1 locs htt hvm hw_6 hBB hzz hkk hS => ?_)
      have hw_6 : r_5 = q_cell p1 k1 := hw_6
      obtain ⟨hPP, hDD⟩ := hBB
      rw [htt] at hPP
      have hPP : va_P (dC, dI) vw_cls [] H1 := hPP
      have hDD : va_D (va_A [] H.size) [] := hDD
      obtain ⟨hP, hD⟩ := va_join (wr := [(b0, .inr (1, [.int rc, .ref bS, .ref bC, .int rv, .ref bW, .int rp, .ref bCe, .ref bA, .ref bB, .ref bM, .int rf, .ref bG, .ref bK, .ref bCa, .ref bL, .int rd, .int rg, .int re, .ref bO, .int rl, .int rq, .int rb, .long rz])), (bCe, .inl (cI, 4, .inl uCe)), (bA, .inl (cI, 4, .inl uA)), (bB, .inl (cI, 4, .inl uB))]) (w1 := []) hP hD [] [0, 1, 2, 3] rfl rfl (by decide) (by decide) hkk hFc hPP hDD
      generalize H1 = H at hP hS ⊢
      have hP : va_P (dC, dI) vw_cls [(b0, .inr (1, [.int rc, .ref bS, .ref bC, .int rv, .ref bW, .int rp, .ref bCe, .ref bA, .ref bB, .ref bM, .int rf, .ref bG, .ref bK, .ref bCa, .ref bL, .int rd, .int rg, .int re, .ref bO, .int rl, .int rq, .int rb, .long rz])), (bCe, .inl (cI, 4, .inl uCe)), (bA, .inl (cI, 4, .inl uA)), (bB, .inl (cI, 4, .inl uB))] H := hP
      have hD : va_D A [(b0, .inr (1, [.int rc, .ref bS, .ref bC, .int rv, .ref bW, .int rp, .ref bCe, .ref bA, .ref bB, .ref bM, .int rf, .ref bG, .ref bK, .ref bCa, .ref bL, .int rd, .int rg, .int re, .ref bO, .int rl, .int rq, .int rb, .long rz])), (bCe, .inl (cI, 4, .inl uCe)), (bA, .inl (cI, 4, .inl uA)), (bB, .inl (cI, 4, .inl uB))] := hD
      refine lv_if_eq (tgt := 48) hx hb d_Ref_purity_20 (by decide) (fun c_7 => ?_) (fun c_7 => ?_)
      · skip
        have hbad : ¬ (rg = 0 ∧ ¬ q_pl p1 k1 = -1 ∧ q_puOk rp o1 u1) := fun z => z.2.1 (q_cell_eq hw_6 c_7)
        refine lv_iconst (v := (-1)) hx hb d_Ref_purity_48 (by decide) ?_
        have hP9 := hP.sub (ws' := [(b0, .inr (1, [.int rc, .ref bS, .ref bC, .int rv, .ref bW, .int rp, .ref bCe, .ref bA, .ref bB, .ref bM, .int rf, .ref bG, .ref bK, .ref bCa, .ref bL, .int rd, .int rg, .int re, .ref bO, .int rl, .int rq, .int rb, .long rz])), (bCe, .inl (cI, 4, .inl uCe)), (bA, .inl (cI, 4, .inl uA)), (bB, .inl (cI, 4, .inl uB))]) [0, 1, 2, 3] rfl
        have hD9 := hD.sub (ws' := [(b0, .inr (1, [.int rc, .ref bS, .ref bC, .int rv, .ref bW, .int rp, .ref bCe, .ref bA, .ref bB, .ref bM, .int rf, .ref bG, .ref bK, .ref bCa, .ref bL, .int rd, .int rg, .int re, .ref bO, .int rl, .int rq, .int rb, .long rz])), (bCe, .inl (cI, 4, .inl uCe)), (bA, .inl (cI, 4, .inl uA)), (bB, .inl (cI, 4, .inl uB))]) [0, 1, 2, 3] (by decide) rfl
        have hpost_8 : ((rg = 0 ∧ ¬ q_pl p1 k1 = -1 ∧ q_puOk rp o1 u1) ∧ ((-1) : Int32) = rp ∧ rp = rp + 1 ∧ uCe = upd uCe np (q_pl p1 k1) ∧ uA = upd uA np o1 ∧ uB = upd uB np u1) ∨ (¬ (rg = 0 ∧ ¬ q_pl p1 k1 = -1 ∧ q_puOk rp o1 u1) ∧ ((-1) : Int32) = -1 ∧ rp = rp ∧ uCe = uCe ∧ uA = uA ∧ uB = uB) := Or.inr ⟨hbad, rfl, rfl, rfl, rfl, rfl⟩
        exact W.iret (v := (-1)) hx hb hr (fun t ht hW => ⟨⟨(-1), (rp, uCe, uA, uB), rfl, hpost_8, by rw [ht]; exact hP9, hD9⟩, hS.F ht⟩) hS.2.2 d_Ref_purity_49
      · skip
        have cp := q_cell_ne hw_6 c_7
        refine lv_iload_n hx hb d_Ref_purity_23 rfl (lv_at hl 3 rfl) ?_
        refine lv_i2l hx hb d_Ref_purity_24 rfl ?_
        refine lv_topl (fun v_9 ev_9 => ?_)
        refine lv_lconst (v := 0) hx hb d_Ref_purity_25 (by decide) ?_
        refine lv_ldc2 (v := 1000) hx hb hown (hts _ tw_516) d_Ref_purity_26 ?_
        have hPc := hP.sub (ws' := []) [] rfl
        have hDc := hD.sub (ws' := []) [] (by decide) rfl
        have hFc := va_free (wc := []) hD hS hA [] rfl
        refine va_calli (va_runS (As := [.long v_9, .long 0, .long 1000]) (rest := []) ⟨hx, hb, hml, hown, hts⟩ (m_isIn l dC dI H.size cI cZ cQ v_9 0 1000 ) ⟨(callB_of 3 hts (ga_all tw_506) rfl rfl rfl (hts _ tw_29) (hts _ tw_504) (by decide +kernel) ⟨Nat.le_of_ble_eq_true rfl, Nat.le_of_ble_eq_true rfl⟩), hts _ tw_505⟩ ⟨fun a U g mk q => by obtain ⟨q0, q1, qP, qK, qD⟩ := q; exact ⟨q0, q1, qP, g_K.same (u := U) (U := U.calling g mk a) rfl qK, qD⟩, fun U hU hW => ⟨rfl, by rw [hU], by rw [hU]; exact hPc, g_K.warm hW hKN, hDc.weaken (fun _ _ _ _ => trivial)⟩⟩ rfl rfl hl.1 rfl (lv_room (Nat.le_of_ble_eq_true rfl)) d_Ref_purity_29 ⟨Nat.le_of_ble_eq_true rfl, Nat.le_of_ble_eq_true rfl⟩) hS (fun q _ h => hFc q h) hFc (fun r_10 u t H1 locs htt hvm hw_11 hBB hzz hkk hS => ?_)
        have hw_11 : r_10 = q_isIn v_9 0 1000 := hw_11
        obtain ⟨hPP, hDD⟩ := hBB
        rw [htt] at hPP
        have hPP : va_P (dC, dI) vw_cls [] H1 := hPP
        have hDD : va_D (va_A [] H.size) [] := hDD
        obtain ⟨hP, hD⟩ := va_join (wr := [(b0, .inr (1, [.int rc, .ref bS, .ref bC, .int rv, .ref bW, .int rp, .ref bCe, .ref bA, .ref bB, .ref bM, .int rf, .ref bG, .ref bK, .ref bCa, .ref bL, .int rd, .int rg, .int re, .ref bO, .int rl, .int rq, .int rb, .long rz])), (bCe, .inl (cI, 4, .inl uCe)), (bA, .inl (cI, 4, .inl uA)), (bB, .inl (cI, 4, .inl uB))]) (w1 := []) hP hD [] [0, 1, 2, 3] rfl rfl (by decide) (by decide) hkk hFc hPP hDD
        generalize H1 = H at hP hS ⊢
        have hP : va_P (dC, dI) vw_cls [(b0, .inr (1, [.int rc, .ref bS, .ref bC, .int rv, .ref bW, .int rp, .ref bCe, .ref bA, .ref bB, .ref bM, .int rf, .ref bG, .ref bK, .ref bCa, .ref bL, .int rd, .int rg, .int re, .ref bO, .int rl, .int rq, .int rb, .long rz])), (bCe, .inl (cI, 4, .inl uCe)), (bA, .inl (cI, 4, .inl uA)), (bB, .inl (cI, 4, .inl uB))] H := hP
        have hD : va_D A [(b0, .inr (1, [.int rc, .ref bS, .ref bC, .int rv, .ref bW, .int rp, .ref bCe, .ref bA, .ref bB, .ref bM, .int rf, .ref bG, .ref bK, .ref bCa, .ref bL, .int rd, .int rg, .int re, .ref bO, .int rl, .int rq, .int rb, .long rz])), (bCe, .inl (cI, 4, .inl uCe)), (bA, .inl (cI, 4, .inl uA)), (bB, .inl (cI, 4, .inl uB))] := hD
        refine lv_if_eq (tgt := 48) hx hb d_Ref_purity_32 (by decide) (fun c_12 => ?_) (fun c_12 => ?_)
        · skip
          have ck := ir_out (x := o1) (a := 0) (b := 1000) (by show  q_isIn o1.toInt64 0 1000 = 0; rw [← ev_9, ← hw_11]; exact c_12)
          have hbad : ¬ (rg = 0 ∧ ¬ q_pl p1 k1 = -1 ∧ q_puOk rp o1 u1) := fun z => ck.elim z.2.2.2.1 z.2.2.2.2.1
          refine lv_iconst (v := (-1)) hx hb d_Ref_purity_48 (by decide) ?_
          have hP9 := hP.sub (ws' := [(b0, .inr (1, [.int rc, .ref bS, .ref bC, .int rv, .ref bW, .int rp, .ref bCe, .ref bA, .ref bB, .ref bM, .int rf, .ref bG, .ref bK, .ref bCa, .ref bL, .int rd, .int rg, .int re, .ref bO, .int rl, .int rq, .int rb, .long rz])), (bCe, .inl (cI, 4, .inl uCe)), (bA, .inl (cI, 4, .inl uA)), (bB, .inl (cI, 4, .inl uB))]) [0, 1, 2, 3] rfl
          have hD9 := hD.sub (ws' := [(b0, .inr (1, [.int rc, .ref bS, .ref bC, .int rv, .ref bW, .int rp, .ref bCe, .ref bA, .ref bB, .ref bM, .int rf, .ref bG, .ref bK, .ref bCa, .ref bL, .int rd, .int rg, .int re, .ref bO, .int rl, .int rq, .int rb, .long rz])), (bCe, .inl (cI, 4, .inl uCe)), (bA, .inl (cI, 4, .inl uA)), (bB, .inl (cI, 4, .inl uB))]) [0, 1, 2, 3] (by decide) rfl
          have hpost_13 : ((rg = 0 ∧ ¬ q_pl p1 k1 = -1 ∧ q_puOk rp o1 u1) ∧ ((-1) : Int32) = rp ∧ rp = rp + 1 ∧ uCe = upd uCe np (q_pl p1 k1) ∧ uA = upd uA np o1 ∧ uB = upd uB np u1) ∨ (¬ (rg = 0 ∧ ¬ q_pl p1 k1 = -1 ∧ q_puOk rp o1 u1) ∧ ((-1) : Int32) = -1 ∧ rp = rp ∧ uCe = uCe ∧ uA = uA ∧ uB = uB) := Or.inr ⟨hbad, rfl, rfl, rfl, rfl, rfl⟩
          exact W.iret (v := (-1)) hx hb hr (fun t ht hW => ⟨⟨(-1), (rp, uCe, uA, uB), rfl, hpost_13, by rw [ht]; exact hP9, hD9⟩, hS.F ht⟩) hS.2.2 d_Ref_purity_49
        · skip
          have ck := ir_in (x := o1) (a := 0) (b := 1000) (by show ¬ q_isIn o1.toInt64 0 1000 = 0; rw [← ev_9, ← hw_11]; exact c_12)
          have co := ck
          refine lv_iload hx hb d_Ref_purity_35 (lv_at hl 4 rfl) ?_
          refine lv_i2l hx hb d_Ref_purity_37 rfl ?_
          refine lv_topl (fun v_14 ev_14 => ?_)
          refine lv_lconst (v := 1) hx hb d_Ref_purity_38 (by decide) ?_
          refine lv_ldc2 (v := 1000) hx hb hown (hts _ tw_516) d_Ref_purity_39 ?_
          have hPc := hP.sub (ws' := []) [] rfl
          have hDc := hD.sub (ws' := []) [] (by decide) rfl
          have hFc := va_free (wc := []) hD hS hA [] rfl
          refine va_calli (va_runS (As := [.long v_14, .long 1, .long 1000]) (rest := []) ⟨hx, hb, hml, hown, hts⟩ (m_isIn l dC dI H.size cI cZ cQ v_14 1 1000 ) ⟨(callB_of 3 hts (ga_all tw_506) rfl rfl rfl (hts _ tw_29) (hts _ tw_504) (by decide +kernel) ⟨Nat.le_of_ble_eq_true rfl, Nat.le_of_ble_eq_true rfl⟩), hts _ tw_505⟩ ⟨fun a U g mk q => by obtain ⟨q0, q1, qP, qK, qD⟩ := q; exact ⟨q0, q1, qP, g_K.same (u := U) (U := U.calling g mk a) rfl qK, qD⟩, fun U hU hW => ⟨rfl, by rw [hU], by rw [hU]; exact hPc, g_K.warm hW hKN, hDc.weaken (fun _ _ _ _ => trivial)⟩⟩ rfl rfl hl.1 rfl (lv_room (Nat.le_of_ble_eq_true rfl)) d_Ref_purity_42 ⟨Nat.le_of_ble_eq_true rfl, Nat.le_of_ble_eq_true rfl⟩) hS (fun q _ h => hFc q h) hFc (fun r_15 u t H1 locs htt hvm hw_16 hBB hzz hkk hS => ?_)
          have hw_16 : r_15 = q_isIn v_14 1 1000 := hw_16
          obtain ⟨hPP, hDD⟩ := hBB
          rw [htt] at hPP
          have hPP : va_P (dC, dI) vw_cls [] H1 := hPP
          have hDD : va_D (va_A [] H.size) [] := hDD
          obtain ⟨hP, hD⟩ := va_join (wr := [(b0, .inr (1, [.int rc, .ref bS, .ref bC, .int rv, .ref bW, .int rp, .ref bCe, .ref bA, .ref bB, .ref bM, .int rf, .ref bG, .ref bK, .ref bCa, .ref bL, .int rd, .int rg, .int re, .ref bO, .int rl, .int rq, .int rb, .long rz])), (bCe, .inl (cI, 4, .inl uCe)), (bA, .inl (cI, 4, .inl uA)), (bB, .inl (cI, 4, .inl uB))]) (w1 := []) hP hD [] [0, 1, 2, 3] rfl rfl (by decide) (by decide) hkk hFc hPP hDD
          generalize H1 = H at hP hS ⊢
          have hP : va_P (dC, dI) vw_cls [(b0, .inr (1, [.int rc, .ref bS, .ref bC, .int rv, .ref bW, .int rp, .ref bCe, .ref bA, .ref bB, .ref bM, .int rf, .ref bG, .ref bK, .ref bCa, .ref bL, .int rd, .int rg, .int re, .ref bO, .int rl, .int rq, .int rb, .long rz])), (bCe, .inl (cI, 4, .inl uCe)), (bA, .inl (cI, 4, .inl uA)), (bB, .inl (cI, 4, .inl uB))] H := hP
          have hD : va_D A [(b0, .inr (1, [.int rc, .ref bS, .ref bC, .int rv, .ref bW, .int rp, .ref bCe, .ref bA, .ref bB, .ref bM, .int rf, .ref bG, .ref bK, .ref bCa, .ref bL, .int rd, .int rg, .int re, .ref bO, .int rl, .int rq, .int rb, .long rz])), (bCe, .inl (cI, 4, .inl uCe)), (bA, .inl (cI, 4, .inl uA)), (bB, .inl (cI, 4, .inl uB))] := hD
          refine lv_if_ne (tgt := 50) hx hb d_Ref_purity_45 (by decide) (fun c_17 => ?_) (fun c_17 => ?_)
          · skip
            have ck := ir_in (x := u1) (a := 1) (b := 1000) (by show ¬ q_isIn u1.toInt64 1 1000 = 0; rw [← ev_14, ← hw_16]; exact c_17)
            have hok : (rg = 0 ∧ ¬ q_pl p1 k1 = -1 ∧ q_puOk rp o1 u1) := ⟨cg, cp, ca, co.1, co.2, ck.1, Int32.not_lt.mp ck.2⟩
            refine lv_aload_n hx hb d_Ref_purity_50 rfl (lv_at hl 0 rfl) ?_
            refine va_get (D := (dC, dI)) (ci := 1) (v := .ref bCe) (C := R_Ref) (T := T_Ref) (N := 23) hx hb hts in_Ref hown hK hP 0 rfl rfl 6 (by decide) (hts _ tw_435) (fun _ h9 => h9) rfl d_Ref_purity_51 ?_
            refine lv_aload_n hx hb d_Ref_purity_54 rfl (lv_at hl 0 rfl) ?_
            refine va_get (D := (dC, dI)) (ci := 1) (v := .int rp) (C := R_Ref) (T := T_Ref) (N := 23) hx hb hts in_Ref hown hK hP 0 rfl rfl 5 (by decide) (hts _ tw_434) (fun _ h9 => h9) rfl d_Ref_purity_55 ?_
            refine lv_iconst (v := 3) hx hb d_Ref_purity_58 (by decide) ?_
            refine lv_iload_n hx hb d_Ref_purity_59 rfl (lv_at hl 1 rfl) ?_
            refine lv_imul hx hb d_Ref_purity_60 ?_
            refine lv_topi (fun v_18 ev_18 => ?_)
            refine lv_iload_n hx hb d_Ref_purity_61 rfl (lv_at hl 2 rfl) ?_
            refine lv_iadd hx hb d_Ref_purity_62 ?_
            refine lv_topi (fun v_19 ev_19 => ?_)
            have eh_20 : rp = nI (np) := hrp
            have bh_20 : np < 4 := hlt
            have h_20 : vp_in rp 4 := by rw [eh_20]; exact vp_in_nI bh_20 (by decide)
            have kh_20 : rp.toNatClampNeg = np := by rw [eh_20]; exact nI_clamp (by omega)
            refine va_iast hx hb hK hP hD hS 1 0 rfl rfl h_20 d_Ref_purity_63 (fun H locs hP hD hS => ?_)
            rw [kh_20] at hP hD
            obtain ⟨uCe2, euCe2⟩ : ∃ y : Nat → Int32, y = upd uCe (np) v_19 := ⟨_, rfl⟩
            rw [← euCe2] at hP hD
            have hP : va_P (dC, dI) vw_cls [(b0, .inr (1, [.int rc, .ref bS, .ref bC, .int rv, .ref bW, .int rp, .ref bCe, .ref bA, .ref bB, .ref bM, .int rf, .ref bG, .ref bK, .ref bCa, .ref bL, .int rd, .int rg, .int re, .ref bO, .int rl, .int rq, .int rb, .long rz])), (bCe, .inl (cI, 4, .inl uCe2)), (bA, .inl (cI, 4, .inl uA)), (bB, .inl (cI, 4, .inl uB))] H := hP
            have hD : va_D A [(b0, .inr (1, [.int rc, .ref bS, .ref bC, .int rv, .ref bW, .int rp, .ref bCe, .ref bA, .ref bB, .ref bM, .int rf, .ref bG, .ref bK, .ref bCa, .ref bL, .int rd, .int rg, .int re, .ref bO, .int rl, .int rq, .int rb, .long rz])), (bCe, .inl (cI, 4, .inl uCe2)), (bA, .inl (cI, 4, .inl uA)), (bB, .inl (cI, 4, .inl uB))] := hD
            refine lv_aload_n hx hb d_Ref_purity_64 rfl (lv_at hl 0 rfl) ?_
            refine va_get (D := (dC, dI)) (ci := 1) (v := .ref bA) (C := R_Ref) (T := T_Ref) (N := 23) hx hb hts in_Ref hown hK hP 0 rfl rfl 7 (by decide) (hts _ tw_436) (fun _ h9 => h9) rfl d_Ref_purity_65 ?_
            refine lv_aload_n hx hb d_Ref_purity_68 rfl (lv_at hl 0 rfl) ?_
            refine va_get (D := (dC, dI)) (ci := 1) (v := .int rp) (C := R_Ref) (T := T_Ref) (N := 23) hx hb hts in_Ref hown hK hP 0 rfl rfl 5 (by decide) (hts _ tw_434) (fun _ h9 => h9) rfl d_Ref_purity_69 ?_
            refine lv_iload_n hx hb d_Ref_purity_72 rfl (lv_at hl 3 rfl) ?_
            have eh_21 : rp = nI (np) := hrp
            have bh_21 : np < 4 := hlt
            have h_21 : vp_in rp 4 := by rw [eh_21]; exact vp_in_nI bh_21 (by decide)
            have kh_21 : rp.toNatClampNeg = np := by rw [eh_21]; exact nI_clamp (by omega)
            refine va_iast hx hb hK hP hD hS 2 0 rfl rfl h_21 d_Ref_purity_73 (fun H locs hP hD hS => ?_)
            rw [kh_21] at hP hD
            obtain ⟨uA2, euA2⟩ : ∃ y : Nat → Int32, y = upd uA (np) o1 := ⟨_, rfl⟩
            rw [← euA2] at hP hD
            have hP : va_P (dC, dI) vw_cls [(b0, .inr (1, [.int rc, .ref bS, .ref bC, .int rv, .ref bW, .int rp, .ref bCe, .ref bA, .ref bB, .ref bM, .int rf, .ref bG, .ref bK, .ref bCa, .ref bL, .int rd, .int rg, .int re, .ref bO, .int rl, .int rq, .int rb, .long rz])), (bCe, .inl (cI, 4, .inl uCe2)), (bA, .inl (cI, 4, .inl uA2)), (bB, .inl (cI, 4, .inl uB))] H := hP
            have hD : va_D A [(b0, .inr (1, [.int rc, .ref bS, .ref bC, .int rv, .ref bW, .int rp, .ref bCe, .ref bA, .ref bB, .ref bM, .int rf, .ref bG, .ref bK, .ref bCa, .ref bL, .int rd, .int rg, .int re, .ref bO, .int rl, .int rq, .int rb, .long rz])), (bCe, .inl (cI, 4, .inl uCe2)), (bA, .inl (cI, 4, .inl uA2)), (bB, .inl (cI, 4, .inl uB))] := hD
            refine lv_aload_n hx hb d_Ref_purity_74 rfl (lv_at hl 0 rfl) ?_
            refine va_get (D := (dC, dI)) (ci := 1) (v := .ref bB) (C := R_Ref) (T := T_Ref) (N := 23) hx hb hts in_Ref hown hK hP 0 rfl rfl 8 (by decide) (hts _ tw_437) (fun _ h9 => h9) rfl d_Ref_purity_75 ?_
            refine lv_aload_n hx hb d_Ref_purity_78 rfl (lv_at hl 0 rfl) ?_
            refine va_get (D := (dC, dI)) (ci := 1) (v := .int rp) (C := R_Ref) (T := T_Ref) (N := 23) hx hb hts in_Ref hown hK hP 0 rfl rfl 5 (by decide) (hts _ tw_434) (fun _ h9 => h9) rfl d_Ref_purity_79 ?_
            refine lv_iload hx hb d_Ref_purity_82 (lv_at hl 4 rfl) ?_
            have eh_22 : rp = nI (np) := hrp
            have bh_22 : np < 4 := hlt
            have h_22 : vp_in rp 4 := by rw [eh_22]; exact vp_in_nI bh_22 (by decide)
            have kh_22 : rp.toNatClampNeg = np := by rw [eh_22]; exact nI_clamp (by omega)
            refine va_iast hx hb hK hP hD hS 3 0 rfl rfl h_22 d_Ref_purity_84 (fun H locs hP hD hS => ?_)
            rw [kh_22] at hP hD
            obtain ⟨uB2, euB2⟩ : ∃ y : Nat → Int32, y = upd uB (np) u1 := ⟨_, rfl⟩
            rw [← euB2] at hP hD
            have hP : va_P (dC, dI) vw_cls [(b0, .inr (1, [.int rc, .ref bS, .ref bC, .int rv, .ref bW, .int rp, .ref bCe, .ref bA, .ref bB, .ref bM, .int rf, .ref bG, .ref bK, .ref bCa, .ref bL, .int rd, .int rg, .int re, .ref bO, .int rl, .int rq, .int rb, .long rz])), (bCe, .inl (cI, 4, .inl uCe2)), (bA, .inl (cI, 4, .inl uA2)), (bB, .inl (cI, 4, .inl uB2))] H := hP
            have hD : va_D A [(b0, .inr (1, [.int rc, .ref bS, .ref bC, .int rv, .ref bW, .int rp, .ref bCe, .ref bA, .ref bB, .ref bM, .int rf, .ref bG, .ref bK, .ref bCa, .ref bL, .int rd, .int rg, .int re, .ref bO, .int rl, .int rq, .int rb, .long rz])), (bCe, .inl (cI, 4, .inl uCe2)), (bA, .inl (cI, 4, .inl uA2)), (bB, .inl (cI, 4, .inl uB2))] := hD
            refine lv_aload_n hx hb d_Ref_purity_85 rfl (lv_at hl 0 rfl) ?_
            refine lv_dup hx hb d_Ref_purity_86 rfl ?_
            refine va_get (D := (dC, dI)) (ci := 1) (v := .int rp) (C := R_Ref) (T := T_Ref) (N := 23) hx hb hts in_Ref hown hK hP 0 rfl rfl 5 (by decide) (hts _ tw_434) (fun _ h9 => h9) rfl d_Ref_purity_87 ?_
            refine lv_iconst (v := 1) hx hb d_Ref_purity_90 (by decide) ?_
            refine lv_iadd hx hb d_Ref_purity_91 ?_
            refine lv_topi (fun v_23 ev_23 => ?_)
            refine va_put (D := (dC, dI)) (ci := 1) (v := .int v_23) (ty := .int) (C := R_Ref) (T := T_Ref) (N := 23) hx hb hts in_Ref ty_Ref ty_Ref_ok nm_Ref hown hK hP hD hS 0 rfl rfl 5 (by decide) (hts _ tw_434) (fun _ h9 => h9) rfl (by decide +kernel) rfl rfl (Nat.le_of_ble_eq_true rfl) d_Ref_purity_92 (fun H locs hP hD hS => ?_)
            have hP : va_P (dC, dI) vw_cls [(b0, .inr (1, [.int rc, .ref bS, .ref bC, .int rv, .ref bW, .int v_23, .ref bCe, .ref bA, .ref bB, .ref bM, .int rf, .ref bG, .ref bK, .ref bCa, .ref bL, .int rd, .int rg, .int re, .ref bO, .int rl, .int rq, .int rb, .long rz])), (bCe, .inl (cI, 4, .inl uCe2)), (bA, .inl (cI, 4, .inl uA2)), (bB, .inl (cI, 4, .inl uB2))] H := hP
            have hD : va_D A [(b0, .inr (1, [.int rc, .ref bS, .ref bC, .int rv, .ref bW, .int v_23, .ref bCe, .ref bA, .ref bB, .ref bM, .int rf, .ref bG, .ref bK, .ref bCa, .ref bL, .int rd, .int rg, .int re, .ref bO, .int rl, .int rq, .int rb, .long rz])), (bCe, .inl (cI, 4, .inl uCe2)), (bA, .inl (cI, 4, .inl uA2)), (bB, .inl (cI, 4, .inl uB2))] := hD
            refine lv_aload_n hx hb d_Ref_purity_95 rfl (lv_at hl 0 rfl) ?_
            refine va_get (D := (dC, dI)) (ci := 1) (v := .int v_23) (C := R_Ref) (T := T_Ref) (N := 23) hx hb hts in_Ref hown hK hP 0 rfl rfl 5 (by decide) (hts _ tw_434) (fun _ h9 => h9) rfl d_Ref_purity_96 ?_
            refine lv_iconst (v := 1) hx hb d_Ref_purity_99 (by decide) ?_
            refine lv_isub hx hb d_Ref_purity_100 ?_
            refine lv_topi (fun v_24 ev_24 => ?_)
            have hP9 := hP.sub (ws' := [(b0, .inr (1, [.int rc, .ref bS, .ref bC, .int rv, .ref bW, .int v_23, .ref bCe, .ref bA, .ref bB, .ref bM, .int rf, .ref bG, .ref bK, .ref bCa, .ref bL, .int rd, .int rg, .int re, .ref bO, .int rl, .int rq, .int rb, .long rz])), (bCe, .inl (cI, 4, .inl uCe2)), (bA, .inl (cI, 4, .inl uA2)), (bB, .inl (cI, 4, .inl uB2))]) [0, 1, 2, 3] rfl
            have hD9 := hD.sub (ws' := [(b0, .inr (1, [.int rc, .ref bS, .ref bC, .int rv, .ref bW, .int v_23, .ref bCe, .ref bA, .ref bB, .ref bM, .int rf, .ref bG, .ref bK, .ref bCa, .ref bL, .int rd, .int rg, .int re, .ref bO, .int rl, .int rq, .int rb, .long rz])), (bCe, .inl (cI, 4, .inl uCe2)), (bA, .inl (cI, 4, .inl uA2)), (bB, .inl (cI, 4, .inl uB2))]) [0, 1, 2, 3] (by decide) rfl
            have hpost_25 : ((rg = 0 ∧ ¬ q_pl p1 k1 = -1 ∧ q_puOk rp o1 u1) ∧ (v_24 : Int32) = rp ∧ v_23 = rp + 1 ∧ uCe2 = upd uCe np (q_pl p1 k1) ∧ uA2 = upd uA np o1 ∧ uB2 = upd uB np u1) ∨ (¬ (rg = 0 ∧ ¬ q_pl p1 k1 = -1 ∧ q_puOk rp o1 u1) ∧ (v_24 : Int32) = -1 ∧ v_23 = rp ∧ uCe2 = uCe ∧ uA2 = uA ∧ uB2 = uB) := Or.inl ⟨hok, by simp only [ev_9, ev_14, ev_18, ev_19, ev_23, ev_24]; exact Int32.add_sub_cancel _ _, ev_23, by rw [euCe2]; simp only [ev_9, ev_14, ev_18, ev_19, ev_23, ev_24]; rw [q_pl_comm cp], euA2, euB2⟩
            exact W.iret (v := v_24) hx hb hr (fun t ht hW => ⟨⟨v_24, (v_23, uCe2, uA2, uB2), rfl, hpost_25, by rw [ht]; exact hP9, hD9⟩, hS.F ht⟩) hS.2.2 d_Ref_purity_101
          · skip
            have ck := ir_out (x := u1) (a := 1) (b := 1000) (by show  q_isIn u1.toInt64 1 1000 = 0; rw [← ev_14, ← hw_16]; exact c_17)
            have hbad : ¬ (rg = 0 ∧ ¬ q_pl p1 k1 = -1 ∧ q_puOk rp o1 u1) := fun z => ck.elim z.2.2.2.2.2.1 (fun q => absurd z.2.2.2.2.2.2 (Int32.not_le.mpr q))
            refine lv_iconst (v := (-1)) hx hb d_Ref_purity_48 (by decide) ?_
            have hP9 := hP.sub (ws' := [(b0, .inr (1, [.int rc, .ref bS, .ref bC, .int rv, .ref bW, .int rp, .ref bCe, .ref bA, .ref bB, .ref bM, .int rf, .ref bG, .ref bK, .ref bCa, .ref bL, .int rd, .int rg, .int re, .ref bO, .int rl, .int rq, .int rb, .long rz])), (bCe, .inl (cI, 4, .inl uCe)), (bA, .inl (cI, 4, .inl uA)), (bB, .inl (cI, 4, .inl uB))]) [0, 1, 2, 3] rfl
            have hD9 := hD.sub (ws' := [(b0, .inr (1, [.int rc, .ref bS, .ref bC, .int rv, .ref bW, .int rp, .ref bCe, .ref bA, .ref bB, .ref bM, .int rf, .ref bG, .ref bK, .ref bCa, .ref bL, .int rd, .int rg, .int re, .ref bO, .int rl, .int rq, .int rb, .long rz])), (bCe, .inl (cI, 4, .inl uCe)), (bA, .inl (cI, 4, .inl uA)), (bB, .inl (cI, 4, .inl uB))]) [0, 1, 2, 3] (by decide) rfl
            have hpost_26 : ((rg = 0 ∧ ¬ q_pl p1 k1 = -1 ∧ q_puOk rp o1 u1) ∧ ((-1) : Int32) = rp ∧ rp = rp + 1 ∧ uCe = upd uCe np (q_pl p1 k1) ∧ uA = upd uA np o1 ∧ uB = upd uB np u1) ∨ (¬ (rg = 0 ∧ ¬ q_pl p1 k1 = -1 ∧ q_puOk rp o1 u1) ∧ ((-1) : Int32) = -1 ∧ rp = rp ∧ uCe = uCe ∧ uA = uA ∧ uB = uB) := Or.inr ⟨hbad, rfl, rfl, rfl, rfl, rfl⟩
            exact W.iret (v := (-1)) hx hb hr (fun t ht hW => ⟨⟨(-1), (rp, uCe, uA, uB), rfl, hpost_26, by rw [ht]; exact hP9, hD9⟩, hS.F ht⟩) hS.2.2 d_Ref_purity_49
set_option maxHeartbeats 4000000 in
set_option maxRecDepth 100000 in
/-- the reference: most -/
theorem m_most (l : Launch) (dC : Nat → ClassId) (dI : Nat → Nat → Nat) (sz : Nat) (cI : ClassId) (cZ : ClassId) (cQ : ClassId) (b0 : Nat) (rc : Int32) (bS : Nat) (bC : Nat) (rv : Int32) (bW : Nat) (rp : Int32) (bCe : Nat) (bA : Nat) (bB : Nat) (bM : Nat) (rf : Int32) (bG : Nat) (bK : Nat) (bCa : Nat) (bL : Nat) (rd : Int32) (rg : Int32) (re : Int32) (bO : Nat) (rl : Int32) (rq : Int32) (rb : Int32) (rz : Int64) (uM : Nat → Int32) (m1 : Int32) (x1 : Int32) (nc : Nat) (hrc : rc = nI nc) (hnc : nc ≤ 5) : Met l y_Ref_most w_Ref_most ({ frames := 1, cells := 0, slots := 0, locals := 25 } : Room) (va_Pc [.ref b0, .int m1, .int x1] (fun U => U.heap.size = sz ∧ va_P (dC, dI) vw_cls [(b0, .inr (1, [.int rc, .ref bS, .ref bC, .int rv, .ref bW, .int rp, .ref bCe, .ref bA, .ref bB, .ref bM, .int rf, .ref bG, .ref bK, .ref bCa, .ref bL, .int rd, .int rg, .int re, .ref bO, .int rl, .int rq, .int rb, .long rz])), (bM, .inl (cI, 5, .inl uM))] U.heap ∧ g_K dC dI [(cI, .int), (cZ, .boolean), (cQ, (.object "SettingSearch$Answers"))] U ∧ va_D (fun _ => True) [(b0, .inr (1, [.int rc, .ref bS, .ref bC, .int rv, .ref bW, .int rp, .ref bCe, .ref bA, .ref bB, .ref bM, .int rf, .ref bG, .ref bK, .ref bCa, .ref bL, .int rd, .int rg, .int re, .ref bO, .int rl, .int rq, .int rb, .long rz])), (bM, .inl (cI, 5, .inl uM))])) (va_Qi (fun (r : Int32) (u : (Nat → Int32)) => ((rg = 0 ∧ ¬ m1 < 0 ∧ ¬ rc ≤ m1 ∧ ¬ x1 < -1 ∧ x1 ≤ 1000000) ∧ r = 1 ∧ u = upd uM m1.toNatClampNeg x1) ∨ (¬ (rg = 0 ∧ ¬ m1 < 0 ∧ ¬ rc ≤ m1 ∧ ¬ x1 < -1 ∧ x1 ≤ 1000000) ∧ r = 0 ∧ u = uM)) (fun (u : (Nat → Int32)) (t : State) => va_P (dC, dI) vw_cls [(b0, .inr (1, [.int rc, .ref bS, .ref bC, .int rv, .ref bW, .int rp, .ref bCe, .ref bA, .ref bB, .ref bM, .int rf, .ref bG, .ref bK, .ref bCa, .ref bL, .int rd, .int rg, .int re, .ref bO, .int rl, .int rq, .int rb, .long rz])), (bM, .inl (cI, 5, .inl u))] t.heap ∧ va_D (va_A [(b0, .inr (1, [.int rc, .ref bS, .ref bC, .int rv, .ref bW, .int rp, .ref bCe, .ref bA, .ref bB, .ref bM, .int rf, .ref bG, .ref bK, .ref bCa, .ref bL, .int rd, .int rg, .int re, .ref bO, .int rl, .int rq, .int rb, .long rz])), (bM, .inl (cI, 5, .inl uM))] sz) [(b0, .inr (1, [.int rc, .ref bS, .ref bC, .int rv, .ref bW, .int rp, .ref bCe, .ref bA, .ref bB, .ref bM, .int rf, .ref bG, .ref bK, .ref bCa, .ref bL, .int rd, .int rg, .int re, .ref bO, .int rl, .int rq, .int rb, .long rz])), (bM, .inl (cI, 5, .inl u))]) (va_A [(b0, .inr (1, [.int rc, .ref bS, .ref bC, .int rv, .ref bW, .int rp, .ref bCe, .ref bA, .ref bB, .ref bM, .int rf, .ref bG, .ref bK, .ref bCa, .ref bL, .int rd, .int rg, .int re, .ref bO, .int rl, .int rq, .int rb, .long rz])), (bM, .inl (cI, 5, .inl uM))] sz)) 0 0 (va_A [(b0, .inr (1, [.int rc, .ref bS, .ref bC, .int rv, .ref bW, .int rp, .ref bCe, .ref bA, .ref bB, .ref bM, .int rf, .ref bG, .ref bK, .ref bCa, .ref bL, .int rd, .int rg, .int re, .ref bO, .int rl, .int rq, .int rb, .long rz])), (bM, .inl (cI, 5, .inl uM))] sz) := by
  refine Met.ofW (cc := b_Ref_most) (maxL := 3) (ret := (some .boolean)) (by decide) rfl ?_
  intro p e s m args below meth c s₁ B hml hv
  obtain ⟨rfl, hsz, hP, hKN, hD0⟩ := hv
  obtain ⟨hK, hN⟩ := id hKN
  have hx := B.exec
  have hb := B.bytes
  have hr := B.returns
  have hts0 := atoms_spec (ws := w_Ref_most) B.pre
  have hts : ∀ w ∈ lw_g, w.before _ s = true := fun w h => hts0 w (List.mem_cons_of_mem _ h)
  have hown : s.vm.findClass R_Ref = some m.cls := findClass_of_methodNamed B.named
  have hlocks := B.notSynchronized
  subst hsz
  have hD := hD0.self (sz := s.heap.size)
  generalize hAe : va_A [(b0, .inr (1, [.int rc, .ref bS, .ref bC, .int rv, .ref bW, .int rp, .ref bCe, .ref bA, .ref bB, .ref bM, .int rf, .ref bG, .ref bK, .ref bCa, .ref bL, .int rd, .int rg, .int re, .ref bO, .int rl, .int rq, .int rb, .long rz])), (bM, .inl (cI, 5, .inl uM))] s.heap.size = A at hD ⊢
  have hA : ∀ q : Nat, s.heap.size ≤ q → A q := fun q h => by rw [← hAe]; exact Or.inr h
  have hP : va_P (dC, dI) vw_cls [(b0, .inr (1, [.int rc, .ref bS, .ref bC, .int rv, .ref bW, .int rp, .ref bCe, .ref bA, .ref bB, .ref bM, .int rf, .ref bG, .ref bK, .ref bCa, .ref bL, .int rd, .int rg, .int re, .ref bO, .int rl, .int rq, .int rb, .long rz])), (bM, .inl (cI, 5, .inl uM))] s.heap := hP
  have hl := lv_entry ([.ref b0, .int m1, .int x1]) (n := 3) (Nat.le_of_ble_eq_true rfl)
  rw [lg_entry_eq]
  generalize (lg_sl ([.ref b0, .int m1, .int x1]) ++ List.replicate (3 - (lg_sl ([.ref b0, .int m1, .int x1])).length) Slot.unset).toArray = ls at hl ⊢
  have hl : lv_has ls 3 [(0, .ref b0), (1, .int m1), (2, .int x1)] := hl
  refine gw_start (fun H locs hH hlocs => ?_)
  rw [← hH] at hP
  have hS : va_S A s.heap H locs := by rw [hH, hlocs]; exact va_S.rf
  refine lv_aload_n hx hb d_Ref_most_0 rfl (lv_at hl 0 rfl) ?_
  refine va_get (D := (dC, dI)) (ci := 1) (v := .int rg) (C := R_Ref) (T := T_Ref) (N := 23) hx hb hts in_Ref hown hK hP 0 rfl rfl 16 (by decide) (hts _ tw_445) (fun _ h9 => h9) rfl d_Ref_most_1 ?_
  refine lv_if_ne (tgt := 29) hx hb d_Ref_most_4 (by decide) (fun c_1 => ?_) (fun c_1 => ?_)
  · skip
    have hbad : ¬ (rg = 0 ∧ ¬ m1 < 0 ∧ ¬ rc ≤ m1 ∧ ¬ x1 < -1 ∧ x1 ≤ 1000000) := fun z => c_1 z.1
    refine lv_iconst (v := 0) hx hb d_Ref_most_29 (by decide) ?_
    have hP9 := hP.sub (ws' := [(b0, .inr (1, [.int rc, .ref bS, .ref bC, .int rv, .ref bW, .int rp, .ref bCe, .ref bA, .ref bB, .ref bM, .int rf, .ref bG, .ref bK, .ref bCa, .ref bL, .int rd, .int rg, .int re, .ref bO, .int rl, .int rq, .int rb, .long rz])), (bM, .inl (cI, 5, .inl uM))]) [0, 1] rfl
    have hD9 := hD.sub (ws' := [(b0, .inr (1, [.int rc, .ref bS, .ref bC, .int rv, .ref bW, .int rp, .ref bCe, .ref bA, .ref bB, .ref bM, .int rf, .ref bG, .ref bK, .ref bCa, .ref bL, .int rd, .int rg, .int re, .ref bO, .int rl, .int rq, .int rb, .long rz])), (bM, .inl (cI, 5, .inl uM))]) [0, 1] (by decide) rfl
    have hpost_2 : ((rg = 0 ∧ ¬ m1 < 0 ∧ ¬ rc ≤ m1 ∧ ¬ x1 < -1 ∧ x1 ≤ 1000000) ∧ (0 : Int32) = 1 ∧ uM = upd uM m1.toNatClampNeg x1) ∨ (¬ (rg = 0 ∧ ¬ m1 < 0 ∧ ¬ rc ≤ m1 ∧ ¬ x1 < -1 ∧ x1 ≤ 1000000) ∧ (0 : Int32) = 0 ∧ uM = uM) := Or.inr ⟨hbad, rfl, rfl⟩
    exact W.zret (v := 0) hx hb hr (rfl) (fun t ht hW => ⟨⟨0, uM, rfl, hpost_2, by rw [ht]; exact hP9, hD9⟩, hS.F ht⟩) hS.2.2 d_Ref_most_30
  · skip
    have cg : rg = 0 := c_1
    refine lv_aload_n hx hb d_Ref_most_7 rfl (lv_at hl 0 rfl) ?_
    refine lv_iload_n hx hb d_Ref_most_8 rfl (lv_at hl 1 rfl) ?_
    have hPc := hP.sub (ws' := [(b0, .inr (1, [.int rc, .ref bS, .ref bC, .int rv, .ref bW, .int rp, .ref bCe, .ref bA, .ref bB, .ref bM, .int rf, .ref bG, .ref bK, .ref bCa, .ref bL, .int rd, .int rg, .int re, .ref bO, .int rl, .int rq, .int rb, .long rz]))]) [0] rfl
    have hDc := hD.sub (ws' := [(b0, .inr (1, [.int rc, .ref bS, .ref bC, .int rv, .ref bW, .int rp, .ref bCe, .ref bA, .ref bB, .ref bM, .int rf, .ref bG, .ref bK, .ref bCa, .ref bL, .int rd, .int rg, .int re, .ref bO, .int rl, .int rq, .int rb, .long rz]))]) [0] (by decide) rfl
    have hFc := va_free (wc := [(b0, .inr (1, [.int rc, .ref bS, .ref bC, .int rv, .ref bW, .int rp, .ref bCe, .ref bA, .ref bB, .ref bM, .int rf, .ref bG, .ref bK, .ref bCa, .ref bL, .int rd, .int rg, .int re, .ref bO, .int rl, .int rq, .int rb, .long rz]))]) hD hS hA [0] rfl
    refine va_calli (va_runV (As := [.int m1]) (rest := []) ⟨hx, hb, hml, hown, hts⟩ (m_isM l dC dI H.size cI cZ cQ b0 rc bS bC rv bW rp bCe bA bB bM rf bG bK bCa bL rd rg re bO rl rq rb rz m1 ) ⟨(callB_of 1 hts (ga_all tw_528) rfl rfl rfl (hts _ tw_29) (hts _ tw_525) (by decide +kernel) ⟨Nat.le_of_ble_eq_true rfl, Nat.le_of_ble_eq_true rfl⟩), hts _ tw_527, hts _ tw_9⟩ ⟨fun a U g mk q => by obtain ⟨q0, q1, qP, qK, qD⟩ := q; exact ⟨q0, q1, qP, g_K.same (u := U) (U := U.calling g mk a) rfl qK, qD⟩, va_recv hK hPc (ci := 1) (q0 := 0) rfl rfl, fun U hU hW => ⟨rfl, by rw [hU], by rw [hU]; exact hPc, g_K.warm hW hKN, hDc.weaken (fun _ _ _ _ => trivial)⟩⟩ rfl rfl hl.1 rfl (lv_room (Nat.le_of_ble_eq_true rfl)) d_Ref_most_9 ⟨Nat.le_of_ble_eq_true rfl, Nat.le_of_ble_eq_true rfl⟩) hS (fun q _ h => hFc q h) hFc (fun r_3 u t H1 locs htt hvm hw_4 hBB hzz hkk hS => ?_)
    have hw_4 : r_3 = q_has rc m1 := hw_4
    obtain ⟨hPP, hDD⟩ := hBB
    rw [htt] at hPP
    have hPP : va_P (dC, dI) vw_cls [(b0, .inr (1, [.int rc, .ref bS, .ref bC, .int rv, .ref bW, .int rp, .ref bCe, .ref bA, .ref bB, .ref bM, .int rf, .ref bG, .ref bK, .ref bCa, .ref bL, .int rd, .int rg, .int re, .ref bO, .int rl, .int rq, .int rb, .long rz]))] H1 := hPP
    have hDD : va_D (va_A [(b0, .inr (1, [.int rc, .ref bS, .ref bC, .int rv, .ref bW, .int rp, .ref bCe, .ref bA, .ref bB, .ref bM, .int rf, .ref bG, .ref bK, .ref bCa, .ref bL, .int rd, .int rg, .int re, .ref bO, .int rl, .int rq, .int rb, .long rz]))] H.size) [(b0, .inr (1, [.int rc, .ref bS, .ref bC, .int rv, .ref bW, .int rp, .ref bCe, .ref bA, .ref bB, .ref bM, .int rf, .ref bG, .ref bK, .ref bCa, .ref bL, .int rd, .int rg, .int re, .ref bO, .int rl, .int rq, .int rb, .long rz]))] := hDD
    obtain ⟨hP, hD⟩ := va_join (wr := [(bM, .inl (cI, 5, .inl uM))]) (w1 := [(b0, .inr (1, [.int rc, .ref bS, .ref bC, .int rv, .ref bW, .int rp, .ref bCe, .ref bA, .ref bB, .ref bM, .int rf, .ref bG, .ref bK, .ref bCa, .ref bL, .int rd, .int rg, .int re, .ref bO, .int rl, .int rq, .int rb, .long rz]))]) hP hD [0] [1] rfl rfl (by decide) (by decide) hkk hFc hPP hDD
    generalize H1 = H at hP hS ⊢
    have hP : va_P (dC, dI) vw_cls [(bM, .inl (cI, 5, .inl uM)), (b0, .inr (1, [.int rc, .ref bS, .ref bC, .int rv, .ref bW, .int rp, .ref bCe, .ref bA, .ref bB, .ref bM, .int rf, .ref bG, .ref bK, .ref bCa, .ref bL, .int rd, .int rg, .int re, .ref bO, .int rl, .int rq, .int rb, .long rz]))] H := hP
    have hD : va_D A [(bM, .inl (cI, 5, .inl uM)), (b0, .inr (1, [.int rc, .ref bS, .ref bC, .int rv, .ref bW, .int rp, .ref bCe, .ref bA, .ref bB, .ref bM, .int rf, .ref bG, .ref bK, .ref bCa, .ref bL, .int rd, .int rg, .int re, .ref bO, .int rl, .int rq, .int rb, .long rz]))] := hD
    refine lv_if_eq (tgt := 29) hx hb d_Ref_most_12 (by decide) (fun c_5 => ?_) (fun c_5 => ?_)
    · skip
      have hbad : ¬ (rg = 0 ∧ ¬ m1 < 0 ∧ ¬ rc ≤ m1 ∧ ¬ x1 < -1 ∧ x1 ≤ 1000000) := fun z => (q_has_eq hw_4 c_5).elim z.2.1 z.2.2.1
      refine lv_iconst (v := 0) hx hb d_Ref_most_29 (by decide) ?_
      have hP9 := hP.sub (ws' := [(b0, .inr (1, [.int rc, .ref bS, .ref bC, .int rv, .ref bW, .int rp, .ref bCe, .ref bA, .ref bB, .ref bM, .int rf, .ref bG, .ref bK, .ref bCa, .ref bL, .int rd, .int rg, .int re, .ref bO, .int rl, .int rq, .int rb, .long rz])), (bM, .inl (cI, 5, .inl uM))]) [1, 0] rfl
      have hD9 := hD.sub (ws' := [(b0, .inr (1, [.int rc, .ref bS, .ref bC, .int rv, .ref bW, .int rp, .ref bCe, .ref bA, .ref bB, .ref bM, .int rf, .ref bG, .ref bK, .ref bCa, .ref bL, .int rd, .int rg, .int re, .ref bO, .int rl, .int rq, .int rb, .long rz])), (bM, .inl (cI, 5, .inl uM))]) [1, 0] (by decide) rfl
      have hpost_6 : ((rg = 0 ∧ ¬ m1 < 0 ∧ ¬ rc ≤ m1 ∧ ¬ x1 < -1 ∧ x1 ≤ 1000000) ∧ (0 : Int32) = 1 ∧ uM = upd uM m1.toNatClampNeg x1) ∨ (¬ (rg = 0 ∧ ¬ m1 < 0 ∧ ¬ rc ≤ m1 ∧ ¬ x1 < -1 ∧ x1 ≤ 1000000) ∧ (0 : Int32) = 0 ∧ uM = uM) := Or.inr ⟨hbad, rfl, rfl⟩
      exact W.zret (v := 0) hx hb hr (rfl) (fun t ht hW => ⟨⟨0, uM, rfl, hpost_6, by rw [ht]; exact hP9, hD9⟩, hS.F ht⟩) hS.2.2 d_Ref_most_30
    · skip
      have ch := q_has_ne hw_4 c_5
      refine lv_iload_n hx hb d_Ref_most_15 rfl (lv_at hl 2 rfl) ?_
      refine lv_i2l hx hb d_Ref_most_16 rfl ?_
      refine lv_topl (fun v_7 ev_7 => ?_)
      refine lv_ldc2 (v := (-1)) hx hb hown (hts _ tw_529) d_Ref_most_17 ?_
      refine lv_ldc2 (v := 1000000) hx hb hown (hts _ tw_530) d_Ref_most_20 ?_
      have hPc := hP.sub (ws' := []) [] rfl
      have hDc := hD.sub (ws' := []) [] (by decide) rfl
      have hFc := va_free (wc := []) hD hS hA [] rfl
      refine va_calli (va_runS (As := [.long v_7, .long (-1), .long 1000000]) (rest := []) ⟨hx, hb, hml, hown, hts⟩ (m_isIn l dC dI H.size cI cZ cQ v_7 (-1) 1000000 ) ⟨(callB_of 3 hts (ga_all tw_506) rfl rfl rfl (hts _ tw_29) (hts _ tw_504) (by decide +kernel) ⟨Nat.le_of_ble_eq_true rfl, Nat.le_of_ble_eq_true rfl⟩), hts _ tw_505⟩ ⟨fun a U g mk q => by obtain ⟨q0, q1, qP, qK, qD⟩ := q; exact ⟨q0, q1, qP, g_K.same (u := U) (U := U.calling g mk a) rfl qK, qD⟩, fun U hU hW => ⟨rfl, by rw [hU], by rw [hU]; exact hPc, g_K.warm hW hKN, hDc.weaken (fun _ _ _ _ => trivial)⟩⟩ rfl rfl hl.1 rfl (lv_room (Nat.le_of_ble_eq_true rfl)) d_Ref_most_23 ⟨Nat.le_of_ble_eq_true rfl, Nat.le_of_ble_eq_true rfl⟩) hS (fun q _ h => hFc q h) hFc (fun r_8 u t H1 locs htt hvm hw_9 hBB hzz hkk hS => ?_)
      have hw_9 : r_8 = q_isIn v_7 (-1) 1000000 := hw_9
      obtain ⟨hPP, hDD⟩ := hBB
      rw [htt] at hPP
      have hPP : va_P (dC, dI) vw_cls [] H1 := hPP
      have hDD : va_D (va_A [] H.size) [] := hDD
      obtain ⟨hP, hD⟩ := va_join (wr := [(bM, .inl (cI, 5, .inl uM)), (b0, .inr (1, [.int rc, .ref bS, .ref bC, .int rv, .ref bW, .int rp, .ref bCe, .ref bA, .ref bB, .ref bM, .int rf, .ref bG, .ref bK, .ref bCa, .ref bL, .int rd, .int rg, .int re, .ref bO, .int rl, .int rq, .int rb, .long rz]))]) (w1 := []) hP hD [] [0, 1] rfl rfl (by decide) (by decide) hkk hFc hPP hDD
      generalize H1 = H at hP hS ⊢
      have hP : va_P (dC, dI) vw_cls [(bM, .inl (cI, 5, .inl uM)), (b0, .inr (1, [.int rc, .ref bS, .ref bC, .int rv, .ref bW, .int rp, .ref bCe, .ref bA, .ref bB, .ref bM, .int rf, .ref bG, .ref bK, .ref bCa, .ref bL, .int rd, .int rg, .int re, .ref bO, .int rl, .int rq, .int rb, .long rz]))] H := hP
      have hD : va_D A [(bM, .inl (cI, 5, .inl uM)), (b0, .inr (1, [.int rc, .ref bS, .ref bC, .int rv, .ref bW, .int rp, .ref bCe, .ref bA, .ref bB, .ref bM, .int rf, .ref bG, .ref bK, .ref bCa, .ref bL, .int rd, .int rg, .int re, .ref bO, .int rl, .int rq, .int rb, .long rz]))] := hD
      refine lv_if_ne (tgt := 31) hx hb d_Ref_most_26 (by decide) (fun c_10 => ?_) (fun c_10 => ?_)
      · skip
        have ck := ir_in (x := x1) (a := (-1)) (b := 1000000) (by show ¬ q_isIn x1.toInt64 (-1) 1000000 = 0; rw [← ev_7, ← hw_9]; exact c_10)
        have hok : (rg = 0 ∧ ¬ m1 < 0 ∧ ¬ rc ≤ m1 ∧ ¬ x1 < -1 ∧ x1 ≤ 1000000) := ⟨cg, ch.1, ch.2, ck.1, Int32.not_lt.mp ck.2⟩
        refine lv_aload_n hx hb d_Ref_most_31 rfl (lv_at hl 0 rfl) ?_
        refine va_get (D := (dC, dI)) (ci := 1) (v := .ref bM) (C := R_Ref) (T := T_Ref) (N := 23) hx hb hts in_Ref hown hK hP 1 rfl rfl 9 (by decide) (hts _ tw_438) (fun _ h9 => h9) rfl d_Ref_most_32 ?_
        refine lv_iload_n hx hb d_Ref_most_35 rfl (lv_at hl 1 rfl) ?_
        refine lv_iload_n hx hb d_Ref_most_36 rfl (lv_at hl 2 rfl) ?_
        have eh_11 : m1 = nI (m1.toNatClampNeg) := ix_ge ch.1
        have bh_11 : m1.toNatClampNeg < 5 := by have q := ix_lt ch.1 ch.2 hrc (by omega); omega
        have h_11 : vp_in m1 5 := by rw [eh_11]; exact vp_in_nI bh_11 (by decide)
        have kh_11 : m1.toNatClampNeg = m1.toNatClampNeg := rfl
        refine va_iast hx hb hK hP hD hS 0 0 rfl rfl h_11 d_Ref_most_37 (fun H locs hP hD hS => ?_)
        rw [kh_11] at hP hD
        obtain ⟨uM2, euM2⟩ : ∃ y : Nat → Int32, y = upd uM (m1.toNatClampNeg) x1 := ⟨_, rfl⟩
        rw [← euM2] at hP hD
        have hP : va_P (dC, dI) vw_cls [(bM, .inl (cI, 5, .inl uM2)), (b0, .inr (1, [.int rc, .ref bS, .ref bC, .int rv, .ref bW, .int rp, .ref bCe, .ref bA, .ref bB, .ref bM, .int rf, .ref bG, .ref bK, .ref bCa, .ref bL, .int rd, .int rg, .int re, .ref bO, .int rl, .int rq, .int rb, .long rz]))] H := hP
        have hD : va_D A [(bM, .inl (cI, 5, .inl uM2)), (b0, .inr (1, [.int rc, .ref bS, .ref bC, .int rv, .ref bW, .int rp, .ref bCe, .ref bA, .ref bB, .ref bM, .int rf, .ref bG, .ref bK, .ref bCa, .ref bL, .int rd, .int rg, .int re, .ref bO, .int rl, .int rq, .int rb, .long rz]))] := hD
        refine lv_iconst (v := 1) hx hb d_Ref_most_38 (by decide) ?_
        have hP9 := hP.sub (ws' := [(b0, .inr (1, [.int rc, .ref bS, .ref bC, .int rv, .ref bW, .int rp, .ref bCe, .ref bA, .ref bB, .ref bM, .int rf, .ref bG, .ref bK, .ref bCa, .ref bL, .int rd, .int rg, .int re, .ref bO, .int rl, .int rq, .int rb, .long rz])), (bM, .inl (cI, 5, .inl uM2))]) [1, 0] rfl
        have hD9 := hD.sub (ws' := [(b0, .inr (1, [.int rc, .ref bS, .ref bC, .int rv, .ref bW, .int rp, .ref bCe, .ref bA, .ref bB, .ref bM, .int rf, .ref bG, .ref bK, .ref bCa, .ref bL, .int rd, .int rg, .int re, .ref bO, .int rl, .int rq, .int rb, .long rz])), (bM, .inl (cI, 5, .inl uM2))]) [1, 0] (by decide) rfl
        have hpost_12 : ((rg = 0 ∧ ¬ m1 < 0 ∧ ¬ rc ≤ m1 ∧ ¬ x1 < -1 ∧ x1 ≤ 1000000) ∧ (1 : Int32) = 1 ∧ uM2 = upd uM m1.toNatClampNeg x1) ∨ (¬ (rg = 0 ∧ ¬ m1 < 0 ∧ ¬ rc ≤ m1 ∧ ¬ x1 < -1 ∧ x1 ≤ 1000000) ∧ (1 : Int32) = 0 ∧ uM2 = uM) := Or.inl ⟨hok, rfl, euM2⟩
        exact W.zret (v := 1) hx hb hr (rfl) (fun t ht hW => ⟨⟨1, uM2, rfl, hpost_12, by rw [ht]; exact hP9, hD9⟩, hS.F ht⟩) hS.2.2 d_Ref_most_39
      · skip
        have ck := ir_out (x := x1) (a := (-1)) (b := 1000000) (by show  q_isIn x1.toInt64 (-1) 1000000 = 0; rw [← ev_7, ← hw_9]; exact c_10)
        have hbad : ¬ (rg = 0 ∧ ¬ m1 < 0 ∧ ¬ rc ≤ m1 ∧ ¬ x1 < -1 ∧ x1 ≤ 1000000) := fun z => ck.elim z.2.2.2.1 (fun q => absurd z.2.2.2.2 (Int32.not_le.mpr q))
        refine lv_iconst (v := 0) hx hb d_Ref_most_29 (by decide) ?_
        have hP9 := hP.sub (ws' := [(b0, .inr (1, [.int rc, .ref bS, .ref bC, .int rv, .ref bW, .int rp, .ref bCe, .ref bA, .ref bB, .ref bM, .int rf, .ref bG, .ref bK, .ref bCa, .ref bL, .int rd, .int rg, .int re, .ref bO, .int rl, .int rq, .int rb, .long rz])), (bM, .inl (cI, 5, .inl uM))]) [1, 0] rfl
        have hD9 := hD.sub (ws' := [(b0, .inr (1, [.int rc, .ref bS, .ref bC, .int rv, .ref bW, .int rp, .ref bCe, .ref bA, .ref bB, .ref bM, .int rf, .ref bG, .ref bK, .ref bCa, .ref bL, .int rd, .int rg, .int re, .ref bO, .int rl, .int rq, .int rb, .long rz])), (bM, .inl (cI, 5, .inl uM))]) [1, 0] (by decide) rfl
        have hpost_13 : ((rg = 0 ∧ ¬ m1 < 0 ∧ ¬ rc ≤ m1 ∧ ¬ x1 < -1 ∧ x1 ≤ 1000000) ∧ (0 : Int32) = 1 ∧ uM = upd uM m1.toNatClampNeg x1) ∨ (¬ (rg = 0 ∧ ¬ m1 < 0 ∧ ¬ rc ≤ m1 ∧ ¬ x1 < -1 ∧ x1 ≤ 1000000) ∧ (0 : Int32) = 0 ∧ uM = uM) := Or.inr ⟨hbad, rfl, rfl⟩
        exact W.zret (v := 0) hx hb hr (rfl) (fun t ht hW => ⟨⟨0, uM, rfl, hpost_13, by rw [ht]; exact hP9, hD9⟩, hS.F ht⟩) hS.2.2 d_Ref_most_30
