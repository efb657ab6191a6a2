def q_ask (uS : Nat → Int32) (nc : Nat) (rc q m : Int32) : Int32 := if q < 0 then -1 else if m < 0 then -1 else if rc ≤ m then -1 else nI (q_dg uS nc q.toNatClampNeg m.toNatClampNeg)
theorem q_ask_m {uS : Nat → Int32} {nc : Nat} {rc q m : Int32} (h : ¬ q < 0) (hm : m < 0 ∨ rc ≤ m) : q_ask uS nc rc q m = -1 := by
  by_cases h1 : m < 0
  · rw [q_ask, if_neg h, if_pos h1]
  · rw [q_ask, if_neg h, if_neg h1, if_pos (hm.resolve_left h1)]
def q_ber (uS uC : Nat → Int32) (nc jv : Nat) : Nat → Nat → Int32
  | 0 => uC
  | k + 1 => upd (q_ber uS uC nc jv k) k (nI (q_dg uS nc jv k))
def q_othr (uCa : Nat → Int32) (b own : Nat) : Nat → Int64
  | 0 => 0
  | j + 1 => q_othr uCa b own j + if j = own then 0 else (uCa (b + j)).toInt64
def q_kc (uK : Nat → Int32) (b : Nat) : Nat → Int32
  | 0 => 0
  | v + 1 => q_kc uK b v + if uK (b + v) = 0 then 0 else 1
set_option maxHeartbeats 4000000 in
set_option maxRecDepth 100000 in
/-- the reference: asked -/
theorem m_asked (l : Launch) (dC : Nat → ClassId) (dI : Nat → Nat → Nat) (sz : Nat) (cI : ClassId) (cZ : ClassId) (cQ : ClassId) (b0 : Nat) (rc : Int32) (bS : Nat) (bC : Nat) (rv : Int32) (bW : Nat) (rp : Int32) (bCe : Nat) (bA : Nat) (bB : Nat) (bM : Nat) (rf : Int32) (bG : Nat) (bK : Nat) (bCa : Nat) (bL : Nat) (rd : Int32) (rg : Int32) (re : Int32) (bO : Nat) (rl : Int32) (rq : Int32) (rb : Int32) (rz : Int64) (uS : Nat → Int32) (m1 : Int32) (nc : Nat) (hrc : rc = nI nc) (hnc : nc ≤ 5) (hS1 : q_okS uS nc) (hqv : ¬ rq < 0 → rq = nI rq.toNatClampNeg ∧ rq.toNatClampNeg < 64) : Met l y_Ref_asked w_Ref_asked ({ frames := 1, cells := 0, slots := 0, locals := 24 } : Room) (va_Pc [.ref b0, .int m1] (fun U => U.heap.size = sz ∧ va_P (dC, dI) vw_cls [(b0, .inr (1, [.int rc, .ref bS, .ref bC, .int rv, .ref bW, .int rp, .ref bCe, .ref bA, .ref bB, .ref bM, .int rf, .ref bG, .ref bK, .ref bCa, .ref bL, .int rd, .int rg, .int re, .ref bO, .int rl, .int rq, .int rb, .long rz])), (bS, .inl (cI, 5, .inl uS))] U.heap ∧ g_K dC dI [(cI, .int), (cZ, .boolean), (cQ, (.object "SettingSearch$Answers"))] U ∧ va_D (fun _ => True) [(b0, .inr (1, [.int rc, .ref bS, .ref bC, .int rv, .ref bW, .int rp, .ref bCe, .ref bA, .ref bB, .ref bM, .int rf, .ref bG, .ref bK, .ref bCa, .ref bL, .int rd, .int rg, .int re, .ref bO, .int rl, .int rq, .int rb, .long rz])), (bS, .inl (cI, 5, .inl uS))])) (va_Qi (fun (r : Int32) (u : Unit) => r = q_ask uS nc rc rq m1) (fun (u : Unit) (t : State) => va_P (dC, dI) vw_cls [(b0, .inr (1, [.int rc, .ref bS, .ref bC, .int rv, .ref bW, .int rp, .ref bCe, .ref bA, .ref bB, .ref bM, .int rf, .ref bG, .ref bK, .ref bCa, .ref bL, .int rd, .int rg, .int re, .ref bO, .int rl, .int rq, .int rb, .long rz])), (bS, .inl (cI, 5, .inl uS))] t.heap ∧ va_D (va_A [(b0, .inr (1, [.int rc, .ref bS, .ref bC, .int rv, .ref bW, .int rp, .ref bCe, .ref bA, .ref bB, .ref bM, .int rf, .ref bG, .ref bK, .ref bCa, .ref bL, .int rd, .int rg, .int re, .ref bO, .int rl, .int rq, .int rb, .long rz])), (bS, .inl (cI, 5, .inl uS))] sz) [(b0, .inr (1, [.int rc, .ref bS, .ref bC, .int rv, .ref bW, .int rp, .ref bCe, .ref bA, .ref bB, .ref bM, .int rf, .ref bG, .ref bK, .ref bCa, .ref bL, .int rd, .int rg, .int re, .ref bO, .int rl, .int rq, .int rb, .long rz])), (bS, .inl (cI, 5, .inl uS))]) (va_A [(b0, .inr (1, [.int rc, .ref bS, .ref bC, .int rv, .ref bW, .int rp, .ref bCe, .ref bA, .ref bB, .ref bM, .int rf, .ref bG, .ref bK, .ref bCa, .ref bL, .int rd, .int rg, .int re, .ref bO, .int rl, .int rq, .int rb, .long rz])), (bS, .inl (cI, 5, .inl uS))] sz)) 0 0 (va_A [(b0, .inr (1, [.int rc, .ref bS, .ref bC, .int rv, .ref bW, .int rp, .ref bCe, .ref bA, .ref bB, .ref bM, .int rf, .ref bG, .ref bK, .ref bCa, .ref bL, .int rd, .int rg, .int re, .ref bO, .int rl, .int rq, .int rb, .long rz])), (bS, .inl (cI, 5, .inl uS))] sz) := by
  refine Met.ofW (cc := b_Ref_asked) (maxL := 2) (ret := (some .int)) (by decide) rfl ?_
  intro p e s m args below meth c s₁ B hml hv
  obtain ⟨rfl, hsz, hP, hKN, hD0⟩ := hv
  obtain ⟨hK, hN⟩ := id hKN
  have hx := B.exec
  have hb := B.bytes
  have hr := B.returns
  have hts0 := atoms_spec (ws := w_Ref_asked) B.pre
  have hts : ∀ w ∈ lw_g, w.before _ s = true := fun w h => hts0 w (List.mem_cons_of_mem _ h)
  have hown : s.vm.findClass R_Ref = some m.cls := findClass_of_methodNamed B.named
  have hlocks := B.notSynchronized
  subst hsz
  have hD := hD0.self (sz := s.heap.size)
  generalize hAe : va_A [(b0, .inr (1, [.int rc, .ref bS, .ref bC, .int rv, .ref bW, .int rp, .ref bCe, .ref bA, .ref bB, .ref bM, .int rf, .ref bG, .ref bK, .ref bCa, .ref bL, .int rd, .int rg, .int re, .ref bO, .int rl, .int rq, .int rb, .long rz])), (bS, .inl (cI, 5, .inl uS))] s.heap.size = A at hD ⊢
  have hA : ∀ q : Nat, s.heap.size ≤ q → A q := fun q h => by rw [← hAe]; exact Or.inr h
  have hP : va_P (dC, dI) vw_cls [(b0, .inr (1, [.int rc, .ref bS, .ref bC, .int rv, .ref bW, .int rp, .ref bCe, .ref bA, .ref bB, .ref bM, .int rf, .ref bG, .ref bK, .ref bCa, .ref bL, .int rd, .int rg, .int re, .ref bO, .int rl, .int rq, .int rb, .long rz])), (bS, .inl (cI, 5, .inl uS))] s.heap := hP
  have hl := lv_entry ([.ref b0, .int m1]) (n := 2) (Nat.le_of_ble_eq_true rfl)
  rw [lg_entry_eq]
  generalize (lg_sl ([.ref b0, .int m1]) ++ List.replicate (2 - (lg_sl ([.ref b0, .int m1])).length) Slot.unset).toArray = ls at hl ⊢
  have hl : lv_has ls 2 [(0, .ref b0), (1, .int m1)] := hl
  refine gw_start (fun H locs hH hlocs => ?_)
  rw [← hH] at hP
  have hS : va_S A s.heap H locs := by rw [hH, hlocs]; exact va_S.rf
  refine lv_aload_n hx hb d_Ref_asked_0 rfl (lv_at hl 0 rfl) ?_
  refine va_get (D := (dC, dI)) (ci := 1) (v := .int rq) (C := R_Ref) (T := T_Ref) (N := 23) hx hb hts in_Ref hown hK hP 0 rfl rfl 20 (by decide) (hts _ tw_449) (fun _ h9 => h9) rfl d_Ref_asked_1 ?_
  refine lv_if_lt (tgt := 27) hx hb d_Ref_asked_4 (by decide) (fun c_1 => ?_) (fun c_1 => ?_)
  · skip
    have cq := c_1
    refine lv_iconst (v := (-1)) hx hb d_Ref_asked_27 (by decide) ?_
    have hP9 := hP.sub (ws' := [(b0, .inr (1, [.int rc, .ref bS, .ref bC, .int rv, .ref bW, .int rp, .ref bCe, .ref bA, .ref bB, .ref bM, .int rf, .ref bG, .ref bK, .ref bCa, .ref bL, .int rd, .int rg, .int re, .ref bO, .int rl, .int rq, .int rb, .long rz])), (bS, .inl (cI, 5, .inl uS))]) [0, 1] rfl
    have hD9 := hD.sub (ws' := [(b0, .inr (1, [.int rc, .ref bS, .ref bC, .int rv, .ref bW, .int rp, .ref bCe, .ref bA, .ref bB, .ref bM, .int rf, .ref bG, .ref bK, .ref bCa, .ref bL, .int rd, .int rg, .int re, .ref bO, .int rl, .int rq, .int rb, .long rz])), (bS, .inl (cI, 5, .inl uS))]) [0, 1] (by decide) rfl
    have hpost_2 : ((-1) : Int32) = q_ask uS nc rc rq m1 := by rw [q_ask, if_pos cq]
    exact W.iret (v := (-1)) hx hb hr (fun t ht hW => ⟨⟨(-1), (), rfl, hpost_2, by rw [ht]; exact hP9, hD9⟩, hS.F ht⟩) hS.2.2 d_Ref_asked_28
  · skip
    have cq := c_1
    have hq := hqv cq
    refine lv_aload_n hx hb d_Ref_asked_7 rfl (lv_at hl 0 rfl) ?_
    refine lv_iload_n hx hb d_Ref_asked_8 rfl (lv_at hl 1 rfl) ?_
    have hPc := hP.sub (ws' := [(b0, .inr (1, [.int rc, .ref bS, .ref bC, .int rv, .ref bW, .int rp, .ref bCe, .ref bA, .ref bB, .ref bM, .int rf, .ref bG, .ref bK, .ref bCa, .ref bL, .int rd, .int rg, .int re, .ref bO, .int rl, .int rq, .int rb, .long rz]))]) [0] rfl
    have hDc := hD.sub (ws' := [(b0, .inr (1, [.int rc, .ref bS, .ref bC, .int rv, .ref bW, .int rp, .ref bCe, .ref bA, .ref bB, .ref bM, .int rf, .ref bG, .ref bK, .ref bCa, .ref bL, .int rd, .int rg, .int re, .ref bO, .int rl, .int rq, .int rb, .long rz]))]) [0] (by decide) rfl
    have hFc := va_free (wc := [(b0, .inr (1, [.int rc, .ref bS, .ref bC, .int rv, .ref bW, .int rp, .ref bCe, .ref bA, .ref bB, .ref bM, .int rf, .ref bG, .ref bK, .ref bCa, .ref bL, .int rd, .int rg, .int re, .ref bO, .int rl, .int rq, .int rb, .long rz]))]) hD hS hA [0] rfl
    refine va_calli (va_runV (As := [.int m1]) (rest := []) ⟨hx, hb, hml, hown, hts⟩ (m_isM l dC dI H.size cI cZ cQ b0 rc bS bC rv bW rp bCe bA bB bM rf bG bK bCa bL rd rg re bO rl rq rb rz m1 ) ⟨(callB_of 1 hts (ga_all tw_528) rfl rfl rfl (hts _ tw_29) (hts _ tw_525) (by decide +kernel) ⟨Nat.le_of_ble_eq_true rfl, Nat.le_of_ble_eq_true rfl⟩), hts _ tw_527, hts _ tw_9⟩ ⟨fun a U g mk q => by obtain ⟨q0, q1, qP, qK, qD⟩ := q; exact ⟨q0, q1, qP, g_K.same (u := U) (U := U.calling g mk a) rfl qK, qD⟩, va_recv hK hPc (ci := 1) (q0 := 0) rfl rfl, fun U hU hW => ⟨rfl, by rw [hU], by rw [hU]; exact hPc, g_K.warm hW hKN, hDc.weaken (fun _ _ _ _ => trivial)⟩⟩ rfl rfl hl.1 rfl (lv_room (Nat.le_of_ble_eq_true rfl)) d_Ref_asked_9 ⟨Nat.le_of_ble_eq_true rfl, Nat.le_of_ble_eq_true rfl⟩) hS (fun q _ h => hFc q h) hFc (fun r_3 u t H1 locs htt hvm hw_4 hBB hzz hkk hS => ?_)
    have hw_4 : r_3 = q_has rc m1 := hw_4
    obtain ⟨hPP, hDD⟩ := hBB
    rw [htt] at hPP
    have hPP : va_P (dC, dI) vw_cls [(b0, .inr (1, [.int rc, .ref bS, .ref bC, .int rv, .ref bW, .int rp, .ref bCe, .ref bA, .ref bB, .ref bM, .int rf, .ref bG, .ref bK, .ref bCa, .ref bL, .int rd, .int rg, .int re, .ref bO, .int rl, .int rq, .int rb, .long rz]))] H1 := hPP
    have hDD : va_D (va_A [(b0, .inr (1, [.int rc, .ref bS, .ref bC, .int rv, .ref bW, .int rp, .ref bCe, .ref bA, .ref bB, .ref bM, .int rf, .ref bG, .ref bK, .ref bCa, .ref bL, .int rd, .int rg, .int re, .ref bO, .int rl, .int rq, .int rb, .long rz]))] H.size) [(b0, .inr (1, [.int rc, .ref bS, .ref bC, .int rv, .ref bW, .int rp, .ref bCe, .ref bA, .ref bB, .ref bM, .int rf, .ref bG, .ref bK, .ref bCa, .ref bL, .int rd, .int rg, .int re, .ref bO, .int rl, .int rq, .int rb, .long rz]))] := hDD
    obtain ⟨hP, hD⟩ := va_join (wr := [(bS, .inl (cI, 5, .inl uS))]) (w1 := [(b0, .inr (1, [.int rc, .ref bS, .ref bC, .int rv, .ref bW, .int rp, .ref bCe, .ref bA, .ref bB, .ref bM, .int rf, .ref bG, .ref bK, .ref bCa, .ref bL, .int rd, .int rg, .int re, .ref bO, .int rl, .int rq, .int rb, .long rz]))]) hP hD [0] [1] rfl rfl (by decide) (by decide) hkk hFc hPP hDD
    generalize H1 = H at hP hS ⊢
    have hP : va_P (dC, dI) vw_cls [(bS, .inl (cI, 5, .inl uS)), (b0, .inr (1, [.int rc, .ref bS, .ref bC, .int rv, .ref bW, .int rp, .ref bCe, .ref bA, .ref bB, .ref bM, .int rf, .ref bG, .ref bK, .ref bCa, .ref bL, .int rd, .int rg, .int re, .ref bO, .int rl, .int rq, .int rb, .long rz]))] H := hP
    have hD : va_D A [(bS, .inl (cI, 5, .inl uS)), (b0, .inr (1, [.int rc, .ref bS, .ref bC, .int rv, .ref bW, .int rp, .ref bCe, .ref bA, .ref bB, .ref bM, .int rf, .ref bG, .ref bK, .ref bCa, .ref bL, .int rd, .int rg, .int re, .ref bO, .int rl, .int rq, .int rb, .long rz]))] := hD
    refine lv_if_eq (tgt := 27) hx hb d_Ref_asked_12 (by decide) (fun c_5 => ?_) (fun c_5 => ?_)
    · skip
      have ch := q_has_eq hw_4 c_5
      refine lv_iconst (v := (-1)) hx hb d_Ref_asked_27 (by decide) ?_
      have hP9 := hP.sub (ws' := [(b0, .inr (1, [.int rc, .ref bS, .ref bC, .int rv, .ref bW, .int rp, .ref bCe, .ref bA, .ref bB, .ref bM, .int rf, .ref bG, .ref bK, .ref bCa, .ref bL, .int rd, .int rg, .int re, .ref bO, .int rl, .int rq, .int rb, .long rz])), (bS, .inl (cI, 5, .inl uS))]) [1, 0] rfl
      have hD9 := hD.sub (ws' := [(b0, .inr (1, [.int rc, .ref bS, .ref bC, .int rv, .ref bW, .int rp, .ref bCe, .ref bA, .ref bB, .ref bM, .int rf, .ref bG, .ref bK, .ref bCa, .ref bL, .int rd, .int rg, .int re, .ref bO, .int rl, .int rq, .int rb, .long rz])), (bS, .inl (cI, 5, .inl uS))]) [1, 0] (by decide) rfl
      have hpost_6 : ((-1) : Int32) = q_ask uS nc rc rq m1 := by rw [q_ask_m cq ch]
      exact W.iret (v := (-1)) hx hb hr (fun t ht hW => ⟨⟨(-1), (), rfl, hpost_6, by rw [ht]; exact hP9, hD9⟩, hS.F ht⟩) hS.2.2 d_Ref_asked_28
    · skip
      have ch := q_has_ne hw_4 c_5
      refine lv_aload_n hx hb d_Ref_asked_15 rfl (lv_at hl 0 rfl) ?_
      refine lv_aload_n hx hb d_Ref_asked_16 rfl (lv_at hl 0 rfl) ?_
      refine va_get (D := (dC, dI)) (ci := 1) (v := .int rq) (C := R_Ref) (T := T_Ref) (N := 23) hx hb hts in_Ref hown hK hP 1 rfl rfl 20 (by decide) (hts _ tw_449) (fun _ h9 => h9) rfl d_Ref_asked_17 ?_
      refine lv_iload_n hx hb d_Ref_asked_20 rfl (lv_at hl 1 rfl) ?_
      have hPc := hP.sub (ws' := [(b0, .inr (1, [.int rc, .ref bS, .ref bC, .int rv, .ref bW, .int rp, .ref bCe, .ref bA, .ref bB, .ref bM, .int rf, .ref bG, .ref bK, .ref bCa, .ref bL, .int rd, .int rg, .int re, .ref bO, .int rl, .int rq, .int rb, .long rz])), (bS, .inl (cI, 5, .inl uS))]) [1, 0] rfl
      have hDc := hD.sub (ws' := [(b0, .inr (1, [.int rc, .ref bS, .ref bC, .int rv, .ref bW, .int rp, .ref bCe, .ref bA, .ref bB, .ref bM, .int rf, .ref bG, .ref bK, .ref bCa, .ref bL, .int rd, .int rg, .int re, .ref bO, .int rl, .int rq, .int rb, .long rz])), (bS, .inl (cI, 5, .inl uS))]) [1, 0] (by decide) rfl
      have hFc := va_free (wc := [(b0, .inr (1, [.int rc, .ref bS, .ref bC, .int rv, .ref bW, .int rp, .ref bCe, .ref bA, .ref bB, .ref bM, .int rf, .ref bG, .ref bK, .ref bCa, .ref bL, .int rd, .int rg, .int re, .ref bO, .int rl, .int rq, .int rb, .long rz])), (bS, .inl (cI, 5, .inl uS))]) hD hS hA [1, 0] rfl
      refine va_calli (va_runV (As := [.int rq, .int m1]) (rest := []) ⟨hx, hb, hml, hown, hts⟩ (m_so l dC dI H.size cI cZ cQ b0 rc bS bC rv bW rp bCe bA bB bM rf bG bK bCa bL rd rg re bO rl rq rb rz uS rq rq.toNatClampNeg m1 m1.toNatClampNeg nc hrc hnc hS1 hq.1 hq.2 (ix_ge ch.1) (ix_lt ch.1 ch.2 hrc (by omega))) ⟨(callB_of 2 hts (ga_all tw_546) rfl rfl rfl (hts _ tw_29) (hts _ tw_543) (by decide +kernel) ⟨Nat.le_of_ble_eq_true rfl, Nat.le_of_ble_eq_true rfl⟩), hts _ tw_545, hts _ tw_12⟩ ⟨fun a U g mk q => by obtain ⟨q0, q1, qP, qK, qD⟩ := q; exact ⟨q0, q1, qP, g_K.same (u := U) (U := U.calling g mk a) rfl qK, qD⟩, va_recv hK hPc (ci := 1) (q0 := 0) rfl rfl, fun U hU hW => ⟨rfl, by rw [hU], by rw [hU]; exact hPc, g_K.warm hW hKN, hDc.weaken (fun _ _ _ _ => trivial)⟩⟩ rfl rfl hl.1 rfl (lv_room (Nat.le_of_ble_eq_true rfl)) d_Ref_asked_21 ⟨Nat.le_of_ble_eq_true rfl, Nat.le_of_ble_eq_true rfl⟩) hS (fun q _ h => hFc q h) hFc (fun r_7 u t H1 locs htt hvm hw_8 hBB hzz hkk hS => ?_)
      have hw_8 : r_7 = nI (q_dg uS nc rq.toNatClampNeg m1.toNatClampNeg) := hw_8
      obtain ⟨hPP, hDD⟩ := hBB
      rw [htt] at hPP
      have hPP : va_P (dC, dI) vw_cls [(b0, .inr (1, [.int rc, .ref bS, .ref bC, .int rv, .ref bW, .int rp, .ref bCe, .ref bA, .ref bB, .ref bM, .int rf, .ref bG, .ref bK, .ref bCa, .ref bL, .int rd, .int rg, .int re, .ref bO, .int rl, .int rq, .int rb, .long rz])), (bS, .inl (cI, 5, .inl uS))] H1 := hPP
      have hDD : va_D (va_A [(b0, .inr (1, [.int rc, .ref bS, .ref bC, .int rv, .ref bW, .int rp, .ref bCe, .ref bA, .ref bB, .ref bM, .int rf, .ref bG, .ref bK, .ref bCa, .ref bL, .int rd, .int rg, .int re, .ref bO, .int rl, .int rq, .int rb, .long rz])), (bS, .inl (cI, 5, .inl uS))] H.size) [(b0, .inr (1, [.int rc, .ref bS, .ref bC, .int rv, .ref bW, .int rp, .ref bCe, .ref bA, .ref bB, .ref bM, .int rf, .ref bG, .ref bK, .ref bCa, .ref bL, .int rd, .int rg, .int re, .ref bO, .int rl, .int rq, .int rb, .long rz])), (bS, .inl (cI, 5, .inl uS))] := hDD
      obtain ⟨hP, hD⟩ := va_join (wr := []) (w1 := [(b0, .inr (1, [.int rc, .ref bS, .ref bC, .int rv, .ref bW, .int rp, .ref bCe, .ref bA, .ref bB, .ref bM, .int rf, .ref bG, .ref bK, .ref bCa, .ref bL, .int rd, .int rg, .int re, .ref bO, .int rl, .int rq, .int rb, .long rz])), (bS, .inl (cI, 5, .inl uS))]) hP hD [1, 0] [] rfl rfl (by decide) (by decide) hkk hFc hPP hDD
      generalize H1 = H at hP hS ⊢
      have hP : va_P (dC, dI) vw_cls [(b0, .inr (1, [.int rc, .ref bS, .ref bC, .int rv, .ref bW, .int rp, .ref bCe, .ref bA, .ref bB, .ref bM, .int rf, .ref bG, .ref bK, .ref bCa, .ref bL, .int rd, .int rg, .int re, .ref bO, .int rl, .int rq, .int rb, .long rz])), (bS, .inl (cI, 5, .inl uS))] H := hP
      have hD : va_D A [(b0, .inr (1, [.int rc, .ref bS, .ref bC, .int rv, .ref bW, .int rp, .ref bCe, .ref bA, .ref bB, .ref bM, .int rf, .ref bG, .ref bK, .ref bCa, .ref bL, .int rd, .int rg, .int re, .ref bO, .int rl, .int rq, .int rb, .long rz])), (bS, .inl (cI, 5, .inl uS))] := hD
      refine lv_goto (tgt := 28) hx hb d_Ref_asked_24 (by decide) ?_
      have hP9 := hP.sub (ws' := [(b0, .inr (1, [.int rc, .ref bS, .ref bC, .int rv, .ref bW, .int rp, .ref bCe, .ref bA, .ref bB, .ref bM, .int rf, .ref bG, .ref bK, .ref bCa, .ref bL, .int rd, .int rg, .int re, .ref bO, .int rl, .int rq, .int rb, .long rz])), (bS, .inl (cI, 5, .inl uS))]) [0, 1] rfl
      have hD9 := hD.sub (ws' := [(b0, .inr (1, [.int rc, .ref bS, .ref bC, .int rv, .ref bW, .int rp, .ref bCe, .ref bA, .ref bB, .ref bM, .int rf, .ref bG, .ref bK, .ref bCa, .ref bL, .int rd, .int rg, .int re, .ref bO, .int rl, .int rq, .int rb, .long rz])), (bS, .inl (cI, 5, .inl uS))]) [0, 1] (by decide) rfl
      have hpost_9 : (r_7 : Int32) = q_ask uS nc rc rq m1 := by rw [hw_8, q_ask, if_neg cq, if_neg ch.1, if_neg ch.2]
      exact W.iret (v := r_7) hx hb hr (fun t ht hW => ⟨⟨r_7, (), rfl, hpost_9, by rw [ht]; exact hP9, hD9⟩, hS.F ht⟩) hS.2.2 d_Ref_asked_28
set_option maxHeartbeats 4000000 in
set_option maxRecDepth 100000 in
/-- the reference: best -/
theorem m_best (l : Launch) (dC : Nat → ClassId) (dI : Nat → Nat → Nat) (sz : Nat) (cI : ClassId) (cZ : ClassId) (cQ : ClassId) (b0 : Nat) (rc : Int32) (bS : Nat) (bC : Nat) (rv : Int32) (bW : Nat) (rp : Int32) (bCe : Nat) (bA : Nat) (bB : Nat) (bM : Nat) (rf : Int32) (bG : Nat) (bK : Nat) (bCa : Nat) (bL : Nat) (rd : Int32) (rg : Int32) (re : Int32) (bO : Nat) (rl : Int32) (rq : Int32) (rb : Int32) (rz : Int64) (uS : Nat → Int32) (m1 : Int32) (nc : Nat) (hrc : rc = nI nc) (hnc : nc ≤ 5) (hS1 : q_okS uS nc) (hqv : ¬ rb < 0 → rb = nI rb.toNatClampNeg ∧ rb.toNatClampNeg < 64) : Met l y_Ref_best w_Ref_best ({ frames := 1, cells := 0, slots := 0, locals := 24 } : Room) (va_Pc [.ref b0, .int m1] (fun U => U.heap.size = sz ∧ va_P (dC, dI) vw_cls [(b0, .inr (1, [.int rc, .ref bS, .ref bC, .int rv, .ref bW, .int rp, .ref bCe, .ref bA, .ref bB, .ref bM, .int rf, .ref bG, .ref bK, .ref bCa, .ref bL, .int rd, .int rg, .int re, .ref bO, .int rl, .int rq, .int rb, .long rz])), (bS, .inl (cI, 5, .inl uS))] U.heap ∧ g_K dC dI [(cI, .int), (cZ, .boolean), (cQ, (.object "SettingSearch$Answers"))] U ∧ va_D (fun _ => True) [(b0, .inr (1, [.int rc, .ref bS, .ref bC, .int rv, .ref bW, .int rp, .ref bCe, .ref bA, .ref bB, .ref bM, .int rf, .ref bG, .ref bK, .ref bCa, .ref bL, .int rd, .int rg, .int re, .ref bO, .int rl, .int rq, .int rb, .long rz])), (bS, .inl (cI, 5, .inl uS))])) (va_Qi (fun (r : Int32) (u : Unit) => r = q_ask uS nc rc rb m1) (fun (u : Unit) (t : State) => va_P (dC, dI) vw_cls [(b0, .inr (1, [.int rc, .ref bS, .ref bC, .int rv, .ref bW, .int rp, .ref bCe, .ref bA, .ref bB, .ref bM, .int rf, .ref bG, .ref bK, .ref bCa, .ref bL, .int rd, .int rg, .int re, .ref bO, .int rl, .int rq, .int rb, .long rz])), (bS, .inl (cI, 5, .inl uS))] t.heap ∧ va_D (va_A [(b0, .inr (1, [.int rc, .ref bS, .ref bC, .int rv, .ref bW, .int rp, .ref bCe, .ref bA, .ref bB, .ref bM, .int rf, .ref bG, .ref bK, .ref bCa, .ref bL, .int rd, .int rg, .int re, .ref bO, .int rl, .int rq, .int rb, .long rz])), (bS, .inl (cI, 5, .inl uS))] sz) [(b0, .inr (1, [.int rc, .ref bS, .ref bC, .int rv, .ref bW, .int rp, .ref bCe, .ref bA, .ref bB, .ref bM, .int rf, .ref bG, .ref bK, .ref bCa, .ref bL, .int rd, .int rg, .int re, .ref bO, .int rl, .int rq, .int rb, .long rz])), (bS, .inl (cI, 5, .inl uS))]) (va_A [(b0, .inr (1, [.int rc, .ref bS, .ref bC, .int rv, .ref bW, .int rp, .ref bCe, .ref bA, .ref bB, .ref bM, .int rf, .ref bG, .ref bK, .ref bCa, .ref bL, .int rd, .int rg, .int re, .ref bO, .int rl, .int rq, .int rb, .long rz])), (bS, .inl (cI, 5, .inl uS))] sz)) 0 0 (va_A [(b0, .inr (1, [.int rc, .ref bS, .ref bC, .int rv, .ref bW, .int rp, .ref bCe, .ref bA, .ref bB, .ref bM, .int rf, .ref bG, .ref bK, .ref bCa, .ref bL, .int rd, .int rg, .int re, .ref bO, .int rl, .int rq, .int rb, .long rz])), (bS, .inl (cI, 5, .inl uS))] sz) := by
  refine Met.ofW (cc := b_Ref_best) (maxL := 2) (ret := (some .int)) (by decide) rfl ?_
  intro p e s m args below meth c s₁ B hml hv
  obtain ⟨rfl, hsz, hP, hKN, hD0⟩ := hv
  obtain ⟨hK, hN⟩ := id hKN
  have hx := B.exec
  have hb := B.bytes
  have hr := B.returns
  have hts0 := atoms_spec (ws := w_Ref_best) B.pre
  have hts : ∀ w ∈ lw_g, w.before _ s = true := fun w h => hts0 w (List.mem_cons_of_mem _ h)
  have hown : s.vm.findClass R_Ref = some m.cls := findClass_of_methodNamed B.named
  have hlocks := B.notSynchronized
  subst hsz
  have hD := hD0.self (sz := s.heap.size)
  generalize hAe : va_A [(b0, .inr (1, [.int rc, .ref bS, .ref bC, .int rv, .ref bW, .int rp, .ref bCe, .ref bA, .ref bB, .ref bM, .int rf, .ref bG, .ref bK, .ref bCa, .ref bL, .int rd, .int rg, .int re, .ref bO, .int rl, .int rq, .int rb, .long rz])), (bS, .inl (cI, 5, .inl uS))] s.heap.size = A at hD ⊢
  have hA : ∀ q : Nat, s.heap.size ≤ q → A q := fun q h => by rw [← hAe]; exact Or.inr h
  have hP : va_P (dC, dI) vw_cls [(b0, .inr (1, [.int rc, .ref bS, .ref bC, .int rv, .ref bW, .int rp, .ref bCe, .ref bA, .ref bB, .ref bM, .int rf, .ref bG, .ref bK, .ref bCa, .ref bL, .int rd, .int rg, .int re, .ref bO, .int rl, .int rq, .int rb, .long rz])), (bS, .inl (cI, 5, .inl uS))] s.heap := hP
  have hl := lv_entry ([.ref b0, .int m1]) (n := 2) (Nat.le_of_ble_eq_true rfl)
  rw [lg_entry_eq]
  generalize (lg_sl ([.ref b0, .int m1]) ++ List.replicate (2 - (lg_sl ([.ref b0, .int m1])).length) Slot.unset).toArray = ls at hl ⊢
  have hl : lv_has ls 2 [(0, .ref b0), (1, .int m1)] := hl
  refine gw_start (fun H locs hH hlocs => ?_)
  rw [← hH] at hP
  have hS : va_S A s.heap H locs := by rw [hH, hlocs]; exact va_S.rf
  refine lv_aload_n hx hb d_Ref_best_0 rfl (lv_at hl 0 rfl) ?_
  refine va_get (D := (dC, dI)) (ci := 1) (v := .int rb) (C := R_Ref) (T := T_Ref) (N := 23) hx hb hts in_Ref hown hK hP 0 rfl rfl 21 (by decide) (hts _ tw_450) (fun _ h9 => h9) rfl d_Ref_best_1 ?_
  refine lv_if_lt (tgt := 27) hx hb d_Ref_best_4 (by decide) (fun c_1 => ?_) (fun c_1 => ?_)
  · skip
    have cq := c_1
    refine lv_iconst (v := (-1)) hx hb d_Ref_best_27 (by decide) ?_
    have hP9 := hP.sub (ws' := [(b0, .inr (1, [.int rc, .ref bS, .ref bC, .int rv, .ref bW, .int rp, .ref bCe, .ref bA, .ref bB, .ref bM, .int rf, .ref bG, .ref bK, .ref bCa, .ref bL, .int rd, .int rg, .int re, .ref bO, .int rl, .int rq, .int rb, .long rz])), (bS, .inl (cI, 5, .inl uS))]) [0, 1] rfl
    have hD9 := hD.sub (ws' := [(b0, .inr (1, [.int rc, .ref bS, .ref bC, .int rv, .ref bW, .int rp, .ref bCe, .ref bA, .ref bB, .ref bM, .int rf, .ref bG, .ref bK, .ref bCa, .ref bL, .int rd, .int rg, .int re, .ref bO, .int rl, .int rq, .int rb, .long rz])), (bS, .inl (cI, 5, .inl uS))]) [0, 1] (by decide) rfl
    have hpost_2 : ((-1) : Int32) = q_ask uS nc rc rb m1 := by rw [q_ask, if_pos cq]
    exact W.iret (v := (-1)) hx hb hr (fun t ht hW => ⟨⟨(-1), (), rfl, hpost_2, by rw [ht]; exact hP9, hD9⟩, hS.F ht⟩) hS.2.2 d_Ref_best_28
  · skip
    have cq := c_1
    have hq := hqv cq
    refine lv_aload_n hx hb d_Ref_best_7 rfl (lv_at hl 0 rfl) ?_
    refine lv_iload_n hx hb d_Ref_best_8 rfl (lv_at hl 1 rfl) ?_
    have hPc := hP.sub (ws' := [(b0, .inr (1, [.int rc, .ref bS, .ref bC, .int rv, .ref bW, .int rp, .ref bCe, .ref bA, .ref bB, .ref bM, .int rf, .ref bG, .ref bK, .ref bCa, .ref bL, .int rd, .int rg, .int re, .ref bO, .int rl, .int rq, .int rb, .long rz]))]) [0] rfl
    have hDc := hD.sub (ws' := [(b0, .inr (1, [.int rc, .ref bS, .ref bC, .int rv, .ref bW, .int rp, .ref bCe, .ref bA, .ref bB, .ref bM, .int rf, .ref bG, .ref bK, .ref bCa, .ref bL, .int rd, .int rg, .int re, .ref bO, .int rl, .int rq, .int rb, .long rz]))]) [0] (by decide) rfl
    have hFc := va_free (wc := [(b0, .inr (1, [.int rc, .ref bS, .ref bC, .int rv, .ref bW, .int rp, .ref bCe, .ref bA, .ref bB, .ref bM, .int rf, .ref bG, .ref bK, .ref bCa, .ref bL, .int rd, .int rg, .int re, .ref bO, .int rl, .int rq, .int rb, .long rz]))]) hD hS hA [0] rfl
    refine va_calli (va_runV (As := [.int m1]) (rest := []) ⟨hx, hb, hml, hown, hts⟩ (m_isM l dC dI H.size cI cZ cQ b0 rc bS bC rv bW rp bCe bA bB bM rf bG bK bCa bL rd rg re bO rl rq rb rz m1 ) ⟨(callB_of 1 hts (ga_all tw_528) rfl rfl rfl (hts _ tw_29) (hts _ tw_525) (by decide +kernel) ⟨Nat.le_of_ble_eq_true rfl, Nat.le_of_ble_eq_true rfl⟩), hts _ tw_527, hts _ tw_9⟩ ⟨fun a U g mk q => by obtain ⟨q0, q1, qP, qK, qD⟩ := q; exact ⟨q0, q1, qP, g_K.same (u := U) (U := U.calling g mk a) rfl qK, qD⟩, va_recv hK hPc (ci := 1) (q0 := 0) rfl rfl, fun U hU hW => ⟨rfl, by rw [hU], by rw [hU]; exact hPc, g_K.warm hW hKN, hDc.weaken (fun _ _ _ _ => trivial)⟩⟩ rfl rfl hl.1 rfl (lv_room (Nat.le_of_ble_eq_true rfl)) d_Ref_best_9 ⟨Nat.le_of_ble_eq_true rfl, Nat.le_of_ble_eq_true rfl⟩) hS (fun q _ h => hFc q h) hFc (fun r_3 u t H1 locs htt hvm hw_4 hBB hzz hkk hS => ?_)
    have hw_4 : r_3 = q_has rc m1 := hw_4
    obtain ⟨hPP, hDD⟩ := hBB
    rw [htt] at hPP
    have hPP : va_P (dC, dI) vw_cls [(b0, .inr (1, [.int rc, .ref bS, .ref bC, .int rv, .ref bW, .int rp, .ref bCe, .ref bA, .ref bB, .ref bM, .int rf, .ref bG, .ref bK, .ref bCa, .ref bL, .int rd, .int rg, .int re, .ref bO, .int rl, .int rq, .int rb, .long rz]))] H1 := hPP
    have hDD : va_D (va_A [(b0, .inr (1, [.int rc, .ref bS, .ref bC, .int rv, .ref bW, .int rp, .ref bCe, .ref bA, .ref bB, .ref bM, .int rf, .ref bG, .ref bK, .ref bCa, .ref bL, .int rd, .int rg, .int re, .ref bO, .int rl, .int rq, .int rb, .long rz]))] H.size) [(b0, .inr (1, [.int rc, .ref bS, .ref bC, .int rv, .ref bW, .int rp, .ref bCe, .ref bA, .ref bB, .ref bM, .int rf, .ref bG, .ref bK, .ref bCa, .ref bL, .int rd, .int rg, .int re, .ref bO, .int rl, .int rq, .int rb, .long rz]))] := hDD
    obtain ⟨hP, hD⟩ := va_join (wr := [(bS, .inl (cI, 5, .inl uS))]) (w1 := [(b0, .inr (1, [.int rc, .ref bS, .ref bC, .int rv, .ref bW, .int rp, .ref bCe, .ref bA, .ref bB, .ref bM, .int rf, .ref bG, .ref bK, .ref bCa, .ref bL, .int rd, .int rg, .int re, .ref bO, .int rl, .int rq, .int rb, .long rz]))]) hP hD [0] [1] rfl rfl (by decide) (by decide) hkk hFc hPP hDD
    generalize H1 = H at hP hS ⊢
    have hP : va_P (dC, dI) vw_cls [(bS, .inl (cI, 5, .inl uS)), (b0, .inr (1, [.int rc, .ref bS, .ref bC, .int rv, .ref bW, .int rp, .ref bCe, .ref bA, .ref bB, .ref bM, .int rf, .ref bG, .ref bK, .ref bCa, .ref bL, .int rd, .int rg, .int re, .ref bO, .int rl, .int rq, .int rb, .long rz]))] H := hP
    have hD : va_D A [(bS, .inl (cI, 5, .inl uS)), (b0, .inr (1, [.int rc, .ref bS, .ref bC, .int rv, .ref bW, .int rp, .ref bCe, .ref bA, .ref bB, .ref bM, .int rf, .ref bG, .ref bK, .ref bCa, .ref bL, .int rd, .int rg, .int re, .ref bO, .int rl, .int rq, .int rb, .long rz]))] := hD
    refine lv_if_eq (tgt := 27) hx hb d_Ref_best_12 (by decide) (fun c_5 => ?_) (fun c_5 => ?_)
    · skip
      have ch := q_has_eq hw_4 c_5
      refine lv_iconst (v := (-1)) hx hb d_Ref_best_27 (by decide) ?_
      have hP9 := hP.sub (ws' := [(b0, .inr (1, [.int rc, .ref bS, .ref bC, .int rv, .ref bW, .int rp, .ref bCe, .ref bA, .ref bB, .ref bM, .int rf, .ref bG, .ref bK, .ref bCa, .ref bL, .int rd, .int rg, .int re, .ref bO, .int rl, .int rq, .int rb, .long rz])), (bS, .inl (cI, 5, .inl uS))]) [1, 0] rfl
      have hD9 := hD.sub (ws' := [(b0, .inr (1, [.int rc, .ref bS, .ref bC, .int rv, .ref bW, .int rp, .ref bCe, .ref bA, .ref bB, .ref bM, .int rf, .ref bG, .ref bK, .ref bCa, .ref bL, .int rd, .int rg, .int re, .ref bO, .int rl, .int rq, .int rb, .long rz])), (bS, .inl (cI, 5, .inl uS))]) [1, 0] (by decide) rfl
      have hpost_6 : ((-1) : Int32) = q_ask uS nc rc rb m1 := by rw [q_ask_m cq ch]
      exact W.iret (v := (-1)) hx hb hr (fun t ht hW => ⟨⟨(-1), (), rfl, hpost_6, by rw [ht]; exact hP9, hD9⟩, hS.F ht⟩) hS.2.2 d_Ref_best_28
    · skip
      have ch := q_has_ne hw_4 c_5
      refine lv_aload_n hx hb d_Ref_best_15 rfl (lv_at hl 0 rfl) ?_
      refine lv_aload_n hx hb d_Ref_best_16 rfl (lv_at hl 0 rfl) ?_
      refine va_get (D := (dC, dI)) (ci := 1) (v := .int rb) (C := R_Ref) (T := T_Ref) (N := 23) hx hb hts in_Ref hown hK hP 1 rfl rfl 21 (by decide) (hts _ tw_450) (fun _ h9 => h9) rfl d_Ref_best_17 ?_
      refine lv_iload_n hx hb d_Ref_best_20 rfl (lv_at hl 1 rfl) ?_
      have hPc := hP.sub (ws' := [(b0, .inr (1, [.int rc, .ref bS, .ref bC, .int rv, .ref bW, .int rp, .ref bCe, .ref bA, .ref bB, .ref bM, .int rf, .ref bG, .ref bK, .ref bCa, .ref bL, .int rd, .int rg, .int re, .ref bO, .int rl, .int rq, .int rb, .long rz])), (bS, .inl (cI, 5, .inl uS))]) [1, 0] rfl
      have hDc := hD.sub (ws' := [(b0, .inr (1, [.int rc, .ref bS, .ref bC, .int rv, .ref bW, .int rp, .ref bCe, .ref bA, .ref bB, .ref bM, .int rf, .ref bG, .ref bK, .ref bCa, .ref bL, .int rd, .int rg, .int re, .ref bO, .int rl, .int rq, .int rb, .long rz])), (bS, .inl (cI, 5, .inl uS))]) [1, 0] (by decide) rfl
      have hFc := va_free (wc := [(b0, .inr (1, [.int rc, .ref bS, .ref bC, .int rv, .ref bW, .int rp, .ref bCe, .ref bA, .ref bB, .ref bM, .int rf, .ref bG, .ref bK, .ref bCa, .ref bL, .int rd, .int rg, .int re, .ref bO, .int rl, .int rq, .int rb, .long rz])), (bS, .inl (cI, 5, .inl uS))]) hD hS hA [1, 0] rfl
      refine va_calli (va_runV (As := [.int rb, .int m1]) (rest := []) ⟨hx, hb, hml, hown, hts⟩ (m_so l dC dI H.size cI cZ cQ b0 rc bS bC rv bW rp bCe bA bB bM rf bG bK bCa bL rd rg re bO rl rq rb rz uS rb rb.toNatClampNeg m1 m1.toNatClampNeg nc hrc hnc hS1 hq.1 hq.2 (ix_ge ch.1) (ix_lt ch.1 ch.2 hrc (by omega))) ⟨(callB_of 2 hts (ga_all tw_546) rfl rfl rfl (hts _ tw_29) (hts _ tw_543) (by decide +kernel) ⟨Nat.le_of_ble_eq_true rfl, Nat.le_of_ble_eq_true rfl⟩), hts _ tw_545, hts _ tw_12⟩ ⟨fun a U g mk q => by obtain ⟨q0, q1, qP, qK, qD⟩ := q; exact ⟨q0, q1, qP, g_K.same (u := U) (U := U.calling g mk a) rfl qK, qD⟩, va_recv hK hPc (ci := 1) (q0 := 0) rfl rfl, fun U hU hW => ⟨rfl, by rw [hU], by rw [hU]; exact hPc, g_K.warm hW hKN, hDc.weaken (fun _ _ _ _ => trivial)⟩⟩ rfl rfl hl.1 rfl (lv_room (Nat.le_of_ble_eq_true rfl)) d_Ref_best_21 ⟨Nat.le_of_ble_eq_true rfl, Nat.le_of_ble_eq_true rfl⟩) hS (fun q _ h => hFc q h) hFc (fun r_7 u t H1 locs htt hvm hw_8 hBB hzz hkk hS => ?_)
      have hw_8 : r_7 = nI (q_dg uS nc rb.toNatClampNeg m1.toNatClampNeg) := hw_8
      obtain ⟨hPP, hDD⟩ := hBB
      rw [htt] at hPP
      have hPP : va_P (dC, dI) vw_cls [(b0, .inr (1, [.int rc, .ref bS, .ref bC, .int rv, .ref bW, .int rp, .ref bCe, .ref bA, .ref bB, .ref bM, .int rf, .ref bG, .ref bK, .ref bCa, .ref bL, .int rd, .int rg, .int re, .ref bO, .int rl, .int rq, .int rb, .long rz])), (bS, .inl (cI, 5, .inl uS))] H1 := hPP
      have hDD : va_D (va_A [(b0, .inr (1, [.int rc, .ref bS, .ref bC, .int rv, .ref bW, .int rp, .ref bCe, .ref bA, .ref bB, .ref bM, .int rf, .ref bG, .ref bK, .ref bCa, .ref bL, .int rd, .int rg, .int re, .ref bO, .int rl, .int rq, .int rb, .long rz])), (bS, .inl (cI, 5, .inl uS))] H.size) [(b0, .inr (1, [.int rc, .ref bS, .ref bC, .int rv, .ref bW, .int rp, .ref bCe, .ref bA, .ref bB, .ref bM, .int rf, .ref bG, .ref bK, .ref bCa, .ref bL, .int rd, .int rg, .int re, .ref bO, .int rl, .int rq, .int rb, .long rz])), (bS, .inl (cI, 5, .inl uS))] := hDD
      obtain ⟨hP, hD⟩ := va_join (wr := []) (w1 := [(b0, .inr (1, [.int rc, .ref bS, .ref bC, .int rv, .ref bW, .int rp, .ref bCe, .ref bA, .ref bB, .ref bM, .int rf, .ref bG, .ref bK, .ref bCa, .ref bL, .int rd, .int rg, .int re, .ref bO, .int rl, .int rq, .int rb, .long rz])), (bS, .inl (cI, 5, .inl uS))]) hP hD [1, 0] [] rfl rfl (by decide) (by decide) hkk hFc hPP hDD
      generalize H1 = H at hP hS ⊢
      have hP : va_P (dC, dI) vw_cls [(b0, .inr (1, [.int rc, .ref bS, .ref bC, .int rv, .ref bW, .int rp, .ref bCe, .ref bA, .ref bB, .ref bM, .int rf, .ref bG, .ref bK, .ref bCa, .ref bL, .int rd, .int rg, .int re, .ref bO, .int rl, .int rq, .int rb, .long rz])), (bS, .inl (cI, 5, .inl uS))] H := hP
      have hD : va_D A [(b0, .inr (1, [.int rc, .ref bS, .ref bC, .int rv, .ref bW, .int rp, .ref bCe, .ref bA, .ref bB, .ref bM, .int rf, .ref bG, .ref bK, .ref bCa, .ref bL, .int rd, .int rg, .int re, .ref bO, .int rl, .int rq, .int rb, .long rz])), (bS, .inl (cI, 5, .inl uS))] := hD
      refine lv_goto (tgt := 28) hx hb d_Ref_best_24 (by decide) ?_
      have hP9 := hP.sub (ws' := [(b0, .inr (1, [.int rc, .ref bS, .ref bC, .int rv, .ref bW, .int rp, .ref bCe, .ref bA, .ref bB, .ref bM, .int rf, .ref bG, .ref bK, .ref bCa, .ref bL, .int rd, .int rg, .int re, .ref bO, .int rl, .int rq, .int rb, .long rz])), (bS, .inl (cI, 5, .inl uS))]) [0, 1] rfl
      have hD9 := hD.sub (ws' := [(b0, .inr (1, [.int rc, .ref bS, .ref bC, .int rv, .ref bW, .int rp, .ref bCe, .ref bA, .ref bB, .ref bM, .int rf, .ref bG, .ref bK, .ref bCa, .ref bL, .int rd, .int rg, .int re, .ref bO, .int rl, .int rq, .int rb, .long rz])), (bS, .inl (cI, 5, .inl uS))]) [0, 1] (by decide) rfl
      have hpost_9 : (r_7 : Int32) = q_ask uS nc rc rb m1 := by rw [hw_8, q_ask, if_neg cq, if_neg ch.1, if_neg ch.2]
      exact W.iret (v := r_7) hx hb hr (fun t ht hW => ⟨⟨r_7, (), rfl, hpost_9, by rw [ht]; exact hP9, hD9⟩, hS.F ht⟩) hS.2.2 d_Ref_best_28
set_option maxHeartbeats 4000000 in
set_option maxRecDepth 100000 in
/-- the reference: sum -/
theorem m_sum (l : Launch) (dC : Nat → ClassId) (dI : Nat → Nat → Nat) (sz : Nat) (cI : ClassId) (cZ : ClassId) (cQ : ClassId) (b0 : Nat) (rc : Int32) (bS : Nat) (bC : Nat) (rv : Int32) (bW : Nat) (rp : Int32) (bCe : Nat) (bA : Nat) (bB : Nat) (bM : Nat) (rf : Int32) (bG : Nat) (bK : Nat) (bCa : Nat) (bL : Nat) (rd : Int32) (rg : Int32) (re : Int32) (bO : Nat) (rl : Int32) (rq : Int32) (rb : Int32) (rz : Int64)  : Met l y_Ref_sum w_Ref_sum ({ frames := 0, cells := 0, slots := 0, locals := 0 } : Room) (va_Pc [.ref b0] (fun U => U.heap.size = sz ∧ va_P (dC, dI) vw_cls [(b0, .inr (1, [.int rc, .ref bS, .ref bC, .int rv, .ref bW, .int rp, .ref bCe, .ref bA, .ref bB, .ref bM, .int rf, .ref bG, .ref bK, .ref bCa, .ref bL, .int rd, .int rg, .int re, .ref bO, .int rl, .int rq, .int rb, .long rz]))] U.heap ∧ g_K dC dI [(cI, .int), (cZ, .boolean), (cQ, (.object "SettingSearch$Answers"))] U ∧ va_D (fun _ => True) [(b0, .inr (1, [.int rc, .ref bS, .ref bC, .int rv, .ref bW, .int rp, .ref bCe, .ref bA, .ref bB, .ref bM, .int rf, .ref bG, .ref bK, .ref bCa, .ref bL, .int rd, .int rg, .int re, .ref bO, .int rl, .int rq, .int rb, .long rz]))])) (va_Ql (fun (r : Int64) (u : Unit) => r = if rb < 0 then (-9223372036854775808) else rz) (fun (u : Unit) (t : State) => va_P (dC, dI) vw_cls [(b0, .inr (1, [.int rc, .ref bS, .ref bC, .int rv, .ref bW, .int rp, .ref bCe, .ref bA, .ref bB, .ref bM, .int rf, .ref bG, .ref bK, .ref bCa, .ref bL, .int rd, .int rg, .int re, .ref bO, .int rl, .int rq, .int rb, .long rz]))] t.heap ∧ va_D (va_A [(b0, .inr (1, [.int rc, .ref bS, .ref bC, .int rv, .ref bW, .int rp, .ref bCe, .ref bA, .ref bB, .ref bM, .int rf, .ref bG, .ref bK, .ref bCa, .ref bL, .int rd, .int rg, .int re, .ref bO, .int rl, .int rq, .int rb, .long rz]))] sz) [(b0, .inr (1, [.int rc, .ref bS, .ref bC, .int rv, .ref bW, .int rp, .ref bCe, .ref bA, .ref bB, .ref bM, .int rf, .ref bG, .ref bK, .ref bCa, .ref bL, .int rd, .int rg, .int re, .ref bO, .int rl, .int rq, .int rb, .long rz]))]) (va_A [(b0, .inr (1, [.int rc, .ref bS, .ref bC, .int rv, .ref bW, .int rp, .ref bCe, .ref bA, .ref bB, .ref bM, .int rf, .ref bG, .ref bK, .ref bCa, .ref bL, .int rd, .int rg, .int re, .ref bO, .int rl, .int rq, .int rb, .long rz]))] sz)) 0 0 (va_A [(b0, .inr (1, [.int rc, .ref bS, .ref bC, .int rv, .ref bW, .int rp, .ref bCe, .ref bA, .ref bB, .ref bM, .int rf, .ref bG, .ref bK, .ref bCa, .ref bL, .int rd, .int rg, .int re, .ref bO, .int rl, .int rq, .int rb, .long rz]))] sz) := by
  refine Met.ofW (cc := b_Ref_sum) (maxL := 1) (ret := (some .long)) (by decide) rfl ?_
  intro p e s m args below meth c s₁ B hml hv
  obtain ⟨rfl, hsz, hP, hKN, hD0⟩ := hv
  obtain ⟨hK, hN⟩ := id hKN
  have hx := B.exec
  have hb := B.bytes
  have hr := B.returns
  have hts0 := atoms_spec (ws := w_Ref_sum) B.pre
  have hts : ∀ w ∈ lw_g, w.before _ s = true := fun w h => hts0 w (List.mem_cons_of_mem _ h)
  have hown : s.vm.findClass R_Ref = some m.cls := findClass_of_methodNamed B.named
  have hlocks := B.notSynchronized
  subst hsz
  have hD := hD0.self (sz := s.heap.size)
  generalize hAe : va_A [(b0, .inr (1, [.int rc, .ref bS, .ref bC, .int rv, .ref bW, .int rp, .ref bCe, .ref bA, .ref bB, .ref bM, .int rf, .ref bG, .ref bK, .ref bCa, .ref bL, .int rd, .int rg, .int re, .ref bO, .int rl, .int rq, .int rb, .long rz]))] s.heap.size = A at hD ⊢
  have hA : ∀ q : Nat, s.heap.size ≤ q → A q := fun q h => by rw [← hAe]; exact Or.inr h
  have hP : va_P (dC, dI) vw_cls [(b0, .inr (1, [.int rc, .ref bS, .ref bC, .int rv, .ref bW, .int rp, .ref bCe, .ref bA, .ref bB, .ref bM, .int rf, .ref bG, .ref bK, .ref bCa, .ref bL, .int rd, .int rg, .int re, .ref bO, .int rl, .int rq, .int rb, .long rz]))] s.heap := hP
  have hl := lv_entry ([.ref b0]) (n := 1) (Nat.le_of_ble_eq_true rfl)
  rw [lg_entry_eq]
  generalize (lg_sl ([.ref b0]) ++ List.replicate (1 - (lg_sl ([.ref b0])).length) Slot.unset).toArray = ls at hl ⊢
  have hl : lv_has ls 1 [(0, .ref b0)] := hl
  refine gw_start (fun H locs hH hlocs => ?_)
  rw [← hH] at hP
  have hS : va_S A s.heap H locs := by rw [hH, hlocs]; exact va_S.rf
  refine lv_aload_n hx hb d_Ref_sum_0 rfl (lv_at hl 0 rfl) ?_
  refine va_get (D := (dC, dI)) (ci := 1) (v := .int rb) (C := R_Ref) (T := T_Ref) (N := 23) hx hb hts in_Ref hown hK hP 0 rfl rfl 21 (by decide) (hts _ tw_450) (fun _ h9 => h9) rfl d_Ref_sum_1 ?_
  refine lv_if_lt (tgt := 14) hx hb d_Ref_sum_4 (by decide) (fun c_1 => ?_) (fun c_1 => ?_)
  · skip
    have cb := c_1
    refine lv_ldc2 (v := (-9223372036854775808)) hx hb hown (hts _ tw_591) d_Ref_sum_14 ?_
    have hP9 := hP.sub (ws' := [(b0, .inr (1, [.int rc, .ref bS, .ref bC, .int rv, .ref bW, .int rp, .ref bCe, .ref bA, .ref bB, .ref bM, .int rf, .ref bG, .ref bK, .ref bCa, .ref bL, .int rd, .int rg, .int re, .ref bO, .int rl, .int rq, .int rb, .long rz]))]) [0] rfl
    have hD9 := hD.sub (ws' := [(b0, .inr (1, [.int rc, .ref bS, .ref bC, .int rv, .ref bW, .int rp, .ref bCe, .ref bA, .ref bB, .ref bM, .int rf, .ref bG, .ref bK, .ref bCa, .ref bL, .int rd, .int rg, .int re, .ref bO, .int rl, .int rq, .int rb, .long rz]))]) [0] (by decide) rfl
    have hpost_2 : ((-9223372036854775808) : Int64) = if rb < 0 then (-9223372036854775808) else rz := by first | (rw [if_pos cb]; done) | (rw [if_neg cb]; done)
    exact W.lret (v := (-9223372036854775808)) hx hb hr (fun t ht hW => ⟨⟨(-9223372036854775808), (), rfl, hpost_2, by rw [ht]; exact hP9, hD9⟩, hS.F ht⟩) hS.2.2 d_Ref_sum_17
  · skip
    have cb := c_1
    refine lv_aload_n hx hb d_Ref_sum_7 rfl (lv_at hl 0 rfl) ?_
    refine va_get (D := (dC, dI)) (ci := 1) (v := .long rz) (C := R_Ref) (T := T_Ref) (N := 23) hx hb hts in_Ref hown hK hP 0 rfl rfl 22 (by decide) (hts _ tw_451) (fun _ h9 => h9) rfl d_Ref_sum_8 ?_
    refine lv_goto (tgt := 17) hx hb d_Ref_sum_11 (by decide) ?_
    have hP9 := hP.sub (ws' := [(b0, .inr (1, [.int rc, .ref bS, .ref bC, .int rv, .ref bW, .int rp, .ref bCe, .ref bA, .ref bB, .ref bM, .int rf, .ref bG, .ref bK, .ref bCa, .ref bL, .int rd, .int rg, .int re, .ref bO, .int rl, .int rq, .int rb, .long rz]))]) [0] rfl
    have hD9 := hD.sub (ws' := [(b0, .inr (1, [.int rc, .ref bS, .ref bC, .int rv, .ref bW, .int rp, .ref bCe, .ref bA, .ref bB, .ref bM, .int rf, .ref bG, .ref bK, .ref bCa, .ref bL, .int rd, .int rg, .int re, .ref bO, .int rl, .int rq, .int rb, .long rz]))]) [0] (by decide) rfl
    have hpost_3 : (rz : Int64) = if rb < 0 then (-9223372036854775808) else rz := by first | (rw [if_pos cb]; done) | (rw [if_neg cb]; done)
    exact W.lret (v := rz) hx hb hr (fun t ht hW => ⟨⟨rz, (), rfl, hpost_3, by rw [ht]; exact hP9, hD9⟩, hS.F ht⟩) hS.2.2 d_Ref_sum_17
set_option maxHeartbeats 4000000 in
set_option maxRecDepth 100000 in
/-- the reference: bound -/
theorem m_bound_n (l : Launch) (dC : Nat → ClassId) (dI : Nat → Nat → Nat) (sz : Nat) (cI : ClassId) (cZ : ClassId) (cQ : ClassId) (b0 : Nat) (rc : Int32) (bS : Nat) (bC : Nat) (rv : Int32) (bW : Nat) (rp : Int32) (bCe : Nat) (bA : Nat) (bB : Nat) (bM : Nat) (rf : Int32) (bG : Nat) (bK : Nat) (bCa : Nat) (bL : Nat) (rd : Int32) (rg : Int32) (re : Int32) (bO : Nat) (rl : Int32) (rq : Int32) (rb : Int32) (rz : Int64) (hrd : rd < 0) : Met l y_Ref_bound w_Ref_bound ({ frames := 1, cells := 0, slots := 0, locals := 22 } : Room) (va_Pc [.ref b0] (fun U => U.heap.size = sz ∧ va_P (dC, dI) vw_cls [(b0, .inr (1, [.int rc, .ref bS, .ref bC, .int rv, .ref bW, .int rp, .ref bCe, .ref bA, .ref bB, .ref bM, .int rf, .ref bG, .ref bK, .ref bCa, .ref bL, .int rd, .int rg, .int re, .ref bO, .int rl, .int rq, .int rb, .long rz]))] U.heap ∧ g_K dC dI [(cI, .int), (cZ, .boolean), (cQ, (.object "SettingSearch$Answers"))] U ∧ va_D (fun _ => True) [(b0, .inr (1, [.int rc, .ref bS, .ref bC, .int rv, .ref bW, .int rp, .ref bCe, .ref bA, .ref bB, .ref bM, .int rf, .ref bG, .ref bK, .ref bCa, .ref bL, .int rd, .int rg, .int re, .ref bO, .int rl, .int rq, .int rb, .long rz]))])) (va_Ql (fun (r : Int64) (u : Unit) => r = -1) (fun (u : Unit) (t : State) => va_P (dC, dI) vw_cls [(b0, .inr (1, [.int rc, .ref bS, .ref bC, .int rv, .ref bW, .int rp, .ref bCe, .ref bA, .ref bB, .ref bM, .int rf, .ref bG, .ref bK, .ref bCa, .ref bL, .int rd, .int rg, .int re, .ref bO, .int rl, .int rq, .int rb, .long rz]))] t.heap ∧ va_D (va_A [(b0, .inr (1, [.int rc, .ref bS, .ref bC, .int rv, .ref bW, .int rp, .ref bCe, .ref bA, .ref bB, .ref bM, .int rf, .ref bG, .ref bK, .ref bCa, .ref bL, .int rd, .int rg, .int re, .ref bO, .int rl, .int rq, .int rb, .long rz]))] sz) [(b0, .inr (1, [.int rc, .ref bS, .ref bC, .int rv, .ref bW, .int rp, .ref bCe, .ref bA, .ref bB, .ref bM, .int rf, .ref bG, .ref bK, .ref bCa, .ref bL, .int rd, .int rg, .int re, .ref bO, .int rl, .int rq, .int rb, .long rz]))]) (va_A [(b0, .inr (1, [.int rc, .ref bS, .ref bC, .int rv, .ref bW, .int rp, .ref bCe, .ref bA, .ref bB, .ref bM, .int rf, .ref bG, .ref bK, .ref bCa, .ref bL, .int rd, .int rg, .int re, .ref bO, .int rl, .int rq, .int rb, .long rz]))] sz)) 0 0 (va_A [(b0, .inr (1, [.int rc, .ref bS, .ref bC, .int rv, .ref bW, .int rp, .ref bCe, .ref bA, .ref bB, .ref bM, .int rf, .ref bG, .ref bK, .ref bCa, .ref bL, .int rd, .int rg, .int re, .ref bO, .int rl, .int rq, .int rb, .long rz]))] sz) := by
  refine Met.ofW (cc := b_Ref_bound) (maxL := 1) (ret := (some .long)) (by decide) rfl ?_
  intro p e s m args below meth c s₁ B hml hv
  obtain ⟨rfl, hsz, hP, hKN, hD0⟩ := hv
  obtain ⟨hK, hN⟩ := id hKN
  have hx := B.exec
  have hb := B.bytes
  have hr := B.returns
  have hts0 := atoms_spec (ws := w_Ref_bound) B.pre
  have hts : ∀ w ∈ lw_g, w.before _ s = true := fun w h => hts0 w (List.mem_cons_of_mem _ h)
  have hown : s.vm.findClass R_Ref = some m.cls := findClass_of_methodNamed B.named
  have hlocks := B.notSynchronized
  subst hsz
  have hD := hD0.self (sz := s.heap.size)
  generalize hAe : va_A [(b0, .inr (1, [.int rc, .ref bS, .ref bC, .int rv, .ref bW, .int rp, .ref bCe, .ref bA, .ref bB, .ref bM, .int rf, .ref bG, .ref bK, .ref bCa, .ref bL, .int rd, .int rg, .int re, .ref bO, .int rl, .int rq, .int rb, .long rz]))] s.heap.size = A at hD ⊢
  have hA : ∀ q : Nat, s.heap.size ≤ q → A q := fun q h => by rw [← hAe]; exact Or.inr h
  have hP : va_P (dC, dI) vw_cls [(b0, .inr (1, [.int rc, .ref bS, .ref bC, .int rv, .ref bW, .int rp, .ref bCe, .ref bA, .ref bB, .ref bM, .int rf, .ref bG, .ref bK, .ref bCa, .ref bL, .int rd, .int rg, .int re, .ref bO, .int rl, .int rq, .int rb, .long rz]))] s.heap := hP
  have hl := lv_entry ([.ref b0]) (n := 1) (Nat.le_of_ble_eq_true rfl)
  rw [lg_entry_eq]
  generalize (lg_sl ([.ref b0]) ++ List.replicate (1 - (lg_sl ([.ref b0])).length) Slot.unset).toArray = ls at hl ⊢
  have hl : lv_has ls 1 [(0, .ref b0)] := hl
  refine gw_start (fun H locs hH hlocs => ?_)
  rw [← hH] at hP
  have hS : va_S A s.heap H locs := by rw [hH, hlocs]; exact va_S.rf
  refine lv_aload_n hx hb d_Ref_bound_0 rfl (lv_at hl 0 rfl) ?_
  refine va_get (D := (dC, dI)) (ci := 1) (v := .int rd) (C := R_Ref) (T := T_Ref) (N := 23) hx hb hts in_Ref hown hK hP 0 rfl rfl 15 (by decide) (hts _ tw_444) (fun _ h9 => h9) rfl d_Ref_bound_1 ?_
  refine lv_if_lt (tgt := 14) hx hb d_Ref_bound_4 (by decide) (fun c_1 => ?_) (fun c_1 => ?_)
  · skip
    refine lv_ldc2 (v := (-1)) hx hb hown (hts _ tw_529) d_Ref_bound_14 ?_
    have hP9 := hP.sub (ws' := [(b0, .inr (1, [.int rc, .ref bS, .ref bC, .int rv, .ref bW, .int rp, .ref bCe, .ref bA, .ref bB, .ref bM, .int rf, .ref bG, .ref bK, .ref bCa, .ref bL, .int rd, .int rg, .int re, .ref bO, .int rl, .int rq, .int rb, .long rz]))]) [0] rfl
    have hD9 := hD.sub (ws' := [(b0, .inr (1, [.int rc, .ref bS, .ref bC, .int rv, .ref bW, .int rp, .ref bCe, .ref bA, .ref bB, .ref bM, .int rf, .ref bG, .ref bK, .ref bCa, .ref bL, .int rd, .int rg, .int re, .ref bO, .int rl, .int rq, .int rb, .long rz]))]) [0] (by decide) rfl
    have hpost_2 : ((-1) : Int64) = -1 := rfl
    exact W.lret (v := (-1)) hx hb hr (fun t ht hW => ⟨⟨(-1), (), rfl, hpost_2, by rw [ht]; exact hP9, hD9⟩, hS.F ht⟩) hS.2.2 d_Ref_bound_17
  · skip
    exact absurd hrd c_1
set_option maxHeartbeats 4000000 in
set_option maxRecDepth 100000 in
/-- the reference: bound -/
theorem m_bound (l : Launch) (dC : Nat → ClassId) (dI : Nat → Nat → Nat) (sz : Nat) (cI : ClassId) (cZ : ClassId) (cQ : ClassId) (b0 : Nat) (rc : Int32) (bS : Nat) (bC : Nat) (rv : Int32) (bW : Nat) (rp : Int32) (bCe : Nat) (bA : Nat) (bB : Nat) (bM : Nat) (rf : Int32) (bG : Nat) (bK : Nat) (bCa : Nat) (bL : Nat) (rd : Int32) (rg : Int32) (re : Int32) (bO : Nat) (rl : Int32) (rq : Int32) (rb : Int32) (rz : Int64) (uW : Nat → Int32) (uG : Nat → Int32) (jf : Nat) (hrd : rd = nI jf) (hjf : jf < 4) : Met l y_Ref_bound w_Ref_bound ({ frames := 1, cells := 0, slots := 0, locals := 22 } : Room) (va_Pc [.ref b0] (fun U => U.heap.size = sz ∧ va_P (dC, dI) vw_cls [(b0, .inr (1, [.int rc, .ref bS, .ref bC, .int rv, .ref bW, .int rp, .ref bCe, .ref bA, .ref bB, .ref bM, .int rf, .ref bG, .ref bK, .ref bCa, .ref bL, .int rd, .int rg, .int re, .ref bO, .int rl, .int rq, .int rb, .long rz])), (bW, .inl (cI, 9, .inl uW)), (bG, .inl (cI, 4, .inl uG))] U.heap ∧ g_K dC dI [(cI, .int), (cZ, .boolean), (cQ, (.object "SettingSearch$Answers"))] U ∧ va_D (fun _ => True) [(b0, .inr (1, [.int rc, .ref bS, .ref bC, .int rv, .ref bW, .int rp, .ref bCe, .ref bA, .ref bB, .ref bM, .int rf, .ref bG, .ref bK, .ref bCa, .ref bL, .int rd, .int rg, .int re, .ref bO, .int rl, .int rq, .int rb, .long rz])), (bW, .inl (cI, 9, .inl uW)), (bG, .inl (cI, 4, .inl uG))])) (va_Ql (fun (r : Int64) (u : Unit) => r = ((uG jf).toInt64 * (q_mx uW 9).toInt64)) (fun (u : Unit) (t : State) => va_P (dC, dI) vw_cls [(b0, .inr (1, [.int rc, .ref bS, .ref bC, .int rv, .ref bW, .int rp, .ref bCe, .ref bA, .ref bB, .ref bM, .int rf, .ref bG, .ref bK, .ref bCa, .ref bL, .int rd, .int rg, .int re, .ref bO, .int rl, .int rq, .int rb, .long rz])), (bW, .inl (cI, 9, .inl uW)), (bG, .inl (cI, 4, .inl uG))] t.heap ∧ va_D (va_A [(b0, .inr (1, [.int rc, .ref bS, .ref bC, .int rv, .ref bW, .int rp, .ref bCe, .ref bA, .ref bB, .ref bM, .int rf, .ref bG, .ref bK, .ref bCa, .ref bL, .int rd, .int rg, .int re, .ref bO, .int rl, .int rq, .int rb, .long rz])), (bW, .inl (cI, 9, .inl uW)), (bG, .inl (cI, 4, .inl uG))] sz) [(b0, .inr (1, [.int rc, .ref bS, .ref bC, .int rv, .ref bW, .int rp, .ref bCe, .ref bA, .ref bB, .ref bM, .int rf, .ref bG, .ref bK, .ref bCa, .ref bL, .int rd, .int rg, .int re, .ref bO, .int rl, .int rq, .int rb, .long rz])), (bW, .inl (cI, 9, .inl uW)), (bG, .inl (cI, 4, .inl uG))]) (va_A [(b0, .inr (1, [.int rc, .ref bS, .ref bC, .int rv, .ref bW, .int rp, .ref bCe, .ref bA, .ref bB, .ref bM, .int rf, .ref bG, .ref bK, .ref bCa, .ref bL, .int rd, .int rg, .int re, .ref bO, .int rl, .int rq, .int rb, .long rz])), (bW, .inl (cI, 9, .inl uW)), (bG, .inl (cI, 4, .inl uG))] sz)) 0 0 (va_A [(b0, .inr (1, [.int rc, .ref bS, .ref bC, .int rv, .ref bW, .int rp, .ref bCe, .ref bA, .ref bB, .ref bM, .int rf, .ref bG, .ref bK, .ref bCa, .ref bL, .int rd, .int rg, .int re, .ref bO, .int rl, .int rq, .int rb, .long rz])), (bW, .inl (cI, 9, .inl uW)), (bG, .inl (cI, 4, .inl uG))] sz) := by
  refine Met.ofW (cc := b_Ref_bound) (maxL := 1) (ret := (some .long)) (by decide) rfl ?_
  intro p e s m args below meth c s₁ B hml hv
  obtain ⟨rfl, hsz, hP, hKN, hD0⟩ := hv
  obtain ⟨hK, hN⟩ := id hKN
  have hx := B.exec
  have hb := B.bytes
  have hr := B.returns
  have hts0 := atoms_spec (ws := w_Ref_bound) B.pre
  have hts : ∀ w ∈ lw_g, w.before _ s = true := fun w h => hts0 w (List.mem_cons_of_mem _ h)
  have hown : s.vm.findClass R_Ref = some m.cls := findClass_of_methodNamed B.named
  have hlocks := B.notSynchronized
  subst hsz
  have hD := hD0.self (sz := s.heap.size)
  generalize hAe : va_A [(b0, .inr (1, [.int rc, .ref bS, .ref bC, .int rv, .ref bW, .int rp, .ref bCe, .ref bA, .ref bB, .ref bM, .int rf, .ref bG, .ref bK, .ref bCa, .ref bL, .int rd, .int rg, .int re, .ref bO, .int rl, .int rq, .int rb, .long rz])), (bW, .inl (cI, 9, .inl uW)), (bG, .inl (cI, 4, .inl uG))] s.heap.size = A at hD ⊢
  have hA : ∀ q : Nat, s.heap.size ≤ q → A q := fun q h => by rw [← hAe]; exact Or.inr h
  have hP : va_P (dC, dI) vw_cls [(b0, .inr (1, [.int rc, .ref bS, .ref bC, .int rv, .ref bW, .int rp, .ref bCe, .ref bA, .ref bB, .ref bM, .int rf, .ref bG, .ref bK, .ref bCa, .ref bL, .int rd, .int rg, .int re, .ref bO, .int rl, .int rq, .int rb, .long rz])), (bW, .inl (cI, 9, .inl uW)), (bG, .inl (cI, 4, .inl uG))] s.heap := hP
  have hl := lv_entry ([.ref b0]) (n := 1) (Nat.le_of_ble_eq_true rfl)
  rw [lg_entry_eq]
  generalize (lg_sl ([.ref b0]) ++ List.replicate (1 - (lg_sl ([.ref b0])).length) Slot.unset).toArray = ls at hl ⊢
  have hl : lv_has ls 1 [(0, .ref b0)] := hl
  refine gw_start (fun H locs hH hlocs => ?_)
  rw [← hH] at hP
  have hS : va_S A s.heap H locs := by rw [hH, hlocs]; exact va_S.rf
  refine lv_aload_n hx hb d_Ref_bound_0 rfl (lv_at hl 0 rfl) ?_
  refine va_get (D := (dC, dI)) (ci := 1) (v := .int rd) (C := R_Ref) (T := T_Ref) (N := 23) hx hb hts in_Ref hown hK hP 0 rfl rfl 15 (by decide) (hts _ tw_444) (fun _ h9 => h9) rfl d_Ref_bound_1 ?_
  refine lv_if_lt (tgt := 14) hx hb d_Ref_bound_4 (by decide) (fun c_1 => ?_) (fun c_1 => ?_)
  · skip
    exact absurd c_1 (by rw [hrd]; exact nI_pos (by omega))
  · skip
    refine lv_aload_n hx hb d_Ref_bound_7 rfl (lv_at hl 0 rfl) ?_
    have hPc := hP.sub (ws' := [(b0, .inr (1, [.int rc, .ref bS, .ref bC, .int rv, .ref bW, .int rp, .ref bCe, .ref bA, .ref bB, .ref bM, .int rf, .ref bG, .ref bK, .ref bCa, .ref bL, .int rd, .int rg, .int re, .ref bO, .int rl, .int rq, .int rb, .long rz])), (bW, .inl (cI, 9, .inl uW)), (bG, .inl (cI, 4, .inl uG))]) [0, 1, 2] rfl
    have hDc := hD.sub (ws' := [(b0, .inr (1, [.int rc, .ref bS, .ref bC, .int rv, .ref bW, .int rp, .ref bCe, .ref bA, .ref bB, .ref bM, .int rf, .ref bG, .ref bK, .ref bCa, .ref bL, .int rd, .int rg, .int re, .ref bO, .int rl, .int rq, .int rb, .long rz])), (bW, .inl (cI, 9, .inl uW)), (bG, .inl (cI, 4, .inl uG))]) [0, 1, 2] (by decide) rfl
    have hFc := va_free (wc := [(b0, .inr (1, [.int rc, .ref bS, .ref bC, .int rv, .ref bW, .int rp, .ref bCe, .ref bA, .ref bB, .ref bM, .int rf, .ref bG, .ref bK, .ref bCa, .ref bL, .int rd, .int rg, .int re, .ref bO, .int rl, .int rq, .int rb, .long rz])), (bW, .inl (cI, 9, .inl uW)), (bG, .inl (cI, 4, .inl uG))]) hD hS hA [0, 1, 2] rfl
    refine va_calll (va_runV (As := []) (rest := []) ⟨hx, hb, hml, hown, hts⟩ (m_bo l dC dI H.size cI cZ cQ b0 rc bS bC rv bW rp bCe bA bB bM rf bG bK bCa bL rd rg re bO rl rq rb rz uW uG jf hrd hjf) ⟨(callB_of 0 hts (ga_all tw_554) rfl rfl rfl (hts _ tw_29) (hts _ tw_551) (by decide +kernel) ⟨Nat.le_of_ble_eq_true rfl, Nat.le_of_ble_eq_true rfl⟩), hts _ tw_553, hts _ tw_13⟩ ⟨fun a U g mk q => by obtain ⟨q0, q1, qP, qK, qD⟩ := q; exact ⟨q0, q1, qP, g_K.same (u := U) (U := U.calling g mk a) rfl qK, qD⟩, va_recv hK hPc (ci := 1) (q0 := 0) rfl rfl, fun U hU hW => ⟨rfl, by rw [hU], by rw [hU]; exact hPc, g_K.warm hW hKN, hDc.weaken (fun _ _ _ _ => trivial)⟩⟩ rfl rfl hl.1 rfl (lv_room (Nat.le_of_ble_eq_true rfl)) d_Ref_bound_8 ⟨Nat.le_of_ble_eq_true rfl, Nat.le_of_ble_eq_true rfl⟩) hS (fun q _ h => hFc q h) hFc (fun r_2 u t H1 locs htt hvm hw_3 hBB hzz hkk hS => ?_)
    have hw_3 : r_2 = (uG jf).toInt64 * (q_mx uW 9).toInt64 := hw_3
    obtain ⟨hPP, hDD⟩ := hBB
    rw [htt] at hPP
    have hPP : va_P (dC, dI) vw_cls [(b0, .inr (1, [.int rc, .ref bS, .ref bC, .int rv, .ref bW, .int rp, .ref bCe, .ref bA, .ref bB, .ref bM, .int rf, .ref bG, .ref bK, .ref bCa, .ref bL, .int rd, .int rg, .int re, .ref bO, .int rl, .int rq, .int rb, .long rz])), (bW, .inl (cI, 9, .inl uW)), (bG, .inl (cI, 4, .inl uG))] H1 := hPP
    have hDD : va_D (va_A [(b0, .inr (1, [.int rc, .ref bS, .ref bC, .int rv, .ref bW, .int rp, .ref bCe, .ref bA, .ref bB, .ref bM, .int rf, .ref bG, .ref bK, .ref bCa, .ref bL, .int rd, .int rg, .int re, .ref bO, .int rl, .int rq, .int rb, .long rz])), (bW, .inl (cI, 9, .inl uW)), (bG, .inl (cI, 4, .inl uG))] H.size) [(b0, .inr (1, [.int rc, .ref bS, .ref bC, .int rv, .ref bW, .int rp, .ref bCe, .ref bA, .ref bB, .ref bM, .int rf, .ref bG, .ref bK, .ref bCa, .ref bL, .int rd, .int rg, .int re, .ref bO, .int rl, .int rq, .int rb, .long rz])), (bW, .inl (cI, 9, .inl uW)), (bG, .inl (cI, 4, .inl uG))] := hDD
    obtain ⟨hP, hD⟩ := va_join (wr := []) (w1 := [(b0, .inr (1, [.int rc, .ref bS, .ref bC, .int rv, .ref bW, .int rp, .ref bCe, .ref bA, .ref bB, .ref bM, .int rf, .ref bG, .ref bK, .ref bCa, .ref bL, .int rd, .int rg, .int re, .ref bO, .int rl, .int rq, .int rb, .long rz])), (bW, .inl (cI, 9, .inl uW)), (bG, .inl (cI, 4, .inl uG))]) hP hD [0, 1, 2] [] rfl rfl (by decide) (by decide) hkk hFc hPP hDD
    generalize H1 = H at hP hS ⊢
    have hP : va_P (dC, dI) vw_cls [(b0, .inr (1, [.int rc, .ref bS, .ref bC, .int rv, .ref bW, .int rp, .ref bCe, .ref bA, .ref bB, .ref bM, .int rf, .ref bG, .ref bK, .ref bCa, .ref bL, .int rd, .int rg, .int re, .ref bO, .int rl, .int rq, .int rb, .long rz])), (bW, .inl (cI, 9, .inl uW)), (bG, .inl (cI, 4, .inl uG))] H := hP
    have hD : va_D A [(b0, .inr (1, [.int rc, .ref bS, .ref bC, .int rv, .ref bW, .int rp, .ref bCe, .ref bA, .ref bB, .ref bM, .int rf, .ref bG, .ref bK, .ref bCa, .ref bL, .int rd, .int rg, .int re, .ref bO, .int rl, .int rq, .int rb, .long rz])), (bW, .inl (cI, 9, .inl uW)), (bG, .inl (cI, 4, .inl uG))] := hD
    refine lv_goto (tgt := 17) hx hb d_Ref_bound_11 (by decide) ?_
    have hP9 := hP.sub (ws' := [(b0, .inr (1, [.int rc, .ref bS, .ref bC, .int rv, .ref bW, .int rp, .ref bCe, .ref bA, .ref bB, .ref bM, .int rf, .ref bG, .ref bK, .ref bCa, .ref bL, .int rd, .int rg, .int re, .ref bO, .int rl, .int rq, .int rb, .long rz])), (bW, .inl (cI, 9, .inl uW)), (bG, .inl (cI, 4, .inl uG))]) [0, 1, 2] rfl
    have hD9 := hD.sub (ws' := [(b0, .inr (1, [.int rc, .ref bS, .ref bC, .int rv, .ref bW, .int rp, .ref bCe, .ref bA, .ref bB, .ref bM, .int rf, .ref bG, .ref bK, .ref bCa, .ref bL, .int rd, .int rg, .int re, .ref bO, .int rl, .int rq, .int rb, .long rz])), (bW, .inl (cI, 9, .inl uW)), (bG, .inl (cI, 4, .inl uG))]) [0, 1, 2] (by decide) rfl
    have hpost_4 : (r_2 : Int64) = ((uG jf).toInt64 * (q_mx uW 9).toInt64) := hw_3
    exact W.lret (v := r_2) hx hb hr (fun t ht hW => ⟨⟨r_2, (), rfl, hpost_4, by rw [ht]; exact hP9, hD9⟩, hS.F ht⟩) hS.2.2 d_Ref_bound_17
set_option maxHeartbeats 4000000 in
set_option maxRecDepth 100000 in
/-- the reference: proved -/
theorem m_proved (l : Launch) (dC : Nat → ClassId) (dI : Nat → Nat → Nat) (sz : Nat) (cI : ClassId) (cZ : ClassId) (cQ : ClassId) (b0 : Nat) (rc : Int32) (bS : Nat) (bC : Nat) (rv : Int32) (bW : Nat) (rp : Int32) (bCe : Nat) (bA : Nat) (bB : Nat) (bM : Nat) (rf : Int32) (bG : Nat) (bK : Nat) (bCa : Nat) (bL : Nat) (rd : Int32) (rg : Int32) (re : Int32) (bO : Nat) (rl : Int32) (rq : Int32) (rb : Int32) (rz : Int64) (hre : re = 0 ∨ re = 1) : Met l y_Ref_proved w_Ref_proved ({ frames := 0, cells := 0, slots := 0, locals := 0 } : Room) (va_Pc [.ref b0] (fun U => U.heap.size = sz ∧ va_P (dC, dI) vw_cls [(b0, .inr (1, [.int rc, .ref bS, .ref bC, .int rv, .ref bW, .int rp, .ref bCe, .ref bA, .ref bB, .ref bM, .int rf, .ref bG, .ref bK, .ref bCa, .ref bL, .int rd, .int rg, .int re, .ref bO, .int rl, .int rq, .int rb, .long rz]))] U.heap ∧ g_K dC dI [(cI, .int), (cZ, .boolean), (cQ, (.object "SettingSearch$Answers"))] U ∧ va_D (fun _ => True) [(b0, .inr (1, [.int rc, .ref bS, .ref bC, .int rv, .ref bW, .int rp, .ref bCe, .ref bA, .ref bB, .ref bM, .int rf, .ref bG, .ref bK, .ref bCa, .ref bL, .int rd, .int rg, .int re, .ref bO, .int rl, .int rq, .int rb, .long rz]))])) (va_Qi (fun (r : Int32) (u : Unit) => r = re) (fun (u : Unit) (t : State) => va_P (dC, dI) vw_cls [(b0, .inr (1, [.int rc, .ref bS, .ref bC, .int rv, .ref bW, .int rp, .ref bCe, .ref bA, .ref bB, .ref bM, .int rf, .ref bG, .ref bK, .ref bCa, .ref bL, .int rd, .int rg, .int re, .ref bO, .int rl, .int rq, .int rb, .long rz]))] t.heap ∧ va_D (va_A [(b0, .inr (1, [.int rc, .ref bS, .ref bC, .int rv, .ref bW, .int rp, .ref bCe, .ref bA, .ref bB, .ref bM, .int rf, .ref bG, .ref bK, .ref bCa, .ref bL, .int rd, .int rg, .int re, .ref bO, .int rl, .int rq, .int rb, .long rz]))] sz) [(b0, .inr (1, [.int rc, .ref bS, .ref bC, .int rv, .ref bW, .int rp, .ref bCe, .ref bA, .ref bB, .ref bM, .int rf, .ref bG, .ref bK, .ref bCa, .ref bL, .int rd, .int rg, .int re, .ref bO, .int rl, .int rq, .int rb, .long rz]))]) (va_A [(b0, .inr (1, [.int rc, .ref bS, .ref bC, .int rv, .ref bW, .int rp, .ref bCe, .ref bA, .ref bB, .ref bM, .int rf, .ref bG, .ref bK, .ref bCa, .ref bL, .int rd, .int rg, .int re, .ref bO, .int rl, .int rq, .int rb, .long rz]))] sz)) 0 0 (va_A [(b0, .inr (1, [.int rc, .ref bS, .ref bC, .int rv, .ref bW, .int rp, .ref bCe, .ref bA, .ref bB, .ref bM, .int rf, .ref bG, .ref bK, .ref bCa, .ref bL, .int rd, .int rg, .int re, .ref bO, .int rl, .int rq, .int rb, .long rz]))] sz) := by
  refine Met.ofW (cc := b_Ref_proved) (maxL := 1) (ret := (some .boolean)) (by decide) rfl ?_
  intro p e s m args below meth c s₁ B hml hv
  obtain ⟨rfl, hsz, hP, hKN, hD0⟩ := hv
  obtain ⟨hK, hN⟩ := id hKN
  have hx := B.exec
  have hb := B.bytes
  have hr := B.returns
  have hts0 := atoms_spec (ws := w_Ref_proved) B.pre
  have hts : ∀ w ∈ lw_g, w.before _ s = true := fun w h => hts0 w (List.mem_cons_of_mem _ h)
  have hown : s.vm.findClass R_Ref = some m.cls := findClass_of_methodNamed B.named
  have hlocks := B.notSynchronized
  subst hsz
  have hD := hD0.self (sz := s.heap.size)
  generalize hAe : va_A [(b0, .inr (1, [.int rc, .ref bS, .ref bC, .int rv, .ref bW, .int rp, .ref bCe, .ref bA, .ref bB, .ref bM, .int rf, .ref bG, .ref bK, .ref bCa, .ref bL, .int rd, .int rg, .int re, .ref bO, .int rl, .int rq, .int rb, .long rz]))] s.heap.size = A at hD ⊢
  have hA : ∀ q : Nat, s.heap.size ≤ q → A q := fun q h => by rw [← hAe]; exact Or.inr h
  have hP : va_P (dC, dI) vw_cls [(b0, .inr (1, [.int rc, .ref bS, .ref bC, .int rv, .ref bW, .int rp, .ref bCe, .ref bA, .ref bB, .ref bM, .int rf, .ref bG, .ref bK, .ref bCa, .ref bL, .int rd, .int rg, .int re, .ref bO, .int rl, .int rq, .int rb, .long rz]))] s.heap := hP
  have hl := lv_entry ([.ref b0]) (n := 1) (Nat.le_of_ble_eq_true rfl)
  rw [lg_entry_eq]
  generalize (lg_sl ([.ref b0]) ++ List.replicate (1 - (lg_sl ([.ref b0])).length) Slot.unset).toArray = ls at hl ⊢
  have hl : lv_has ls 1 [(0, .ref b0)] := hl
  refine gw_start (fun H locs hH hlocs => ?_)
  rw [← hH] at hP
  have hS : va_S A s.heap H locs := by rw [hH, hlocs]; exact va_S.rf
  refine lv_aload_n hx hb d_Ref_proved_0 rfl (lv_at hl 0 rfl) ?_
  refine va_get (D := (dC, dI)) (ci := 1) (v := .int re) (C := R_Ref) (T := T_Ref) (N := 23) hx hb hts in_Ref hown hK hP 0 rfl rfl 17 (by decide) (hts _ tw_446) (fun _ h9 => h9) rfl d_Ref_proved_1 ?_
  have hP9 := hP.sub (ws' := [(b0, .inr (1, [.int rc, .ref bS, .ref bC, .int rv, .ref bW, .int rp, .ref bCe, .ref bA, .ref bB, .ref bM, .int rf, .ref bG, .ref bK, .ref bCa, .ref bL, .int rd, .int rg, .int re, .ref bO, .int rl, .int rq, .int rb, .long rz]))]) [0] rfl
  have hD9 := hD.sub (ws' := [(b0, .inr (1, [.int rc, .ref bS, .ref bC, .int rv, .ref bW, .int rp, .ref bCe, .ref bA, .ref bB, .ref bM, .int rf, .ref bG, .ref bK, .ref bCa, .ref bL, .int rd, .int rg, .int re, .ref bO, .int rl, .int rq, .int rb, .long rz]))]) [0] (by decide) rfl
  have hpost_1 : (re : Int32) = re := rfl
  exact W.zret (v := re) hx hb hr (nz01 hre) (fun t ht hW => ⟨⟨re, (), rfl, hpost_1, by rw [ht]; exact hP9, hD9⟩, hS.F ht⟩) hS.2.2 d_Ref_proved_4
set_option maxHeartbeats 4000000 in
set_option maxRecDepth 100000 in
/-- the reference: changes -/
theorem m_changes (l : Launch) (dC : Nat → ClassId) (dI : Nat → Nat → Nat) (sz : Nat) (cI : ClassId) (cZ : ClassId) (cQ : ClassId) (b0 : Nat) (rc : Int32) (bS : Nat) (bC : Nat) (rv : Int32) (bW : Nat) (rp : Int32) (bCe : Nat) (bA : Nat) (bB : Nat) (bM : Nat) (rf : Int32) (bG : Nat) (bK : Nat) (bCa : Nat) (bL : Nat) (rd : Int32) (rg : Int32) (re : Int32) (bO : Nat) (rl : Int32) (rq : Int32) (rb : Int32) (rz : Int64) (uS : Nat → Int32) (uC : Nat → Int32) (nc : Nat) (hrc : rc = nI nc) (hnc : nc ≤ 5) (hS1 : q_okS uS nc) (hqv : ¬ rb < 0 → rb = nI rb.toNatClampNeg ∧ rb.toNatClampNeg < 64) : Met l y_Ref_changes w_Ref_changes ({ frames := 2, cells := 0, slots := 0, locals := 47 } : Room) (va_Pc [.ref b0] (fun U => U.heap.size = sz ∧ va_P (dC, dI) vw_cls [(b0, .inr (1, [.int rc, .ref bS, .ref bC, .int rv, .ref bW, .int rp, .ref bCe, .ref bA, .ref bB, .ref bM, .int rf, .ref bG, .ref bK, .ref bCa, .ref bL, .int rd, .int rg, .int re, .ref bO, .int rl, .int rq, .int rb, .long rz])), (bS, .inl (cI, 5, .inl uS)), (bC, .inl (cI, 5, .inl uC))] U.heap ∧ g_K dC dI [(cI, .int), (cZ, .boolean), (cQ, (.object "SettingSearch$Answers"))] U ∧ va_D (fun _ => True) [(b0, .inr (1, [.int rc, .ref bS, .ref bC, .int rv, .ref bW, .int rp, .ref bCe, .ref bA, .ref bB, .ref bM, .int rf, .ref bG, .ref bK, .ref bCa, .ref bL, .int rd, .int rg, .int re, .ref bO, .int rl, .int rq, .int rb, .long rz])), (bS, .inl (cI, 5, .inl uS)), (bC, .inl (cI, 5, .inl uC))])) (va_Qi (fun (r : Int32) (u : Unit) => r = if rb < 0 then -1 else q_chr uS uC nc rb.toNatClampNeg nc) (fun (u : Unit) (t : State) => va_P (dC, dI) vw_cls [(b0, .inr (1, [.int rc, .ref bS, .ref bC, .int rv, .ref bW, .int rp, .ref bCe, .ref bA, .ref bB, .ref bM, .int rf, .ref bG, .ref bK, .ref bCa, .ref bL, .int rd, .int rg, .int re, .ref bO, .int rl, .int rq, .int rb, .long rz])), (bS, .inl (cI, 5, .inl uS)), (bC, .inl (cI, 5, .inl uC))] t.heap ∧ va_D (va_A [(b0, .inr (1, [.int rc, .ref bS, .ref bC, .int rv, .ref bW, .int rp, .ref bCe, .ref bA, .ref bB, .ref bM, .int rf, .ref bG, .ref bK, .ref bCa, .ref bL, .int rd, .int rg, .int re, .ref bO, .int rl, .int rq, .int rb, .long rz])), (bS, .inl (cI, 5, .inl uS)), (bC, .inl (cI, 5, .inl uC))] sz) [(b0, .inr (1, [.int rc, .ref bS, .ref bC, .int rv, .ref bW, .int rp, .ref bCe, .ref bA, .ref bB, .ref bM, .int rf, .ref bG, .ref bK, .ref bCa, .ref bL, .int rd, .int rg, .int re, .ref bO, .int rl, .int rq, .int rb, .long rz])), (bS, .inl (cI, 5, .inl uS)), (bC, .inl (cI, 5, .inl uC))]) (va_A [(b0, .inr (1, [.int rc, .ref bS, .ref bC, .int rv, .ref bW, .int rp, .ref bCe, .ref bA, .ref bB, .ref bM, .int rf, .ref bG, .ref bK, .ref bCa, .ref bL, .int rd, .int rg, .int re, .ref bO, .int rl, .int rq, .int rb, .long rz])), (bS, .inl (cI, 5, .inl uS)), (bC, .inl (cI, 5, .inl uC))] sz)) 0 0 (va_A [(b0, .inr (1, [.int rc, .ref bS, .ref bC, .int rv, .ref bW, .int rp, .ref bCe, .ref bA, .ref bB, .ref bM, .int rf, .ref bG, .ref bK, .ref bCa, .ref bL, .int rd, .int rg, .int re, .ref bO, .int rl, .int rq, .int rb, .long rz])), (bS, .inl (cI, 5, .inl uS)), (bC, .inl (cI, 5, .inl uC))] sz) := by
  refine Met.ofW (cc := b_Ref_changes) (maxL := 1) (ret := (some .int)) (by decide) rfl ?_
  intro p e s m args below meth c s₁ B hml hv
  obtain ⟨rfl, hsz, hP, hKN, hD0⟩ := hv
  obtain ⟨hK, hN⟩ := id hKN
  have hx := B.exec
  have hb := B.bytes
  have hr := B.returns
  have hts0 := atoms_spec (ws := w_Ref_changes) B.pre
  have hts : ∀ w ∈ lw_g, w.before _ s = true := fun w h => hts0 w (List.mem_cons_of_mem _ h)
  have hown : s.vm.findClass R_Ref = some m.cls := findClass_of_methodNamed B.named
  have hlocks := B.notSynchronized
  subst hsz
  have hD := hD0.self (sz := s.heap.size)
  generalize hAe : va_A [(b0, .inr (1, [.int rc, .ref bS, .ref bC, .int rv, .ref bW, .int rp, .ref bCe, .ref bA, .ref bB, .ref bM, .int rf, .ref bG, .ref bK, .ref bCa, .ref bL, .int rd, .int rg, .int re, .ref bO, .int rl, .int rq, .int rb, .long rz])), (bS, .inl (cI, 5, .inl uS)), (bC, .inl (cI, 5, .inl uC))] s.heap.size = A at hD ⊢
  have hA : ∀ q : Nat, s.heap.size ≤ q → A q := fun q h => by rw [← hAe]; exact Or.inr h
  have hP : va_P (dC, dI) vw_cls [(b0, .inr (1, [.int rc, .ref bS, .ref bC, .int rv, .ref bW, .int rp, .ref bCe, .ref bA, .ref bB, .ref bM, .int rf, .ref bG, .ref bK, .ref bCa, .ref bL, .int rd, .int rg, .int re, .ref bO, .int rl, .int rq, .int rb, .long rz])), (bS, .inl (cI, 5, .inl uS)), (bC, .inl (cI, 5, .inl uC))] s.heap := hP
  have hl := lv_entry ([.ref b0]) (n := 1) (Nat.le_of_ble_eq_true rfl)
  rw [lg_entry_eq]
  generalize (lg_sl ([.ref b0]) ++ List.replicate (1 - (lg_sl ([.ref b0])).length) Slot.unset).toArray = ls at hl ⊢
  have hl : lv_has ls 1 [(0, .ref b0)] := hl
  refine gw_start (fun H locs hH hlocs => ?_)
  rw [← hH] at hP
  have hS : va_S A s.heap H locs := by rw [hH, hlocs]; exact va_S.rf
  refine lv_aload_n hx hb d_Ref_changes_0 rfl (lv_at hl 0 rfl) ?_
  refine va_get (D := (dC, dI)) (ci := 1) (v := .int rb) (C := R_Ref) (T := T_Ref) (N := 23) hx hb hts in_Ref hown hK hP 0 rfl rfl 21 (by decide) (hts _ tw_450) (fun _ h9 => h9) rfl d_Ref_changes_1 ?_
  refine lv_if_lt (tgt := 18) hx hb d_Ref_changes_4 (by decide) (fun c_1 => ?_) (fun c_1 => ?_)
  · skip
    have cb := c_1
    refine lv_iconst (v := (-1)) hx hb d_Ref_changes_18 (by decide) ?_
    have hP9 := hP.sub (ws' := [(b0, .inr (1, [.int rc, .ref bS, .ref bC, .int rv, .ref bW, .int rp, .ref bCe, .ref bA, .ref bB, .ref bM, .int rf, .ref bG, .ref bK, .ref bCa, .ref bL, .int rd, .int rg, .int re, .ref bO, .int rl, .int rq, .int rb, .long rz])), (bS, .inl (cI, 5, .inl uS)), (bC, .inl (cI, 5, .inl uC))]) [0, 1, 2] rfl
    have hD9 := hD.sub (ws' := [(b0, .inr (1, [.int rc, .ref bS, .ref bC, .int rv, .ref bW, .int rp, .ref bCe, .ref bA, .ref bB, .ref bM, .int rf, .ref bG, .ref bK, .ref bCa, .ref bL, .int rd, .int rg, .int re, .ref bO, .int rl, .int rq, .int rb, .long rz])), (bS, .inl (cI, 5, .inl uS)), (bC, .inl (cI, 5, .inl uC))]) [0, 1, 2] (by decide) rfl
    have hpost_2 : ((-1) : Int32) = if rb < 0 then -1 else q_chr uS uC nc rb.toNatClampNeg nc := by rw [if_pos cb]
    exact W.iret (v := (-1)) hx hb hr (fun t ht hW => ⟨⟨(-1), (), rfl, hpost_2, by rw [ht]; exact hP9, hD9⟩, hS.F ht⟩) hS.2.2 d_Ref_changes_19
  · skip
    have cb := c_1
    refine lv_aload_n hx hb d_Ref_changes_7 rfl (lv_at hl 0 rfl) ?_
    refine lv_aload_n hx hb d_Ref_changes_8 rfl (lv_at hl 0 rfl) ?_
    refine va_get (D := (dC, dI)) (ci := 1) (v := .int rb) (C := R_Ref) (T := T_Ref) (N := 23) hx hb hts in_Ref hown hK hP 0 rfl rfl 21 (by decide) (hts _ tw_450) (fun _ h9 => h9) rfl d_Ref_changes_9 ?_
    have hPc := hP.sub (ws' := [(b0, .inr (1, [.int rc, .ref bS, .ref bC, .int rv, .ref bW, .int rp, .ref bCe, .ref bA, .ref bB, .ref bM, .int rf, .ref bG, .ref bK, .ref bCa, .ref bL, .int rd, .int rg, .int re, .ref bO, .int rl, .int rq, .int rb, .long rz])), (bS, .inl (cI, 5, .inl uS)), (bC, .inl (cI, 5, .inl uC))]) [0, 1, 2] rfl
    have hDc := hD.sub (ws' := [(b0, .inr (1, [.int rc, .ref bS, .ref bC, .int rv, .ref bW, .int rp, .ref bCe, .ref bA, .ref bB, .ref bM, .int rf, .ref bG, .ref bK, .ref bCa, .ref bL, .int rd, .int rg, .int re, .ref bO, .int rl, .int rq, .int rb, .long rz])), (bS, .inl (cI, 5, .inl uS)), (bC, .inl (cI, 5, .inl uC))]) [0, 1, 2] (by decide) rfl
    have hFc := va_free (wc := [(b0, .inr (1, [.int rc, .ref bS, .ref bC, .int rv, .ref bW, .int rp, .ref bCe, .ref bA, .ref bB, .ref bM, .int rf, .ref bG, .ref bK, .ref bCa, .ref bL, .int rd, .int rg, .int re, .ref bO, .int rl, .int rq, .int rb, .long rz])), (bS, .inl (cI, 5, .inl uS)), (bC, .inl (cI, 5, .inl uC))]) hD hS hA [0, 1, 2] rfl
    refine va_calli (va_runV (As := [.int rb]) (rest := []) ⟨hx, hb, hml, hown, hts⟩ (m_ch l dC dI H.size cI cZ cQ b0 rc bS bC rv bW rp bCe bA bB bM rf bG bK bCa bL rd rg re bO rl rq rb rz uS uC rb rb.toNatClampNeg nc hrc hnc hS1 ((hqv cb).1) ((hqv cb).2)) ⟨(callB_of 1 hts (ga_all tw_542) rfl rfl rfl (hts _ tw_29) (hts _ tw_539) (by decide +kernel) ⟨Nat.le_of_ble_eq_true rfl, Nat.le_of_ble_eq_true rfl⟩), hts _ tw_541, hts _ tw_11⟩ ⟨fun a U g mk q => by obtain ⟨q0, q1, qP, qK, qD⟩ := q; exact ⟨q0, q1, qP, g_K.same (u := U) (U := U.calling g mk a) rfl qK, qD⟩, va_recv hK hPc (ci := 1) (q0 := 0) rfl rfl, fun U hU hW => ⟨rfl, by rw [hU], by rw [hU]; exact hPc, g_K.warm hW hKN, hDc.weaken (fun _ _ _ _ => trivial)⟩⟩ rfl rfl hl.1 rfl (lv_room (Nat.le_of_ble_eq_true rfl)) d_Ref_changes_12 ⟨Nat.le_of_ble_eq_true rfl, Nat.le_of_ble_eq_true rfl⟩) hS (fun q _ h => hFc q h) hFc (fun r_3 u t H1 locs htt hvm hw_4 hBB hzz hkk hS => ?_)
    have hw_4 : r_3 = q_chr uS uC nc rb.toNatClampNeg nc := hw_4
    obtain ⟨hPP, hDD⟩ := hBB
    rw [htt] at hPP
    have hPP : va_P (dC, dI) vw_cls [(b0, .inr (1, [.int rc, .ref bS, .ref bC, .int rv, .ref bW, .int rp, .ref bCe, .ref bA, .ref bB, .ref bM, .int rf, .ref bG, .ref bK, .ref bCa, .ref bL, .int rd, .int rg, .int re, .ref bO, .int rl, .int rq, .int rb, .long rz])), (bS, .inl (cI, 5, .inl uS)), (bC, .inl (cI, 5, .inl uC))] H1 := hPP
    have hDD : va_D (va_A [(b0, .inr (1, [.int rc, .ref bS, .ref bC, .int rv, .ref bW, .int rp, .ref bCe, .ref bA, .ref bB, .ref bM, .int rf, .ref bG, .ref bK, .ref bCa, .ref bL, .int rd, .int rg, .int re, .ref bO, .int rl, .int rq, .int rb, .long rz])), (bS, .inl (cI, 5, .inl uS)), (bC, .inl (cI, 5, .inl uC))] H.size) [(b0, .inr (1, [.int rc, .ref bS, .ref bC, .int rv, .ref bW, .int rp, .ref bCe, .ref bA, .ref bB, .ref bM, .int rf, .ref bG, .ref bK, .ref bCa, .ref bL, .int rd, .int rg, .int re, .ref bO, .int rl, .int rq, .int rb, .long rz])), (bS, .inl (cI, 5, .inl uS)), (bC, .inl (cI, 5, .inl uC))] := hDD
    obtain ⟨hP, hD⟩ := va_join (wr := []) (w1 := [(b0, .inr (1, [.int rc, .ref bS, .ref bC, .int rv, .ref bW, .int rp, .ref bCe, .ref bA, .ref bB, .ref bM, .int rf, .ref bG, .ref bK, .ref bCa, .ref bL, .int rd, .int rg, .int re, .ref bO, .int rl, .int rq, .int rb, .long rz])), (bS, .inl (cI, 5, .inl uS)), (bC, .inl (cI, 5, .inl uC))]) hP hD [0, 1, 2] [] rfl rfl (by decide) (by decide) hkk hFc hPP hDD
    generalize H1 = H at hP hS ⊢
    have hP : va_P (dC, dI) vw_cls [(b0, .inr (1, [.int rc, .ref bS, .ref bC, .int rv, .ref bW, .int rp, .ref bCe, .ref bA, .ref bB, .ref bM, .int rf, .ref bG, .ref bK, .ref bCa, .ref bL, .int rd, .int rg, .int re, .ref bO, .int rl, .int rq, .int rb, .long rz])), (bS, .inl (cI, 5, .inl uS)), (bC, .inl (cI, 5, .inl uC))] H := hP
    have hD : va_D A [(b0, .inr (1, [.int rc, .ref bS, .ref bC, .int rv, .ref bW, .int rp, .ref bCe, .ref bA, .ref bB, .ref bM, .int rf, .ref bG, .ref bK, .ref bCa, .ref bL, .int rd, .int rg, .int re, .ref bO, .int rl, .int rq, .int rb, .long rz])), (bS, .inl (cI, 5, .inl uS)), (bC, .inl (cI, 5, .inl uC))] := hD
    refine lv_goto (tgt := 19) hx hb d_Ref_changes_15 (by decide) ?_
    have hP9 := hP.sub (ws' := [(b0, .inr (1, [.int rc, .ref bS, .ref bC, .int rv, .ref bW, .int rp, .ref bCe, .ref bA, .ref bB, .ref bM, .int rf, .ref bG, .ref bK, .ref bCa, .ref bL, .int rd, .int rg, .int re, .ref bO, .int rl, .int rq, .int rb, .long rz])), (bS, .inl (cI, 5, .inl uS)), (bC, .inl (cI, 5, .inl uC))]) [0, 1, 2] rfl
    have hD9 := hD.sub (ws' := [(b0, .inr (1, [.int rc, .ref bS, .ref bC, .int rv, .ref bW, .int rp, .ref bCe, .ref bA, .ref bB, .ref bM, .int rf, .ref bG, .ref bK, .ref bCa, .ref bL, .int rd, .int rg, .int re, .ref bO, .int rl, .int rq, .int rb, .long rz])), (bS, .inl (cI, 5, .inl uS)), (bC, .inl (cI, 5, .inl uC))]) [0, 1, 2] (by decide) rfl
    have hpost_5 : (r_3 : Int32) = if rb < 0 then -1 else q_chr uS uC nc rb.toNatClampNeg nc := by rw [if_neg cb]; exact hw_4
    exact W.iret (v := r_3) hx hb hr (fun t ht hW => ⟨⟨r_3, (), rfl, hpost_5, by rw [ht]; exact hP9, hD9⟩, hS.F ht⟩) hS.2.2 d_Ref_changes_19
set_option maxHeartbeats 4000000 in
set_option maxRecDepth 100000 in
theorem L_ta {p : Program} {l : Launch} {e : Env} {s : State} {m : MethodId} {args : Array Value} {below : List Frame} {meth : Method} {c : Code} {Q : State → Prop} {A : Nat → Prop} (hx : p.tables.exec = Jvm.exec) (hb : c.code = b_Ref_take) (hml : c.maxLocals = 3) (hown : s.vm.findClass R_Ref = some m.cls) (hts : ∀ w ∈ lw_g, w.before args s = true) (hA : ∀ q, s.heap.size ≤ q → A q) {dC : Nat → ClassId} {dI : Nat → Nat → Nat} (cI : ClassId) (cZ : ClassId) (cQ : ClassId) (b0 : Nat) (rc : Int32) (bS : Nat) (bC : Nat) (rv : Int32) (bW : Nat) (rp : Int32) (bCe : Nat) (bA : Nat) (bB : Nat) (bM : Nat) (rf : Int32) (bG : Nat) (bK : Nat) (bCa : Nat) (bL : Nat) (rd : Int32) (rg : Int32) (re : Int32) (bO : Nat) (rl : Int32) (rq : Int32) (rb : Int32) (rz : Int64) (uS : Nat → Int32) (uC : Nat → Int32) (nc : Nat) (n1 : Int32) (hrc : rc = nI nc) (hnc : nc ≤ 5) (hS1 : q_okS uS nc) (hqv : ¬ rb < 0 → rb = nI rb.toNatClampNeg ∧ rb.toNatClampNeg < 64) (cb : ¬ rb < 0) (hKN : g_K dC dI [(cI, .int), (cZ, .boolean), (cQ, (.object "SettingSearch$Answers"))] s)
    (kx_56 : ∀ (i : Nat) (xi : Int32) (g : Nat → Int32) (_ : i ≤ nc) (_ : xi = nI i) (_ : g = q_ber uS uC nc rb.toNatClampNeg i) (_ : i = nc) (H : Heap) (locs : List Loc), va_P (dC, dI) vw_cls [(b0, .inr (1, [.int rc, .ref bS, .ref bC, .int rv, .ref bW, .int rp, .ref bCe, .ref bA, .ref bB, .ref bM, .int rf, .ref bG, .ref bK, .ref bCa, .ref bL, .int rd, .int rg, .int re, .ref bO, .int rl, .int rq, .int rb, .long rz])), (bS, .inl (cI, 5, .inl uS)), (bC, .inl (cI, 5, .inl g))] H → va_D A [(b0, .inr (1, [.int rc, .ref bS, .ref bC, .int rv, .ref bW, .int rp, .ref bCe, .ref bA, .ref bB, .ref bM, .int rf, .ref bG, .ref bK, .ref bCa, .ref bL, .int rd, .int rg, .int re, .ref bO, .int rl, .int rq, .int rb, .long rz])), (bS, .inl (cI, 5, .inl uS)), (bC, .inl (cI, 5, .inl g))] → va_S A s.heap H locs → ∀ (ls : Array Slot), lv_has ls 3 [(0, .ref b0), (1, .int n1), (2, .int xi)] → W p l e ({ frames := 2, cells := 0, slots := 0, locals := 47 } : Room) s m args below meth c H locs 0 0 Q (F0 m 56 ls [])) :
    ∀ (n : Nat) (i : Nat) (xi : Int32) (g : Nat → Int32) (_ : i ≤ nc) (_ : xi = nI i) (_ : g = q_ber uS uC nc rb.toNatClampNeg i) (_ : nc - i < n) (H : Heap) (locs : List Loc), va_P (dC, dI) vw_cls [(b0, .inr (1, [.int rc, .ref bS, .ref bC, .int rv, .ref bW, .int rp, .ref bCe, .ref bA, .ref bB, .ref bM, .int rf, .ref bG, .ref bK, .ref bCa, .ref bL, .int rd, .int rg, .int re, .ref bO, .int rl, .int rq, .int rb, .long rz])), (bS, .inl (cI, 5, .inl uS)), (bC, .inl (cI, 5, .inl g))] H → va_D A [(b0, .inr (1, [.int rc, .ref bS, .ref bC, .int rv, .ref bW, .int rp, .ref bCe, .ref bA, .ref bB, .ref bM, .int rf, .ref bG, .ref bK, .ref bCa, .ref bL, .int rd, .int rg, .int re, .ref bO, .int rl, .int rq, .int rb, .long rz])), (bS, .inl (cI, 5, .inl uS)), (bC, .inl (cI, 5, .inl g))] → va_S A s.heap H locs → ∀ (ls : Array Slot), lv_has ls 3 [(0, .ref b0), (1, .int n1), (2, .int xi)] → W p l e ({ frames := 2, cells := 0, slots := 0, locals := 47 } : Room) s m args below meth c H locs 0 0 Q (F0 m 27 ls []) := by
  obtain ⟨hK, hN⟩ := id hKN
  intro n
  induction n with
  | zero =>
    intro i xi g hi exi eg hm
    exact absurd hm (Nat.not_lt_zero _)
  | succ n ih =>
    intro i xi g hi exi eg hm H locs hP hD hS ls hl
    refine lv_iload_n hx hb d_Ref_take_27 rfl (lv_at hl 2 rfl) ?_
    refine lv_aload_n hx hb d_Ref_take_28 rfl (lv_at hl 0 rfl) ?_
    refine va_get (D := (dC, dI)) (ci := 1) (v := .int rc) (C := R_Ref) (T := T_Ref) (N := 23) hx hb hts in_Ref hown hK hP 0 rfl rfl 0 (by decide) (hts _ tw_429) (fun _ h9 => h9) rfl d_Ref_take_29 ?_
    refine lv_icmp_ge (tgt := 56) hx hb d_Ref_take_32 (by decide) (fun c_1 => ?_) (fun c_1 => ?_)
    · skip
      have hendi := lp_ge (N := nc) c_1 exi hrc hi (by omega)
      exact kx_56 i xi g hi exi eg hendi H locs (hP.sub [0, 1, 2] rfl) (hD.sub [0, 1, 2] (by decide) rfl) hS ls (lv_sub hl [0, 1, 2] rfl)
    · skip
      have hlti := lp_lt (N := nc) c_1 exi hrc (by omega)
      refine lv_aload_n hx hb d_Ref_take_35 rfl (lv_at hl 0 rfl) ?_
      refine va_get (D := (dC, dI)) (ci := 1) (v := .ref bC) (C := R_Ref) (T := T_Ref) (N := 23) hx hb hts in_Ref hown hK hP 0 rfl rfl 2 (by decide) (hts _ tw_431) (fun _ h9 => h9) rfl d_Ref_take_36 ?_
      refine lv_iload_n hx hb d_Ref_take_39 rfl (lv_at hl 2 rfl) ?_
      refine lv_aload_n hx hb d_Ref_take_40 rfl (lv_at hl 0 rfl) ?_
      refine lv_aload_n hx hb d_Ref_take_41 rfl (lv_at hl 0 rfl) ?_
      refine va_get (D := (dC, dI)) (ci := 1) (v := .int rb) (C := R_Ref) (T := T_Ref) (N := 23) hx hb hts in_Ref hown hK hP 0 rfl rfl 21 (by decide) (hts _ tw_450) (fun _ h9 => h9) rfl d_Ref_take_42 ?_
      refine lv_iload_n hx hb d_Ref_take_45 rfl (lv_at hl 2 rfl) ?_
      have hPc := hP.sub (ws' := [(b0, .inr (1, [.int rc, .ref bS, .ref bC, .int rv, .ref bW, .int rp, .ref bCe, .ref bA, .ref bB, .ref bM, .int rf, .ref bG, .ref bK, .ref bCa, .ref bL, .int rd, .int rg, .int re, .ref bO, .int rl, .int rq, .int rb, .long rz])), (bS, .inl (cI, 5, .inl uS))]) [0, 1] rfl
      have hDc := hD.sub (ws' := [(b0, .inr (1, [.int rc, .ref bS, .ref bC, .int rv, .ref bW, .int rp, .ref bCe, .ref bA, .ref bB, .ref bM, .int rf, .ref bG, .ref bK, .ref bCa, .ref bL, .int rd, .int rg, .int re, .ref bO, .int rl, .int rq, .int rb, .long rz])), (bS, .inl (cI, 5, .inl uS))]) [0, 1] (by decide) rfl
      have hFc := va_free (wc := [(b0, .inr (1, [.int rc, .ref bS, .ref bC, .int rv, .ref bW, .int rp, .ref bCe, .ref bA, .ref bB, .ref bM, .int rf, .ref bG, .ref bK, .ref bCa, .ref bL, .int rd, .int rg, .int re, .ref bO, .int rl, .int rq, .int rb, .long rz])), (bS, .inl (cI, 5, .inl uS))]) hD hS hA [0, 1] rfl
      refine va_calli (va_runV (As := [.int rb, .int xi]) (rest := [.int xi, .ref bC]) ⟨hx, hb, hml, hown, hts⟩ (m_so l dC dI H.size cI cZ cQ b0 rc bS bC rv bW rp bCe bA bB bM rf bG bK bCa bL rd rg re bO rl rq rb rz uS rb rb.toNatClampNeg xi i nc hrc hnc hS1 ((hqv cb).1) ((hqv cb).2) exi hlti) ⟨(callB_of 2 hts (ga_all tw_546) rfl rfl rfl (hts _ tw_29) (hts _ tw_543) (by decide +kernel) ⟨Nat.le_of_ble_eq_true rfl, Nat.le_of_ble_eq_true rfl⟩), hts _ tw_545, hts _ tw_12⟩ ⟨fun a U g mk q => by obtain ⟨q0, q1, qP, qK, qD⟩ := q; exact ⟨q0, q1, qP, g_K.same (u := U) (U := U.calling g mk a) rfl qK, qD⟩, va_recv hK hPc (ci := 1) (q0 := 0) rfl rfl, fun U hU hW => ⟨rfl, by rw [hU], by rw [hU]; exact hPc, g_K.warm hW hKN, hDc.weaken (fun _ _ _ _ => trivial)⟩⟩ rfl rfl hl.1 rfl (lv_room (Nat.le_of_ble_eq_true rfl)) d_Ref_take_46 ⟨Nat.le_of_ble_eq_true rfl, Nat.le_of_ble_eq_true rfl⟩) hS (fun q _ h => hFc q h) hFc (fun r_2 u t H1 locs htt hvm hw_3 hBB hzz hkk hS => ?_)
      have hw_3 : r_2 = nI (q_dg uS nc rb.toNatClampNeg i) := hw_3
      obtain ⟨hPP, hDD⟩ := hBB
      rw [htt] at hPP
      have hPP : va_P (dC, dI) vw_cls [(b0, .inr (1, [.int rc, .ref bS, .ref bC, .int rv, .ref bW, .int rp, .ref bCe, .ref bA, .ref bB, .ref bM, .int rf, .ref bG, .ref bK, .ref bCa, .ref bL, .int rd, .int rg, .int re, .ref bO, .int rl, .int rq, .int rb, .long rz])), (bS, .inl (cI, 5, .inl uS))] H1 := hPP
      have hDD : va_D (va_A [(b0, .inr (1, [.int rc, .ref bS, .ref bC, .int rv, .ref bW, .int rp, .ref bCe, .ref bA, .ref bB, .ref bM, .int rf, .ref bG, .ref bK, .ref bCa, .ref bL, .int rd, .int rg, .int re, .ref bO, .int rl, .int rq, .int rb, .long rz])), (bS, .inl (cI, 5, .inl uS))] H.size) [(b0, .inr (1, [.int rc, .ref bS, .ref bC, .int rv, .ref bW, .int rp, .ref bCe, .ref bA, .ref bB, .ref bM, .int rf, .ref bG, .ref bK, .ref bCa, .ref bL, .int rd, .int rg, .int re, .ref bO, .int rl, .int rq, .int rb, .long rz])), (bS, .inl (cI, 5, .inl uS))] := hDD
      obtain ⟨hP, hD⟩ := va_join (wr := [(bC, .inl (cI, 5, .inl g))]) (w1 := [(b0, .inr (1, [.int rc, .ref bS, .ref bC, .int rv, .ref bW, .int rp, .ref bCe, .ref bA, .ref bB, .ref bM, .int rf, .ref bG, .ref bK, .ref bCa, .ref bL, .int rd, .int rg, .int re, .ref bO, .int rl, .int rq, .int rb, .long rz])), (bS, .inl (cI, 5, .inl uS))]) hP hD [0, 1] [2] rfl rfl (by decide) (by decide) hkk hFc hPP hDD
      generalize H1 = H at hP hS ⊢
      have hP : va_P (dC, dI) vw_cls [(bC, .inl (cI, 5, .inl g)), (b0, .inr (1, [.int rc, .ref bS, .ref bC, .int rv, .ref bW, .int rp, .ref bCe, .ref bA, .ref bB, .ref bM, .int rf, .ref bG, .ref bK, .ref bCa, .ref bL, .int rd, .int rg, .int re, .ref bO, .int rl, .int rq, .int rb, .long rz])), (bS, .inl (cI, 5, .inl uS))] H := hP
      have hD : va_D A [(bC, .inl (cI, 5, .inl g)), (b0, .inr (1, [.int rc, .ref bS, .ref bC, .int rv, .ref bW, .int rp, .ref bCe, .ref bA, .ref bB, .ref bM, .int rf, .ref bG, .ref bK, .ref bCa, .ref bL, .int rd, .int rg, .int re, .ref bO, .int rl, .int rq, .int rb, .long rz])), (bS, .inl (cI, 5, .inl uS))] := hD
      have eh_4 : xi = nI (i) := exi
      have bh_4 : i < 5 := by omega
      have h_4 : vp_in xi 5 := by rw [eh_4]; exact vp_in_nI bh_4 (by decide)
      have kh_4 : xi.toNatClampNeg = i := by rw [eh_4]; exact nI_clamp (by omega)
      refine va_iast hx hb hK hP hD hS 0 0 rfl rfl h_4 d_Ref_take_49 (fun H locs hP hD hS => ?_)
      rw [kh_4] at hP hD
      obtain ⟨g2, eg2⟩ : ∃ y : Nat → Int32, y = upd g (i) r_2 := ⟨_, rfl⟩
      rw [← eg2] at hP hD
      have hP : va_P (dC, dI) vw_cls [(bC, .inl (cI, 5, .inl g2)), (b0, .inr (1, [.int rc, .ref bS, .ref bC, .int rv, .ref bW, .int rp, .ref bCe, .ref bA, .ref bB, .ref bM, .int rf, .ref bG, .ref bK, .ref bCa, .ref bL, .int rd, .int rg, .int re, .ref bO, .int rl, .int rq, .int rb, .long rz])), (bS, .inl (cI, 5, .inl uS))] H := hP
      have hD : va_D A [(bC, .inl (cI, 5, .inl g2)), (b0, .inr (1, [.int rc, .ref bS, .ref bC, .int rv, .ref bW, .int rp, .ref bCe, .ref bA, .ref bB, .ref bM, .int rf, .ref bG, .ref bK, .ref bCa, .ref bL, .int rd, .int rg, .int re, .ref bO, .int rl, .int rq, .int rb, .long rz])), (bS, .inl (cI, 5, .inl uS))] := hD
      obtain ⟨v_5, ev_5⟩ : ∃ y : Int32, y = xi + 1 := ⟨_, rfl⟩
      refine lv_iinc (v := v_5) (lv' := [(2, .int v_5), (0, .ref b0), (1, .int n1)]) hx hb d_Ref_take_50 hl (k := 2) rfl (by rw [ev_5]; rfl) (by decide) rfl (fun ls hl => ?_)
      refine lv_goto (tgt := 27) hx hb d_Ref_take_53 (by decide) ?_
      exact ih (i + 1) v_5 g2 hlti (by rw [ev_5, exi]; exact nI_1 i) (by rw [eg2, hw_3, eg]; rfl) (by omega) H locs (hP.sub [1, 2, 0] rfl) (hD.sub [1, 2, 0] (by decide) rfl) hS ls (lv_sub hl [1, 2, 0] rfl)
set_option maxHeartbeats 4000000 in
set_option maxRecDepth 100000 in
/-- the reference: take -/
theorem m_take (l : Launch) (dC : Nat → ClassId) (dI : Nat → Nat → Nat) (sz : Nat) (cI : ClassId) (cZ : ClassId) (cQ : ClassId) (b0 : Nat) (rc : Int32) (bS : Nat) (bC : Nat) (rv : Int32) (bW : Nat) (rp : Int32) (bCe : Nat) (bA : Nat) (bB : Nat) (bM : Nat) (rf : Int32) (bG : Nat) (bK : Nat) (bCa : Nat) (bL : Nat) (rd : Int32) (rg : Int32) (re : Int32) (bO : Nat) (rl : Int32) (rq : Int32) (rb : Int32) (rz : Int64) (uS : Nat → Int32) (uC : Nat → Int32) (nc : Nat) (hrc : rc = nI nc) (hnc : nc ≤ 5) (hS1 : q_okS uS nc) (hqv : ¬ rb < 0 → rb = nI rb.toNatClampNeg ∧ rb.toNatClampNeg < 64) : Met l y_Ref_take w_Ref_take ({ frames := 2, cells := 0, slots := 0, locals := 47 } : Room) (va_Pc [.ref b0] (fun U => U.heap.size = sz ∧ va_P (dC, dI) vw_cls [(b0, .inr (1, [.int rc, .ref bS, .ref bC, .int rv, .ref bW, .int rp, .ref bCe, .ref bA, .ref bB, .ref bM, .int rf, .ref bG, .ref bK, .ref bCa, .ref bL, .int rd, .int rg, .int re, .ref bO, .int rl, .int rq, .int rb, .long rz])), (bS, .inl (cI, 5, .inl uS)), (bC, .inl (cI, 5, .inl uC))] U.heap ∧ g_K dC dI [(cI, .int), (cZ, .boolean), (cQ, (.object "SettingSearch$Answers"))] U ∧ va_D (fun _ => True) [(b0, .inr (1, [.int rc, .ref bS, .ref bC, .int rv, .ref bW, .int rp, .ref bCe, .ref bA, .ref bB, .ref bM, .int rf, .ref bG, .ref bK, .ref bCa, .ref bL, .int rd, .int rg, .int re, .ref bO, .int rl, .int rq, .int rb, .long rz])), (bS, .inl (cI, 5, .inl uS)), (bC, .inl (cI, 5, .inl uC))])) (va_Qi (fun (r : Int32) (u : (Nat → Int32)) => (rg = 0 ∧ ¬ rb < 0 ∧ r = q_chr uS uC nc rb.toNatClampNeg nc ∧ u = q_ber uS uC nc rb.toNatClampNeg nc) ∨ ((¬ rg = 0 ∨ rb < 0) ∧ r = -1 ∧ u = uC)) (fun (u : (Nat → Int32)) (t : State) => va_P (dC, dI) vw_cls [(b0, .inr (1, [.int rc, .ref bS, .ref bC, .int rv, .ref bW, .int rp, .ref bCe, .ref bA, .ref bB, .ref bM, .int rf, .ref bG, .ref bK, .ref bCa, .ref bL, .int rd, .int rg, .int re, .ref bO, .int rl, .int rq, .int rb, .long rz])), (bS, .inl (cI, 5, .inl uS)), (bC, .inl (cI, 5, .inl u))] t.heap ∧ va_D (va_A [(b0, .inr (1, [.int rc, .ref bS, .ref bC, .int rv, .ref bW, .int rp, .ref bCe, .ref bA, .ref bB, .ref bM, .int rf, .ref bG, .ref bK, .ref bCa, .ref bL, .int rd, .int rg, .int re, .ref bO, .int rl, .int rq, .int rb, .long rz])), (bS, .inl (cI, 5, .inl uS)), (bC, .inl (cI, 5, .inl uC))] sz) [(b0, .inr (1, [.int rc, .ref bS, .ref bC, .int rv, .ref bW, .int rp, .ref bCe, .ref bA, .ref bB, .ref bM, .int rf, .ref bG, .ref bK, .ref bCa, .ref bL, .int rd, .int rg, .int re, .ref bO, .int rl, .int rq, .int rb, .long rz])), (bS, .inl (cI, 5, .inl uS)), (bC, .inl (cI, 5, .inl u))]) (va_A [(b0, .inr (1, [.int rc, .ref bS, .ref bC, .int rv, .ref bW, .int rp, .ref bCe, .ref bA, .ref bB, .ref bM, .int rf, .ref bG, .ref bK, .ref bCa, .ref bL, .int rd, .int rg, .int re, .ref bO, .int rl, .int rq, .int rb, .long rz])), (bS, .inl (cI, 5, .inl uS)), (bC, .inl (cI, 5, .inl uC))] sz)) 0 0 (va_A [(b0, .inr (1, [.int rc, .ref bS, .ref bC, .int rv, .ref bW, .int rp, .ref bCe, .ref bA, .ref bB, .ref bM, .int rf, .ref bG, .ref bK, .ref bCa, .ref bL, .int rd, .int rg, .int re, .ref bO, .int rl, .int rq, .int rb, .long rz])), (bS, .inl (cI, 5, .inl uS)), (bC, .inl (cI, 5, .inl uC))] sz) := by
  refine Met.ofW (cc := b_Ref_take) (maxL := 3) (ret := (some .int)) (by decide) rfl ?_
  intro p e s m args below meth c s₁ B hml hv
  obtain ⟨rfl, hsz, hP, hKN, hD0⟩ := hv
  obtain ⟨hK, hN⟩ := id hKN
  have hx := B.exec
  have hb := B.bytes
  have hr := B.returns
  have hts0 := atoms_spec (ws := w_Ref_take) B.pre
  have hts : ∀ w ∈ lw_g, w.before _ s = true := fun w h => hts0 w (List.mem_cons_of_mem _ h)
  have hown : s.vm.findClass R_Ref = some m.cls := findClass_of_methodNamed B.named
  have hlocks := B.notSynchronized
  subst hsz
  have hD := hD0.self (sz := s.heap.size)
  generalize hAe : va_A [(b0, .inr (1, [.int rc, .ref bS, .ref bC, .int rv, .ref bW, .int rp, .ref bCe, .ref bA, .ref bB, .ref bM, .int rf, .ref bG, .ref bK, .ref bCa, .ref bL, .int rd, .int rg, .int re, .ref bO, .int rl, .int rq, .int rb, .long rz])), (bS, .inl (cI, 5, .inl uS)), (bC, .inl (cI, 5, .inl uC))] s.heap.size = A at hD ⊢
  have hA : ∀ q : Nat, s.heap.size ≤ q → A q := fun q h => by rw [← hAe]; exact Or.inr h
  have hP : va_P (dC, dI) vw_cls [(b0, .inr (1, [.int rc, .ref bS, .ref bC, .int rv, .ref bW, .int rp, .ref bCe, .ref bA, .ref bB, .ref bM, .int rf, .ref bG, .ref bK, .ref bCa, .ref bL, .int rd, .int rg, .int re, .ref bO, .int rl, .int rq, .int rb, .long rz])), (bS, .inl (cI, 5, .inl uS)), (bC, .inl (cI, 5, .inl uC))] s.heap := hP
  have hl := lv_entry ([.ref b0]) (n := 3) (Nat.le_of_ble_eq_true rfl)
  rw [lg_entry_eq]
  generalize (lg_sl ([.ref b0]) ++ List.replicate (3 - (lg_sl ([.ref b0])).length) Slot.unset).toArray = ls at hl ⊢
  have hl : lv_has ls 3 [(0, .ref b0)] := hl
  refine gw_start (fun H locs hH hlocs => ?_)
  rw [← hH] at hP
  have hS : va_S A s.heap H locs := by rw [hH, hlocs]; exact va_S.rf
  refine lv_aload_n hx hb d_Ref_take_0 rfl (lv_at hl 0 rfl) ?_
  refine va_get (D := (dC, dI)) (ci := 1) (v := .int rg) (C := R_Ref) (T := T_Ref) (N := 23) hx hb hts in_Ref hown hK hP 0 rfl rfl 16 (by decide) (hts _ tw_445) (fun _ h9 => h9) rfl d_Ref_take_1 ?_
  refine lv_if_ne (tgt := 14) hx hb d_Ref_take_4 (by decide) (fun c_1 => ?_) (fun c_1 => ?_)
  · skip
    have cg : ¬ rg = 0 := c_1
    refine lv_iconst (v := (-1)) hx hb d_Ref_take_14 (by decide) ?_
    have hP9 := hP.sub (ws' := [(b0, .inr (1, [.int rc, .ref bS, .ref bC, .int rv, .ref bW, .int rp, .ref bCe, .ref bA, .ref bB, .ref bM, .int rf, .ref bG, .ref bK, .ref bCa, .ref bL, .int rd, .int rg, .int re, .ref bO, .int rl, .int rq, .int rb, .long rz])), (bS, .inl (cI, 5, .inl uS)), (bC, .inl (cI, 5, .inl uC))]) [0, 1, 2] rfl
    have hD9 := hD.sub (ws' := [(b0, .inr (1, [.int rc, .ref bS, .ref bC, .int rv, .ref bW, .int rp, .ref bCe, .ref bA, .ref bB, .ref bM, .int rf, .ref bG, .ref bK, .ref bCa, .ref bL, .int rd, .int rg, .int re, .ref bO, .int rl, .int rq, .int rb, .long rz])), (bS, .inl (cI, 5, .inl uS)), (bC, .inl (cI, 5, .inl uC))]) [0, 1, 2] (by decide) rfl
    have hpost_2 : (rg = 0 ∧ ¬ rb < 0 ∧ ((-1) : Int32) = q_chr uS uC nc rb.toNatClampNeg nc ∧ uC = q_ber uS uC nc rb.toNatClampNeg nc) ∨ ((¬ rg = 0 ∨ rb < 0) ∧ ((-1) : Int32) = -1 ∧ uC = uC) := Or.inr ⟨by first | exact Or.inl cg | exact Or.inr cb, rfl, rfl⟩
    exact W.iret (v := (-1)) hx hb hr (fun t ht hW => ⟨⟨(-1), uC, rfl, hpost_2, by rw [ht]; exact hP9, hD9⟩, hS.F ht⟩) hS.2.2 d_Ref_take_15
  · skip
    have cg : rg = 0 := c_1
    refine lv_aload_n hx hb d_Ref_take_7 rfl (lv_at hl 0 rfl) ?_
    refine va_get (D := (dC, dI)) (ci := 1) (v := .int rb) (C := R_Ref) (T := T_Ref) (N := 23) hx hb hts in_Ref hown hK hP 0 rfl rfl 21 (by decide) (hts _ tw_450) (fun _ h9 => h9) rfl d_Ref_take_8 ?_
    refine lv_if_ge (tgt := 16) hx hb d_Ref_take_11 (by decide) (fun c_3 => ?_) (fun c_3 => ?_)
    · skip
      have cb : ¬ rb < 0 := Int32.not_lt.mpr c_3
      refine lv_aload_n hx hb d_Ref_take_16 rfl (lv_at hl 0 rfl) ?_
      refine lv_aload_n hx hb d_Ref_take_17 rfl (lv_at hl 0 rfl) ?_
      refine va_get (D := (dC, dI)) (ci := 1) (v := .int rb) (C := R_Ref) (T := T_Ref) (N := 23) hx hb hts in_Ref hown hK hP 0 rfl rfl 21 (by decide) (hts _ tw_450) (fun _ h9 => h9) rfl d_Ref_take_18 ?_
      have hPc := hP.sub (ws' := [(b0, .inr (1, [.int rc, .ref bS, .ref bC, .int rv, .ref bW, .int rp, .ref bCe, .ref bA, .ref bB, .ref bM, .int rf, .ref bG, .ref bK, .ref bCa, .ref bL, .int rd, .int rg, .int re, .ref bO, .int rl, .int rq, .int rb, .long rz])), (bS, .inl (cI, 5, .inl uS)), (bC, .inl (cI, 5, .inl uC))]) [0, 1, 2] rfl
      have hDc := hD.sub (ws' := [(b0, .inr (1, [.int rc, .ref bS, .ref bC, .int rv, .ref bW, .int rp, .ref bCe, .ref bA, .ref bB, .ref bM, .int rf, .ref bG, .ref bK, .ref bCa, .ref bL, .int rd, .int rg, .int re, .ref bO, .int rl, .int rq, .int rb, .long rz])), (bS, .inl (cI, 5, .inl uS)), (bC, .inl (cI, 5, .inl uC))]) [0, 1, 2] (by decide) rfl
      have hFc := va_free (wc := [(b0, .inr (1, [.int rc, .ref bS, .ref bC, .int rv, .ref bW, .int rp, .ref bCe, .ref bA, .ref bB, .ref bM, .int rf, .ref bG, .ref bK, .ref bCa, .ref bL, .int rd, .int rg, .int re, .ref bO, .int rl, .int rq, .int rb, .long rz])), (bS, .inl (cI, 5, .inl uS)), (bC, .inl (cI, 5, .inl uC))]) hD hS hA [0, 1, 2] rfl
      refine va_calli (va_runV (As := [.int rb]) (rest := []) ⟨hx, hb, hml, hown, hts⟩ (m_ch l dC dI H.size cI cZ cQ b0 rc bS bC rv bW rp bCe bA bB bM rf bG bK bCa bL rd rg re bO rl rq rb rz uS uC rb rb.toNatClampNeg nc hrc hnc hS1 ((hqv cb).1) ((hqv cb).2)) ⟨(callB_of 1 hts (ga_all tw_542) rfl rfl rfl (hts _ tw_29) (hts _ tw_539) (by decide +kernel) ⟨Nat.le_of_ble_eq_true rfl, Nat.le_of_ble_eq_true rfl⟩), hts _ tw_541, hts _ tw_11⟩ ⟨fun a U g mk q => by obtain ⟨q0, q1, qP, qK, qD⟩ := q; exact ⟨q0, q1, qP, g_K.same (u := U) (U := U.calling g mk a) rfl qK, qD⟩, va_recv hK hPc (ci := 1) (q0 := 0) rfl rfl, fun U hU hW => ⟨rfl, by rw [hU], by rw [hU]; exact hPc, g_K.warm hW hKN, hDc.weaken (fun _ _ _ _ => trivial)⟩⟩ rfl rfl hl.1 rfl (lv_room (Nat.le_of_ble_eq_true rfl)) d_Ref_take_21 ⟨Nat.le_of_ble_eq_true rfl, Nat.le_of_ble_eq_true rfl⟩) hS (fun q _ h => hFc q h) hFc (fun n1 u t H1 locs htt hvm hw_4 hBB hzz hkk hS => ?_)
      have hw_4 : n1 = q_chr uS uC nc rb.toNatClampNeg nc := hw_4
      obtain ⟨hPP, hDD⟩ := hBB
      rw [htt] at hPP
      have hPP : va_P (dC, dI) vw_cls [(b0, .inr (1, [.int rc, .ref bS, .ref bC, .int rv, .ref bW, .int rp, .ref bCe, .ref bA, .ref bB, .ref bM, .int rf, .ref bG, .ref bK, .ref bCa, .ref bL, .int rd, .int rg, .int re, .ref bO, .int rl, .int rq, .int rb, .long rz])), (bS, .inl (cI, 5, .inl uS)), (bC, .inl (cI, 5, .inl uC))] H1 := hPP
      have hDD : va_D (va_A [(b0, .inr (1, [.int rc, .ref bS, .ref bC, .int rv, .ref bW, .int rp, .ref bCe, .ref bA, .ref bB, .ref bM, .int rf, .ref bG, .ref bK, .ref bCa, .ref bL, .int rd, .int rg, .int re, .ref bO, .int rl, .int rq, .int rb, .long rz])), (bS, .inl (cI, 5, .inl uS)), (bC, .inl (cI, 5, .inl uC))] H.size) [(b0, .inr (1, [.int rc, .ref bS, .ref bC, .int rv, .ref bW, .int rp, .ref bCe, .ref bA, .ref bB, .ref bM, .int rf, .ref bG, .ref bK, .ref bCa, .ref bL, .int rd, .int rg, .int re, .ref bO, .int rl, .int rq, .int rb, .long rz])), (bS, .inl (cI, 5, .inl uS)), (bC, .inl (cI, 5, .inl uC))] := hDD
      obtain ⟨hP, hD⟩ := va_join (wr := []) (w1 := [(b0, .inr (1, [.int rc, .ref bS, .ref bC, .int rv, .ref bW, .int rp, .ref bCe, .ref bA, .ref bB, .ref bM, .int rf, .ref bG, .ref bK, .ref bCa, .ref bL, .int rd, .int rg, .int re, .ref bO, .int rl, .int rq, .int rb, .long rz])), (bS, .inl (cI, 5, .inl uS)), (bC, .inl (cI, 5, .inl uC))]) hP hD [0, 1, 2] [] rfl rfl (by decide) (by decide) hkk hFc hPP hDD
      generalize H1 = H at hP hS ⊢
      have hP : va_P (dC, dI) vw_cls [(b0, .inr (1, [.int rc, .ref bS, .ref bC, .int rv, .ref bW, .int rp, .ref bCe, .ref bA, .ref bB, .ref bM, .int rf, .ref bG, .ref bK, .ref bCa, .ref bL, .int rd, .int rg, .int re, .ref bO, .int rl, .int rq, .int rb, .long rz])), (bS, .inl (cI, 5, .inl uS)), (bC, .inl (cI, 5, .inl uC))] H := hP
      have hD : va_D A [(b0, .inr (1, [.int rc, .ref bS, .ref bC, .int rv, .ref bW, .int rp, .ref bCe, .ref bA, .ref bB, .ref bM, .int rf, .ref bG, .ref bK, .ref bCa, .ref bL, .int rd, .int rg, .int re, .ref bO, .int rl, .int rq, .int rb, .long rz])), (bS, .inl (cI, 5, .inl uS)), (bC, .inl (cI, 5, .inl uC))] := hD
      have hn1 : n1 = q_chr uS uC nc rb.toNatClampNeg nc := hw_4
      refine lv_istore_n (lv' := [(1, .int n1), (0, .ref b0)]) hx hb d_Ref_take_24 rfl hl (by decide) rfl (fun ls hl => ?_)
      refine lv_iconst (v := 0) hx hb d_Ref_take_25 (by decide) ?_
      refine lv_istore_n (lv' := [(2, .int 0), (1, .int n1), (0, .ref b0)]) hx hb d_Ref_take_26 rfl hl (by decide) rfl (fun ls hl => ?_)
      refine L_ta hx hb hml hown hts hA cI cZ cQ b0 rc bS bC rv bW rp bCe bA bB bM rf bG bK bCa bL rd rg re bO rl rq rb rz uS uC nc n1 hrc hnc hS1 hqv cb hKN ?_ (nc - 0 + 1) 0 0 uC (Nat.zero_le _) rfl rfl (Nat.lt_succ_self _) H locs (hP.sub [0, 1, 2] rfl) (hD.sub [0, 1, 2] (by decide) rfl) hS ls (lv_sub hl [2, 1, 0] rfl)
      intro i xi g hi exi eg hendi H locs hP hD hS ls hl
      have hl : lv_has ls 3 [(0, .ref b0), (1, .int n1), (2, .int xi)] := hl
      have hP : va_P (dC, dI) vw_cls [(b0, .inr (1, [.int rc, .ref bS, .ref bC, .int rv, .ref bW, .int rp, .ref bCe, .ref bA, .ref bB, .ref bM, .int rf, .ref bG, .ref bK, .ref bCa, .ref bL, .int rd, .int rg, .int re, .ref bO, .int rl, .int rq, .int rb, .long rz])), (bS, .inl (cI, 5, .inl uS)), (bC, .inl (cI, 5, .inl g))] H := hP
      have hD : va_D A [(b0, .inr (1, [.int rc, .ref bS, .ref bC, .int rv, .ref bW, .int rp, .ref bCe, .ref bA, .ref bB, .ref bM, .int rf, .ref bG, .ref bK, .ref bCa, .ref bL, .int rd, .int rg, .int re, .ref bO, .int rl, .int rq, .int rb, .long rz])), (bS, .inl (cI, 5, .inl uS)), (bC, .inl (cI, 5, .inl g))] := hD
      refine lv_iload_n hx hb d_Ref_take_56 rfl (lv_at hl 1 rfl) ?_
      have hP9 := hP.sub (ws' := [(b0, .inr (1, [.int rc, .ref bS, .ref bC, .int rv, .ref bW, .int rp, .ref bCe, .ref bA, .ref bB, .ref bM, .int rf, .ref bG, .ref bK, .ref bCa, .ref bL, .int rd, .int rg, .int re, .ref bO, .int rl, .int rq, .int rb, .long rz])), (bS, .inl (cI, 5, .inl uS)), (bC, .inl (cI, 5, .inl g))]) [0, 1, 2] rfl
      have hD9 := hD.sub (ws' := [(b0, .inr (1, [.int rc, .ref bS, .ref bC, .int rv, .ref bW, .int rp, .ref bCe, .ref bA, .ref bB, .ref bM, .int rf, .ref bG, .ref bK, .ref bCa, .ref bL, .int rd, .int rg, .int re, .ref bO, .int rl, .int rq, .int rb, .long rz])), (bS, .inl (cI, 5, .inl uS)), (bC, .inl (cI, 5, .inl g))]) [0, 1, 2] (by decide) rfl
      have hpost_5 : (rg = 0 ∧ ¬ rb < 0 ∧ (n1 : Int32) = q_chr uS uC nc rb.toNatClampNeg nc ∧ g = q_ber uS uC nc rb.toNatClampNeg nc) ∨ ((¬ rg = 0 ∨ rb < 0) ∧ (n1 : Int32) = -1 ∧ g = uC) := Or.inl ⟨cg, cb, hn1, by rw [eg, hendi]⟩
      exact W.iret (v := n1) hx hb hr (fun t ht hW => ⟨⟨n1, g, rfl, hpost_5, by rw [ht]; exact hP9, hD9⟩, hS.F ht⟩) hS.2.2 d_Ref_take_57
    · skip
      have cb : rb < 0 := Int32.not_le.mp c_3
      refine lv_iconst (v := (-1)) hx hb d_Ref_take_14 (by decide) ?_
      have hP9 := hP.sub (ws' := [(b0, .inr (1, [.int rc, .ref bS, .ref bC, .int rv, .ref bW, .int rp, .ref bCe, .ref bA, .ref bB, .ref bM, .int rf, .ref bG, .ref bK, .ref bCa, .ref bL, .int rd, .int rg, .int re, .ref bO, .int rl, .int rq, .int rb, .long rz])), (bS, .inl (cI, 5, .inl uS)), (bC, .inl (cI, 5, .inl uC))]) [0, 1, 2] rfl
      have hD9 := hD.sub (ws' := [(b0, .inr (1, [.int rc, .ref bS, .ref bC, .int rv, .ref bW, .int rp, .ref bCe, .ref bA, .ref bB, .ref bM, .int rf, .ref bG, .ref bK, .ref bCa, .ref bL, .int rd, .int rg, .int re, .ref bO, .int rl, .int rq, .int rb, .long rz])), (bS, .inl (cI, 5, .inl uS)), (bC, .inl (cI, 5, .inl uC))]) [0, 1, 2] (by decide) rfl
      have hpost_6 : (rg = 0 ∧ ¬ rb < 0 ∧ ((-1) : Int32) = q_chr uS uC nc rb.toNatClampNeg nc ∧ uC = q_ber uS uC nc rb.toNatClampNeg nc) ∨ ((¬ rg = 0 ∨ rb < 0) ∧ ((-1) : Int32) = -1 ∧ uC = uC) := Or.inr ⟨by first | exact Or.inl cg | exact Or.inr cb, rfl, rfl⟩
      exact W.iret (v := (-1)) hx hb hr (fun t ht hW => ⟨⟨(-1), uC, rfl, hpost_6, by rw [ht]; exact hP9, hD9⟩, hS.F ht⟩) hS.2.2 d_Ref_take_15
