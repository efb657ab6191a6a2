def q_ca (set a0 : Int32) (ke : Nat → Int32) : Nat → Int32
  | 0 => a0
  | k + 1 => if q_ca set a0 ke k = 0 then 0 else if (set >>> (nI k &&& 31)) &&& 1 = 0 then 1 else if ke k = 0 then 0 else 1
def q_cb (p : Nat → Int32) : Nat → Bool
  | 0 => false
  | v + 1 => q_cb p v || decide (¬ p v = 0)
theorem q_cb_t {p : Nat → Int32} {i : Nat} (h : ¬ p i = 0) : ∀ n, i < n → q_cb p n = true
  | 0, q => absurd q (Nat.not_lt_zero _)
  | n + 1, q => by
    rcases Nat.lt_or_ge i n with r | r
    · simp [q_cb, q_cb_t h n r]
    · have e : n = i := by omega
      subst e
      simp [q_cb, h]
def q_sz (set : Int32) : Nat → Int32
  | 0 => 0
  | k + 1 => q_sz set k + ((set >>> (nI k &&& 31)) &&& 1)
def q_tr (it : Nat → Int32) : Nat → Int32
  | 0 => 0
  | k + 1 => q_tr it k ||| (if it k = 0 then (0 : Int32) else 1 <<< (nI k &&& 31))
def q_cl (told : Int32) (cb : Int32 → Bool) : Nat → Int32
  | 0 => 0
  | j + 1 => if nI (j + 1) &&& told = nI (j + 1) ∧ (q_cl told cb j = 0 ∨ ¬ q_sz (q_cl told cb j) 9 ≤ q_sz (nI (j + 1)) 9) ∧ ¬ cb (nI (j + 1)) = true then nI (j + 1) else q_cl told cb j
def q_nr (set k : Int32) : Nat → Nat → Int32 → Int32
  | 0, _, _ => -1
  | n + 1, j, ps => if ¬ (set >>> (nI j &&& 31)) &&& 1 = 1 then q_nr set k n (j + 1) ps else if ps = k then nI j else q_nr set k n (j + 1) (ps + 1)
def q_gr (uK st : Nat → Int32) (wo : Nat → Int64) : Nat → Int64
  | 0 => -9223372036854775808
  | v + 1 => if uK v = 0 then q_gr uK st wo v else if st v = 0 then q_gr uK st wo v else if wo v ≤ q_gr uK st wo v then q_gr uK st wo v else wo v
set_option maxHeartbeats 4000000 in
set_option maxRecDepth 100000 in
theorem L_cbi {p : Program} {l : Launch} {e : Env} {s : State} {m : MethodId} {args : Array Value} {below : List Frame} {meth : Method} {c : Code} {Q : State → Prop} {A : Nat → Prop} (hx : p.tables.exec = Jvm.exec) (hb : c.code = b_Ref_canBeKept) (hml : c.maxLocals = 5) (hown : s.vm.findClass R_Ref = some m.cls) (hts : ∀ w ∈ lw_g, w.before args s = true) (hA : ∀ q, s.heap.size ≤ q → A q) {dC : Nat → ClassId} {dI : Nat → Nat → Nat} (cI : ClassId) (cZ : ClassId) (cQ : ClassId) (b0 : Nat) (rc : Int32) (bS : Nat) (bC : Nat) (rv : Int32) (bW : Nat) (rp : Int32) (bCe : Nat) (bA : Nat) (bB : Nat) (bM : Nat) (rf : Int32) (bG : Nat) (bK : Nat) (bCa : Nat) (bL : Nat) (rd : Int32) (rg : Int32) (re : Int32) (bO : Nat) (rl : Int32) (rq : Int32) (rb : Int32) (rz : Int64) (uCe : Nat → Int32) (uA : Nat → Int32) (uB : Nat → Int32) (uM : Nat → Int32) (uK : Nat → Int32) (uCa : Nat → Int32) (uL : Nat → Int32) (s1 : Int32) (nc : Nat) (nv : Nat) (np : Nat) (jf : Nat) (i : Nat) (xi : Int32) (hrc : rc = nI nc) (hnc : nc ≤ 5) (hrv : rv = nI nv) (hnv : nv ≤ 64) (hrp : rp = nI np) (hnp : np ≤ 4) (hrd : rd = nI jf) (hjf : jf < 4) (hCe : q_okCe uCe np) (exi : xi = nI i) (hlti : i < nv) (hKN : g_K dC dI [(cI, .int), (cZ, .boolean), (cQ, (.object "SettingSearch$Answers"))] s)
    (kx_78 : ∀ (k : Nat) (xk : Int32) (al : Int32) (_ : k ≤ 9) (_ : xk = nI k) (_ : al = q_ca s1 (uK (64 * jf + i)) (fun k => q_ke uCe uA uB uM uCa uL nc np (64 * jf + i) k) k) (_ : k = 9) (H : Heap) (locs : List Loc), va_P (dC, dI) vw_cls [(b0, .inr (1, [.int rc, .ref bS, .ref bC, .int rv, .ref bW, .int rp, .ref bCe, .ref bA, .ref bB, .ref bM, .int rf, .ref bG, .ref bK, .ref bCa, .ref bL, .int rd, .int rg, .int re, .ref bO, .int rl, .int rq, .int rb, .long rz])), (bCe, .inl (cI, 4, .inl uCe)), (bA, .inl (cI, 4, .inl uA)), (bB, .inl (cI, 4, .inl uB)), (bM, .inl (cI, 5, .inl uM)), (bK, .inl (cZ, 256, .inl uK)), (bCa, .inl (cI, 2304, .inl uCa)), (bL, .inl (cI, 1280, .inl uL))] H → va_D A [(b0, .inr (1, [.int rc, .ref bS, .ref bC, .int rv, .ref bW, .int rp, .ref bCe, .ref bA, .ref bB, .ref bM, .int rf, .ref bG, .ref bK, .ref bCa, .ref bL, .int rd, .int rg, .int re, .ref bO, .int rl, .int rq, .int rb, .long rz])), (bCe, .inl (cI, 4, .inl uCe)), (bA, .inl (cI, 4, .inl uA)), (bB, .inl (cI, 4, .inl uB)), (bM, .inl (cI, 5, .inl uM)), (bK, .inl (cZ, 256, .inl uK)), (bCa, .inl (cI, 2304, .inl uCa)), (bL, .inl (cI, 1280, .inl uL))] → va_S A s.heap H locs → ∀ (ls : Array Slot), lv_has ls 5 [(0, .ref b0), (1, .int s1), (2, .int xi), (3, .int al), (4, .int xk)] → W p l e ({ frames := 1, cells := 0, slots := 0, locals := 26 } : Room) s m args below meth c H locs 0 0 Q (F0 m 78 ls [])) :
    ∀ (n : Nat) (k : Nat) (xk : Int32) (al : Int32) (_ : k ≤ 9) (_ : xk = nI k) (_ : al = q_ca s1 (uK (64 * jf + i)) (fun k => q_ke uCe uA uB uM uCa uL nc np (64 * jf + i) k) k) (_ : 9 - k < n) (H : Heap) (locs : List Loc), va_P (dC, dI) vw_cls [(b0, .inr (1, [.int rc, .ref bS, .ref bC, .int rv, .ref bW, .int rp, .ref bCe, .ref bA, .ref bB, .ref bM, .int rf, .ref bG, .ref bK, .ref bCa, .ref bL, .int rd, .int rg, .int re, .ref bO, .int rl, .int rq, .int rb, .long rz])), (bCe, .inl (cI, 4, .inl uCe)), (bA, .inl (cI, 4, .inl uA)), (bB, .inl (cI, 4, .inl uB)), (bM, .inl (cI, 5, .inl uM)), (bK, .inl (cZ, 256, .inl uK)), (bCa, .inl (cI, 2304, .inl uCa)), (bL, .inl (cI, 1280, .inl uL))] H → va_D A [(b0, .inr (1, [.int rc, .ref bS, .ref bC, .int rv, .ref bW, .int rp, .ref bCe, .ref bA, .ref bB, .ref bM, .int rf, .ref bG, .ref bK, .ref bCa, .ref bL, .int rd, .int rg, .int re, .ref bO, .int rl, .int rq, .int rb, .long rz])), (bCe, .inl (cI, 4, .inl uCe)), (bA, .inl (cI, 4, .inl uA)), (bB, .inl (cI, 4, .inl uB)), (bM, .inl (cI, 5, .inl uM)), (bK, .inl (cZ, 256, .inl uK)), (bCa, .inl (cI, 2304, .inl uCa)), (bL, .inl (cI, 1280, .inl uL))] → va_S A s.heap H locs → ∀ (ls : Array Slot), lv_has ls 5 [(0, .ref b0), (1, .int s1), (2, .int xi), (3, .int al), (4, .int xk)] → W p l e ({ frames := 1, cells := 0, slots := 0, locals := 26 } : Room) s m args below meth c H locs 0 0 Q (F0 m 28 ls []) := by
  obtain ⟨hK, hN⟩ := id hKN
  intro n
  induction n with
  | zero =>
    intro k xk al hk exk ea hm
    exact absurd hm (Nat.not_lt_zero _)
  | succ n ih =>
    intro k xk al hk exk ea hm H locs hP hD hS ls hl
    refine lv_iload hx hb d_Ref_canBeKept_28 (lv_at hl 4 rfl) ?_
    refine lv_bipush (v := 9) hx hb d_Ref_canBeKept_30 (by decide) ?_
    refine lv_icmp_ge (tgt := 78) hx hb d_Ref_canBeKept_32 (by decide) (fun c_1 => ?_) (fun c_1 => ?_)
    · skip
      have hendk := lp_ge (N := 9) c_1 exk rfl hk (by omega)
      exact kx_78 k xk al hk exk ea hendk H locs (hP.sub [0, 1, 2, 3, 4, 5, 6, 7] rfl) (hD.sub [0, 1, 2, 3, 4, 5, 6, 7] (by decide) rfl) hS ls (lv_sub hl [0, 1, 2, 3, 4] rfl)
    · skip
      have hltk := lp_lt (N := 9) c_1 exk rfl (by omega)
      refine lv_iload_n hx hb d_Ref_canBeKept_35 rfl (lv_at hl 3 rfl) ?_
      refine lv_if_eq (tgt := 70) hx hb d_Ref_canBeKept_36 (by decide) (fun c_2 => ?_) (fun c_2 => ?_)
      · skip
        have cs : q_ca s1 (uK (64 * jf + i)) (fun k => q_ke uCe uA uB uM uCa uL nc np (64 * jf + i) k) k = 0 := by rw [← ea]; exact c_2
        refine lv_iconst (v := 0) hx hb d_Ref_canBeKept_70 (by decide) ?_
        refine lv_istore_n (lv' := [(3, .int 0), (0, .ref b0), (1, .int s1), (2, .int xi), (4, .int xk)]) hx hb d_Ref_canBeKept_71 rfl hl (by decide) rfl (fun ls hl => ?_)
        obtain ⟨v_3, ev_3⟩ : ∃ y : Int32, y = xk + 1 := ⟨_, rfl⟩
        refine lv_iinc (v := v_3) (lv' := [(4, .int v_3), (3, .int 0), (0, .ref b0), (1, .int s1), (2, .int xi)]) hx hb d_Ref_canBeKept_72 hl (k := 4) rfl (by rw [ev_3]; rfl) (by decide) rfl (fun ls hl => ?_)
        refine lv_goto (tgt := 28) hx hb d_Ref_canBeKept_75 (by decide) ?_
        exact ih (k + 1) v_3 0 hltk (by rw [ev_3, exk]; exact nI_1 k) (by first | (rw [q_ca, if_pos cs]; done) | (rw [q_ca, if_neg cs, if_pos cb]; done) | (rw [q_ca, if_neg cs, if_neg cb, if_pos ck]; done) | (rw [q_ca, if_neg cs, if_neg cb, if_neg ck]; done)) (by omega) H locs (hP.sub [0, 1, 2, 3, 4, 5, 6, 7] rfl) (hD.sub [0, 1, 2, 3, 4, 5, 6, 7] (by decide) rfl) hS ls (lv_sub hl [2, 3, 4, 1, 0] rfl)
      · skip
        have cs : ¬ q_ca s1 (uK (64 * jf + i)) (fun k => q_ke uCe uA uB uM uCa uL nc np (64 * jf + i) k) k = 0 := by rw [← ea]; exact c_2
        refine lv_iload_n hx hb d_Ref_canBeKept_39 rfl (lv_at hl 1 rfl) ?_
        refine lv_iload hx hb d_Ref_canBeKept_40 (lv_at hl 4 rfl) ?_
        refine lv_ishr hx hb d_Ref_canBeKept_42 ?_
        refine lv_topi (fun v_4 ev_4 => ?_)
        refine lv_iconst (v := 1) hx hb d_Ref_canBeKept_43 (by decide) ?_
        refine lv_iand hx hb d_Ref_canBeKept_44 ?_
        refine lv_topi (fun v_5 ev_5 => ?_)
        refine lv_if_eq (tgt := 66) hx hb d_Ref_canBeKept_45 (by decide) (fun c_6 => ?_) (fun c_6 => ?_)
        · skip
          have cb : (s1 >>> (nI k &&& 31)) &&& 1 = 0 := by have q := c_6; simp only [ev_4, ev_5, exk] at q; exact q
          refine lv_iconst (v := 1) hx hb d_Ref_canBeKept_66 (by decide) ?_
          refine lv_goto (tgt := 71) hx hb d_Ref_canBeKept_67 (by decide) ?_
          refine lv_istore_n (lv' := [(3, .int 1), (0, .ref b0), (1, .int s1), (2, .int xi), (4, .int xk)]) hx hb d_Ref_canBeKept_71 rfl hl (by decide) rfl (fun ls hl => ?_)
          obtain ⟨v_7, ev_7⟩ : ∃ y : Int32, y = xk + 1 := ⟨_, rfl⟩
          refine lv_iinc (v := v_7) (lv' := [(4, .int v_7), (3, .int 1), (0, .ref b0), (1, .int s1), (2, .int xi)]) hx hb d_Ref_canBeKept_72 hl (k := 4) rfl (by rw [ev_7]; rfl) (by decide) rfl (fun ls hl => ?_)
          refine lv_goto (tgt := 28) hx hb d_Ref_canBeKept_75 (by decide) ?_
          exact ih (k + 1) v_7 1 hltk (by rw [ev_7, exk]; exact nI_1 k) (by first | (rw [q_ca, if_pos cs]; done) | (rw [q_ca, if_neg cs, if_pos cb]; done) | (rw [q_ca, if_neg cs, if_neg cb, if_pos ck]; done) | (rw [q_ca, if_neg cs, if_neg cb, if_neg ck]; done)) (by omega) H locs (hP.sub [0, 1, 2, 3, 4, 5, 6, 7] rfl) (hD.sub [0, 1, 2, 3, 4, 5, 6, 7] (by decide) rfl) hS ls (lv_sub hl [2, 3, 4, 1, 0] rfl)
        · skip
          have cb : ¬ (s1 >>> (nI k &&& 31)) &&& 1 = 0 := by have q := c_6; simp only [ev_4, ev_5, exk] at q; exact q
          refine lv_aload_n hx hb d_Ref_canBeKept_48 rfl (lv_at hl 0 rfl) ?_
          refine lv_bipush (v := 64) hx hb d_Ref_canBeKept_49 (by decide) ?_
          refine lv_aload_n hx hb d_Ref_canBeKept_51 rfl (lv_at hl 0 rfl) ?_
          refine va_get (D := (dC, dI)) (ci := 1) (v := .int rd) (C := R_Ref) (T := T_Ref) (N := 23) hx hb hts in_Ref hown hK hP 0 rfl rfl 15 (by decide) (hts _ tw_444) (fun _ h9 => h9) rfl d_Ref_canBeKept_52 ?_
          refine lv_imul hx hb d_Ref_canBeKept_55 ?_
          refine lv_topi (fun v_8 ev_8 => ?_)
          refine lv_iload_n hx hb d_Ref_canBeKept_56 rfl (lv_at hl 2 rfl) ?_
          refine lv_iadd hx hb d_Ref_canBeKept_57 ?_
          refine lv_topi (fun v_9 ev_9 => ?_)
          refine lv_iload hx hb d_Ref_canBeKept_58 (lv_at hl 4 rfl) ?_
          have hPc := hP.sub (ws' := [(b0, .inr (1, [.int rc, .ref bS, .ref bC, .int rv, .ref bW, .int rp, .ref bCe, .ref bA, .ref bB, .ref bM, .int rf, .ref bG, .ref bK, .ref bCa, .ref bL, .int rd, .int rg, .int re, .ref bO, .int rl, .int rq, .int rb, .long rz])), (bCe, .inl (cI, 4, .inl uCe)), (bA, .inl (cI, 4, .inl uA)), (bB, .inl (cI, 4, .inl uB)), (bM, .inl (cI, 5, .inl uM)), (bCa, .inl (cI, 2304, .inl uCa)), (bL, .inl (cI, 1280, .inl uL))]) [0, 1, 2, 3, 4, 6, 7] rfl
          have hDc := hD.sub (ws' := [(b0, .inr (1, [.int rc, .ref bS, .ref bC, .int rv, .ref bW, .int rp, .ref bCe, .ref bA, .ref bB, .ref bM, .int rf, .ref bG, .ref bK, .ref bCa, .ref bL, .int rd, .int rg, .int re, .ref bO, .int rl, .int rq, .int rb, .long rz])), (bCe, .inl (cI, 4, .inl uCe)), (bA, .inl (cI, 4, .inl uA)), (bB, .inl (cI, 4, .inl uB)), (bM, .inl (cI, 5, .inl uM)), (bCa, .inl (cI, 2304, .inl uCa)), (bL, .inl (cI, 1280, .inl uL))]) [0, 1, 2, 3, 4, 6, 7] (by decide) rfl
          have hFc := va_free (wc := [(b0, .inr (1, [.int rc, .ref bS, .ref bC, .int rv, .ref bW, .int rp, .ref bCe, .ref bA, .ref bB, .ref bM, .int rf, .ref bG, .ref bK, .ref bCa, .ref bL, .int rd, .int rg, .int re, .ref bO, .int rl, .int rq, .int rb, .long rz])), (bCe, .inl (cI, 4, .inl uCe)), (bA, .inl (cI, 4, .inl uA)), (bB, .inl (cI, 4, .inl uB)), (bM, .inl (cI, 5, .inl uM)), (bCa, .inl (cI, 2304, .inl uCa)), (bL, .inl (cI, 1280, .inl uL))]) hD hS hA [0, 1, 2, 3, 4, 6, 7] rfl
          refine va_calli (va_runV (As := [.int v_9, .int xk]) (rest := []) ⟨hx, hb, hml, hown, hts⟩ (m_ke l dC dI H.size cI cZ cQ b0 rc bS bC rv bW rp bCe bA bB bM rf bG bK bCa bL rd rg re bO rl rq rb rz uCe uA uB uM uCa uL xk k v_9 (64 * jf + i) nc np (by simp only [ev_4, ev_5, ev_8, ev_9]; rw [hrd, exi, ix_64]) (by omega) hrc hnc hrp hnp hCe exk hltk) ⟨(callB_of 2 hts (ga_all tw_566) rfl rfl rfl (hts _ tw_29) (hts _ tw_563) (by decide +kernel) ⟨Nat.le_of_ble_eq_true rfl, Nat.le_of_ble_eq_true rfl⟩), hts _ tw_565, hts _ tw_16⟩ ⟨fun a U g mk q => by obtain ⟨q0, q1, qP, qK, qD⟩ := q; exact ⟨q0, q1, qP, g_K.same (u := U) (U := U.calling g mk a) rfl qK, qD⟩, va_recv hK hPc (ci := 1) (q0 := 0) rfl rfl, fun U hU hW => ⟨rfl, by rw [hU], by rw [hU]; exact hPc, g_K.warm hW hKN, hDc.weaken (fun _ _ _ _ => trivial)⟩⟩ rfl rfl hl.1 rfl (lv_room (Nat.le_of_ble_eq_true rfl)) d_Ref_canBeKept_60 ⟨Nat.le_of_ble_eq_true rfl, Nat.le_of_ble_eq_true rfl⟩) hS (fun q _ h => hFc q h) hFc (fun r_10 u t H1 locs htt hvm hw_11 hBB hzz hkk hS => ?_)
          have hw_11 : r_10 = q_ke uCe uA uB uM uCa uL nc np (64 * jf + i) k := hw_11
          obtain ⟨hPP, hDD⟩ := hBB
          rw [htt] at hPP
          have hPP : va_P (dC, dI) vw_cls [(b0, .inr (1, [.int rc, .ref bS, .ref bC, .int rv, .ref bW, .int rp, .ref bCe, .ref bA, .ref bB, .ref bM, .int rf, .ref bG, .ref bK, .ref bCa, .ref bL, .int rd, .int rg, .int re, .ref bO, .int rl, .int rq, .int rb, .long rz])), (bCe, .inl (cI, 4, .inl uCe)), (bA, .inl (cI, 4, .inl uA)), (bB, .inl (cI, 4, .inl uB)), (bM, .inl (cI, 5, .inl uM)), (bCa, .inl (cI, 2304, .inl uCa)), (bL, .inl (cI, 1280, .inl uL))] H1 := hPP
          have hDD : va_D (va_A [(b0, .inr (1, [.int rc, .ref bS, .ref bC, .int rv, .ref bW, .int rp, .ref bCe, .ref bA, .ref bB, .ref bM, .int rf, .ref bG, .ref bK, .ref bCa, .ref bL, .int rd, .int rg, .int re, .ref bO, .int rl, .int rq, .int rb, .long rz])), (bCe, .inl (cI, 4, .inl uCe)), (bA, .inl (cI, 4, .inl uA)), (bB, .inl (cI, 4, .inl uB)), (bM, .inl (cI, 5, .inl uM)), (bCa, .inl (cI, 2304, .inl uCa)), (bL, .inl (cI, 1280, .inl uL))] H.size) [(b0, .inr (1, [.int rc, .ref bS, .ref bC, .int rv, .ref bW, .int rp, .ref bCe, .ref bA, .ref bB, .ref bM, .int rf, .ref bG, .ref bK, .ref bCa, .ref bL, .int rd, .int rg, .int re, .ref bO, .int rl, .int rq, .int rb, .long rz])), (bCe, .inl (cI, 4, .inl uCe)), (bA, .inl (cI, 4, .inl uA)), (bB, .inl (cI, 4, .inl uB)), (bM, .inl (cI, 5, .inl uM)), (bCa, .inl (cI, 2304, .inl uCa)), (bL, .inl (cI, 1280, .inl uL))] := hDD
          obtain ⟨hP, hD⟩ := va_join (wr := [(bK, .inl (cZ, 256, .inl uK))]) (w1 := [(b0, .inr (1, [.int rc, .ref bS, .ref bC, .int rv, .ref bW, .int rp, .ref bCe, .ref bA, .ref bB, .ref bM, .int rf, .ref bG, .ref bK, .ref bCa, .ref bL, .int rd, .int rg, .int re, .ref bO, .int rl, .int rq, .int rb, .long rz])), (bCe, .inl (cI, 4, .inl uCe)), (bA, .inl (cI, 4, .inl uA)), (bB, .inl (cI, 4, .inl uB)), (bM, .inl (cI, 5, .inl uM)), (bCa, .inl (cI, 2304, .inl uCa)), (bL, .inl (cI, 1280, .inl uL))]) hP hD [0, 1, 2, 3, 4, 6, 7] [5] rfl rfl (by decide) (by decide) hkk hFc hPP hDD
          generalize H1 = H at hP hS ⊢
          have hP : va_P (dC, dI) vw_cls [(bK, .inl (cZ, 256, .inl uK)), (b0, .inr (1, [.int rc, .ref bS, .ref bC, .int rv, .ref bW, .int rp, .ref bCe, .ref bA, .ref bB, .ref bM, .int rf, .ref bG, .ref bK, .ref bCa, .ref bL, .int rd, .int rg, .int re, .ref bO, .int rl, .int rq, .int rb, .long rz])), (bCe, .inl (cI, 4, .inl uCe)), (bA, .inl (cI, 4, .inl uA)), (bB, .inl (cI, 4, .inl uB)), (bM, .inl (cI, 5, .inl uM)), (bCa, .inl (cI, 2304, .inl uCa)), (bL, .inl (cI, 1280, .inl uL))] H := hP
          have hD : va_D A [(bK, .inl (cZ, 256, .inl uK)), (b0, .inr (1, [.int rc, .ref bS, .ref bC, .int rv, .ref bW, .int rp, .ref bCe, .ref bA, .ref bB, .ref bM, .int rf, .ref bG, .ref bK, .ref bCa, .ref bL, .int rd, .int rg, .int re, .ref bO, .int rl, .int rq, .int rb, .long rz])), (bCe, .inl (cI, 4, .inl uCe)), (bA, .inl (cI, 4, .inl uA)), (bB, .inl (cI, 4, .inl uB)), (bM, .inl (cI, 5, .inl uM)), (bCa, .inl (cI, 2304, .inl uCa)), (bL, .inl (cI, 1280, .inl uL))] := hD
          refine lv_if_eq (tgt := 70) hx hb d_Ref_canBeKept_63 (by decide) (fun c_12 => ?_) (fun c_12 => ?_)
          · skip
            have ck : q_ke uCe uA uB uM uCa uL nc np (64 * jf + i) k = 0 := by rw [← hw_11]; exact c_12
            refine lv_iconst (v := 0) hx hb d_Ref_canBeKept_70 (by decide) ?_
            refine lv_istore_n (lv' := [(3, .int 0), (0, .ref b0), (1, .int s1), (2, .int xi), (4, .int xk)]) hx hb d_Ref_canBeKept_71 rfl hl (by decide) rfl (fun ls hl => ?_)
            obtain ⟨v_13, ev_13⟩ : ∃ y : Int32, y = xk + 1 := ⟨_, rfl⟩
            refine lv_iinc (v := v_13) (lv' := [(4, .int v_13), (3, .int 0), (0, .ref b0), (1, .int s1), (2, .int xi)]) hx hb d_Ref_canBeKept_72 hl (k := 4) rfl (by rw [ev_13]; rfl) (by decide) rfl (fun ls hl => ?_)
            refine lv_goto (tgt := 28) hx hb d_Ref_canBeKept_75 (by decide) ?_
            exact ih (k + 1) v_13 0 hltk (by rw [ev_13, exk]; exact nI_1 k) (by first | (rw [q_ca, if_pos cs]; done) | (rw [q_ca, if_neg cs, if_pos cb]; done) | (rw [q_ca, if_neg cs, if_neg cb, if_pos ck]; done) | (rw [q_ca, if_neg cs, if_neg cb, if_neg ck]; done)) (by omega) H locs (hP.sub [1, 2, 3, 4, 5, 0, 6, 7] rfl) (hD.sub [1, 2, 3, 4, 5, 0, 6, 7] (by decide) rfl) hS ls (lv_sub hl [2, 3, 4, 1, 0] rfl)
          · skip
            have ck : ¬ q_ke uCe uA uB uM uCa uL nc np (64 * jf + i) k = 0 := by rw [← hw_11]; exact c_12
            refine lv_iconst (v := 1) hx hb d_Ref_canBeKept_66 (by decide) ?_
            refine lv_goto (tgt := 71) hx hb d_Ref_canBeKept_67 (by decide) ?_
            refine lv_istore_n (lv' := [(3, .int 1), (0, .ref b0), (1, .int s1), (2, .int xi), (4, .int xk)]) hx hb d_Ref_canBeKept_71 rfl hl (by decide) rfl (fun ls hl => ?_)
            obtain ⟨v_14, ev_14⟩ : ∃ y : Int32, y = xk + 1 := ⟨_, rfl⟩
            refine lv_iinc (v := v_14) (lv' := [(4, .int v_14), (3, .int 1), (0, .ref b0), (1, .int s1), (2, .int xi)]) hx hb d_Ref_canBeKept_72 hl (k := 4) rfl (by rw [ev_14]; rfl) (by decide) rfl (fun ls hl => ?_)
            refine lv_goto (tgt := 28) hx hb d_Ref_canBeKept_75 (by decide) ?_
            exact ih (k + 1) v_14 1 hltk (by rw [ev_14, exk]; exact nI_1 k) (by first | (rw [q_ca, if_pos cs]; done) | (rw [q_ca, if_neg cs, if_pos cb]; done) | (rw [q_ca, if_neg cs, if_neg cb, if_pos ck]; done) | (rw [q_ca, if_neg cs, if_neg cb, if_neg ck]; done)) (by omega) H locs (hP.sub [1, 2, 3, 4, 5, 0, 6, 7] rfl) (hD.sub [1, 2, 3, 4, 5, 0, 6, 7] (by decide) rfl) hS ls (lv_sub hl [2, 3, 4, 1, 0] rfl)
set_option maxHeartbeats 4000000 in
set_option maxRecDepth 100000 in
theorem L_cbo {p : Program} {l : Launch} {e : Env} {s : State} {m : MethodId} {args : Array Value} {below : List Frame} {meth : Method} {c : Code} {Q : State → Prop} {A : Nat → Prop} (hx : p.tables.exec = Jvm.exec) (hb : c.code = b_Ref_canBeKept) (hml : c.maxLocals = 5) (hown : s.vm.findClass R_Ref = some m.cls) (hts : ∀ w ∈ lw_g, w.before args s = true) (hA : ∀ q, s.heap.size ≤ q → A q) {dC : Nat → ClassId} {dI : Nat → Nat → Nat} (cI : ClassId) (cZ : ClassId) (cQ : ClassId) (b0 : Nat) (rc : Int32) (bS : Nat) (bC : Nat) (rv : Int32) (bW : Nat) (rp : Int32) (bCe : Nat) (bA : Nat) (bB : Nat) (bM : Nat) (rf : Int32) (bG : Nat) (bK : Nat) (bCa : Nat) (bL : Nat) (rd : Int32) (rg : Int32) (re : Int32) (bO : Nat) (rl : Int32) (rq : Int32) (rb : Int32) (rz : Int64) (uCe : Nat → Int32) (uA : Nat → Int32) (uB : Nat → Int32) (uM : Nat → Int32) (uK : Nat → Int32) (uCa : Nat → Int32) (uL : Nat → Int32) (s1 : Int32) (nc : Nat) (nv : Nat) (np : Nat) (jf : Nat)  (hrc : rc = nI nc) (hnc : nc ≤ 5) (hrv : rv = nI nv) (hnv : nv ≤ 64) (hrp : rp = nI np) (hnp : np ≤ 4) (hrd : rd = nI jf) (hjf : jf < 4) (hCe : q_okCe uCe np)  (hKN : g_K dC dI [(cI, .int), (cZ, .boolean), (cQ, (.object "SettingSearch$Answers"))] s)
    (kx_90 : ∀ (i : Nat) (xi : Int32) (_ : i ≤ nv) (_ : xi = nI i) (_ : false = q_cb (fun v => q_ca s1 (uK (64 * jf + v)) (fun k => q_ke uCe uA uB uM uCa uL nc np (64 * jf + v) k) 9) i) (_ : i = nv) (H : Heap) (locs : List Loc), va_P (dC, dI) vw_cls [(b0, .inr (1, [.int rc, .ref bS, .ref bC, .int rv, .ref bW, .int rp, .ref bCe, .ref bA, .ref bB, .ref bM, .int rf, .ref bG, .ref bK, .ref bCa, .ref bL, .int rd, .int rg, .int re, .ref bO, .int rl, .int rq, .int rb, .long rz])), (bCe, .inl (cI, 4, .inl uCe)), (bA, .inl (cI, 4, .inl uA)), (bB, .inl (cI, 4, .inl uB)), (bM, .inl (cI, 5, .inl uM)), (bK, .inl (cZ, 256, .inl uK)), (bCa, .inl (cI, 2304, .inl uCa)), (bL, .inl (cI, 1280, .inl uL))] H → va_D A [(b0, .inr (1, [.int rc, .ref bS, .ref bC, .int rv, .ref bW, .int rp, .ref bCe, .ref bA, .ref bB, .ref bM, .int rf, .ref bG, .ref bK, .ref bCa, .ref bL, .int rd, .int rg, .int re, .ref bO, .int rl, .int rq, .int rb, .long rz])), (bCe, .inl (cI, 4, .inl uCe)), (bA, .inl (cI, 4, .inl uA)), (bB, .inl (cI, 4, .inl uB)), (bM, .inl (cI, 5, .inl uM)), (bK, .inl (cZ, 256, .inl uK)), (bCa, .inl (cI, 2304, .inl uCa)), (bL, .inl (cI, 1280, .inl uL))] → va_S A s.heap H locs → ∀ (ls : Array Slot), lv_has ls 5 [(0, .ref b0), (1, .int s1), (2, .int xi)] → W p l e ({ frames := 1, cells := 0, slots := 0, locals := 26 } : Room) s m args below meth c H locs 0 0 Q (F0 m 90 ls []))
    (kx_82 : ∀ (i : Nat) (_ : q_cb (fun v => q_ca s1 (uK (64 * jf + v)) (fun k => q_ke uCe uA uB uM uCa uL nc np (64 * jf + v) k) 9) nv = true) (H : Heap) (locs : List Loc), va_P (dC, dI) vw_cls [(b0, .inr (1, [.int rc, .ref bS, .ref bC, .int rv, .ref bW, .int rp, .ref bCe, .ref bA, .ref bB, .ref bM, .int rf, .ref bG, .ref bK, .ref bCa, .ref bL, .int rd, .int rg, .int re, .ref bO, .int rl, .int rq, .int rb, .long rz])), (bCe, .inl (cI, 4, .inl uCe)), (bA, .inl (cI, 4, .inl uA)), (bB, .inl (cI, 4, .inl uB)), (bM, .inl (cI, 5, .inl uM)), (bK, .inl (cZ, 256, .inl uK)), (bCa, .inl (cI, 2304, .inl uCa)), (bL, .inl (cI, 1280, .inl uL))] H → va_D A [(b0, .inr (1, [.int rc, .ref bS, .ref bC, .int rv, .ref bW, .int rp, .ref bCe, .ref bA, .ref bB, .ref bM, .int rf, .ref bG, .ref bK, .ref bCa, .ref bL, .int rd, .int rg, .int re, .ref bO, .int rl, .int rq, .int rb, .long rz])), (bCe, .inl (cI, 4, .inl uCe)), (bA, .inl (cI, 4, .inl uA)), (bB, .inl (cI, 4, .inl uB)), (bM, .inl (cI, 5, .inl uM)), (bK, .inl (cZ, 256, .inl uK)), (bCa, .inl (cI, 2304, .inl uCa)), (bL, .inl (cI, 1280, .inl uL))] → va_S A s.heap H locs → ∀ (ls : Array Slot), lv_has ls 5 [(0, .ref b0)] → W p l e ({ frames := 1, cells := 0, slots := 0, locals := 26 } : Room) s m args below meth c H locs 0 0 Q (F0 m 82 ls [])) :
    ∀ (n : Nat) (i : Nat) (xi : Int32) (_ : i ≤ nv) (_ : xi = nI i) (_ : false = q_cb (fun v => q_ca s1 (uK (64 * jf + v)) (fun k => q_ke uCe uA uB uM uCa uL nc np (64 * jf + v) k) 9) i) (_ : nv - i < n) (H : Heap) (locs : List Loc), va_P (dC, dI) vw_cls [(b0, .inr (1, [.int rc, .ref bS, .ref bC, .int rv, .ref bW, .int rp, .ref bCe, .ref bA, .ref bB, .ref bM, .int rf, .ref bG, .ref bK, .ref bCa, .ref bL, .int rd, .int rg, .int re, .ref bO, .int rl, .int rq, .int rb, .long rz])), (bCe, .inl (cI, 4, .inl uCe)), (bA, .inl (cI, 4, .inl uA)), (bB, .inl (cI, 4, .inl uB)), (bM, .inl (cI, 5, .inl uM)), (bK, .inl (cZ, 256, .inl uK)), (bCa, .inl (cI, 2304, .inl uCa)), (bL, .inl (cI, 1280, .inl uL))] H → va_D A [(b0, .inr (1, [.int rc, .ref bS, .ref bC, .int rv, .ref bW, .int rp, .ref bCe, .ref bA, .ref bB, .ref bM, .int rf, .ref bG, .ref bK, .ref bCa, .ref bL, .int rd, .int rg, .int re, .ref bO, .int rl, .int rq, .int rb, .long rz])), (bCe, .inl (cI, 4, .inl uCe)), (bA, .inl (cI, 4, .inl uA)), (bB, .inl (cI, 4, .inl uB)), (bM, .inl (cI, 5, .inl uM)), (bK, .inl (cZ, 256, .inl uK)), (bCa, .inl (cI, 2304, .inl uCa)), (bL, .inl (cI, 1280, .inl uL))] → va_S A s.heap H locs → ∀ (ls : Array Slot), lv_has ls 5 [(0, .ref b0), (1, .int s1), (2, .int xi)] → W p l e ({ frames := 1, cells := 0, slots := 0, locals := 26 } : Room) s m args below meth c H locs 0 0 Q (F0 m 2 ls []) := by
  obtain ⟨hK, hN⟩ := id hKN
  intro n
  induction n with
  | zero =>
    intro i xi hi exi eacc hm
    exact absurd hm (Nat.not_lt_zero _)
  | succ n ih =>
    intro i xi hi exi eacc hm H locs hP hD hS ls hl
    refine lv_iload_n hx hb d_Ref_canBeKept_2 rfl (lv_at hl 2 rfl) ?_
    refine lv_aload_n hx hb d_Ref_canBeKept_3 rfl (lv_at hl 0 rfl) ?_
    refine va_get (D := (dC, dI)) (ci := 1) (v := .int rv) (C := R_Ref) (T := T_Ref) (N := 23) hx hb hts in_Ref hown hK hP 0 rfl rfl 3 (by decide) (hts _ tw_432) (fun _ h9 => h9) rfl d_Ref_canBeKept_4 ?_
    refine lv_icmp_ge (tgt := 90) hx hb d_Ref_canBeKept_7 (by decide) (fun c_1 => ?_) (fun c_1 => ?_)
    · skip
      have hendi := lp_ge (N := nv) c_1 exi hrv hi (by omega)
      exact kx_90 i xi hi exi eacc hendi H locs (hP.sub [0, 1, 2, 3, 4, 5, 6, 7] rfl) (hD.sub [0, 1, 2, 3, 4, 5, 6, 7] (by decide) rfl) hS ls (lv_sub hl [0, 1, 2] rfl)
    · skip
      have hlti := lp_lt (N := nv) c_1 exi hrv (by omega)
      refine lv_aload_n hx hb d_Ref_canBeKept_10 rfl (lv_at hl 0 rfl) ?_
      refine va_get (D := (dC, dI)) (ci := 1) (v := .ref bK) (C := R_Ref) (T := T_Ref) (N := 23) hx hb hts in_Ref hown hK hP 0 rfl rfl 12 (by decide) (hts _ tw_441) (fun _ h9 => h9) rfl d_Ref_canBeKept_11 ?_
      refine lv_bipush (v := 64) hx hb d_Ref_canBeKept_14 (by decide) ?_
      refine lv_aload_n hx hb d_Ref_canBeKept_16 rfl (lv_at hl 0 rfl) ?_
      refine va_get (D := (dC, dI)) (ci := 1) (v := .int rd) (C := R_Ref) (T := T_Ref) (N := 23) hx hb hts in_Ref hown hK hP 0 rfl rfl 15 (by decide) (hts _ tw_444) (fun _ h9 => h9) rfl d_Ref_canBeKept_17 ?_
      refine lv_imul hx hb d_Ref_canBeKept_20 ?_
      refine lv_topi (fun v_2 ev_2 => ?_)
      refine lv_iload_n hx hb d_Ref_canBeKept_21 rfl (lv_at hl 2 rfl) ?_
      refine lv_iadd hx hb d_Ref_canBeKept_22 ?_
      refine lv_topi (fun v_3 ev_3 => ?_)
      have eh_4 : v_3 = nI (64 * jf + i) := by simp only [ev_2, ev_3]; rw [hrd, exi, ix_64]
      have bh_4 : 64 * jf + i < 256 := by omega
      have h_4 : vp_in v_3 256 := by rw [eh_4]; exact vp_in_nI bh_4 (by decide)
      have kh_4 : v_3.toNatClampNeg = 64 * jf + i := by rw [eh_4]; exact nI_clamp (by omega)
      refine va_zald hx hb hK hP 5 1 rfl rfl h_4 d_Ref_canBeKept_23 ?_
      rw [kh_4]
      refine lv_topi (fun v_5 ev_5 => ?_)
      refine lv_istore_n (lv' := [(3, .int v_5), (0, .ref b0), (1, .int s1), (2, .int xi)]) hx hb d_Ref_canBeKept_24 rfl hl (by decide) rfl (fun ls hl => ?_)
      refine lv_iconst (v := 0) hx hb d_Ref_canBeKept_25 (by decide) ?_
      refine lv_istore (lv' := [(4, .int 0), (3, .int v_5), (0, .ref b0), (1, .int s1), (2, .int xi)]) hx hb d_Ref_canBeKept_26 hl (by decide) rfl (fun ls hl => ?_)
      refine L_cbi hx hb hml hown hts hA cI cZ cQ b0 rc bS bC rv bW rp bCe bA bB bM rf bG bK bCa bL rd rg re bO rl rq rb rz uCe uA uB uM uK uCa uL s1 nc nv np jf i xi hrc hnc hrv hnv hrp hnp hrd hjf hCe exi hlti hKN ?_ (9 - 0 + 1) 0 0 v_5 (Nat.zero_le _) rfl ev_5 (Nat.lt_succ_self _) H locs (hP.sub [0, 1, 2, 3, 4, 5, 6, 7] rfl) (hD.sub [0, 1, 2, 3, 4, 5, 6, 7] (by decide) rfl) hS ls (lv_sub hl [2, 3, 4, 1, 0] rfl)
      intro k xk al hk exk ea hendk H locs hP hD hS ls hl
      have hl : lv_has ls 5 [(0, .ref b0), (1, .int s1), (2, .int xi), (3, .int al), (4, .int xk)] := hl
      have hP : va_P (dC, dI) vw_cls [(b0, .inr (1, [.int rc, .ref bS, .ref bC, .int rv, .ref bW, .int rp, .ref bCe, .ref bA, .ref bB, .ref bM, .int rf, .ref bG, .ref bK, .ref bCa, .ref bL, .int rd, .int rg, .int re, .ref bO, .int rl, .int rq, .int rb, .long rz])), (bCe, .inl (cI, 4, .inl uCe)), (bA, .inl (cI, 4, .inl uA)), (bB, .inl (cI, 4, .inl uB)), (bM, .inl (cI, 5, .inl uM)), (bK, .inl (cZ, 256, .inl uK)), (bCa, .inl (cI, 2304, .inl uCa)), (bL, .inl (cI, 1280, .inl uL))] H := hP
      have hD : va_D A [(b0, .inr (1, [.int rc, .ref bS, .ref bC, .int rv, .ref bW, .int rp, .ref bCe, .ref bA, .ref bB, .ref bM, .int rf, .ref bG, .ref bK, .ref bCa, .ref bL, .int rd, .int rg, .int re, .ref bO, .int rl, .int rq, .int rb, .long rz])), (bCe, .inl (cI, 4, .inl uCe)), (bA, .inl (cI, 4, .inl uA)), (bB, .inl (cI, 4, .inl uB)), (bM, .inl (cI, 5, .inl uM)), (bK, .inl (cZ, 256, .inl uK)), (bCa, .inl (cI, 2304, .inl uCa)), (bL, .inl (cI, 1280, .inl uL))] := hD
      refine lv_iload_n hx hb d_Ref_canBeKept_78 rfl (lv_at hl 3 rfl) ?_
      refine lv_if_eq (tgt := 84) hx hb d_Ref_canBeKept_79 (by decide) (fun c_6 => ?_) (fun c_6 => ?_)
      · skip
        have cz : q_ca s1 (uK (64 * jf + i)) (fun k => q_ke uCe uA uB uM uCa uL nc np (64 * jf + i) k) 9 = 0 := by rw [← hendk, ← ea]; exact c_6
        obtain ⟨v_7, ev_7⟩ : ∃ y : Int32, y = xi + 1 := ⟨_, rfl⟩
        refine lv_iinc (v := v_7) (lv' := [(2, .int v_7), (0, .ref b0), (1, .int s1), (3, .int al), (4, .int xk)]) hx hb d_Ref_canBeKept_84 hl (k := 2) rfl (by rw [ev_7]; rfl) (by decide) rfl (fun ls hl => ?_)
        refine lv_goto (tgt := 2) hx hb d_Ref_canBeKept_87 (by decide) ?_
        exact ih (i + 1) v_7 hlti (by rw [ev_7, exi]; exact nI_1 i) (by rw [q_cb, ← eacc]; simp [cz]) (by omega) H locs (hP.sub [0, 1, 2, 3, 4, 5, 6, 7] rfl) (hD.sub [0, 1, 2, 3, 4, 5, 6, 7] (by decide) rfl) hS ls (lv_sub hl [1, 2, 0] rfl)
      · skip
        have cz : ¬ q_ca s1 (uK (64 * jf + i)) (fun k => q_ke uCe uA uB uM uCa uL nc np (64 * jf + i) k) 9 = 0 := by rw [← hendk, ← ea]; exact c_6
        exact kx_82 i (q_cb_t (p := fun v => q_ca s1 (uK (64 * jf + v)) (fun k => q_ke uCe uA uB uM uCa uL nc np (64 * jf + v) k) 9) (i := i) cz nv hlti) H locs (hP.sub [0, 1, 2, 3, 4, 5, 6, 7] rfl) (hD.sub [0, 1, 2, 3, 4, 5, 6, 7] (by decide) rfl) hS ls (lv_sub hl [0] rfl)
set_option maxHeartbeats 4000000 in
set_option maxRecDepth 100000 in
/-- the reference: canBeKept -/
theorem m_cb (l : Launch) (dC : Nat → ClassId) (dI : Nat → Nat → Nat) (sz : Nat) (cI : ClassId) (cZ : ClassId) (cQ : ClassId) (b0 : Nat) (rc : Int32) (bS : Nat) (bC : Nat) (rv : Int32) (bW : Nat) (rp : Int32) (bCe : Nat) (bA : Nat) (bB : Nat) (bM : Nat) (rf : Int32) (bG : Nat) (bK : Nat) (bCa : Nat) (bL : Nat) (rd : Int32) (rg : Int32) (re : Int32) (bO : Nat) (rl : Int32) (rq : Int32) (rb : Int32) (rz : Int64) (uCe : Nat → Int32) (uA : Nat → Int32) (uB : Nat → Int32) (uM : Nat → Int32) (uK : Nat → Int32) (uCa : Nat → Int32) (uL : Nat → Int32) (s1 : Int32) (nc : Nat) (nv : Nat) (np : Nat) (jf : Nat) (hrc : rc = nI nc) (hnc : nc ≤ 5) (hrv : rv = nI nv) (hnv : nv ≤ 64) (hrp : rp = nI np) (hnp : np ≤ 4) (hrd : rd = nI jf) (hjf : jf < 4) (hCe : q_okCe uCe np) : Met l y_Ref_canBeKept w_Ref_canBeKept ({ frames := 1, cells := 0, slots := 0, locals := 26 } : Room) (va_Pc [.ref b0, .int s1] (fun U => U.heap.size = sz ∧ va_P (dC, dI) vw_cls [(b0, .inr (1, [.int rc, .ref bS, .ref bC, .int rv, .ref bW, .int rp, .ref bCe, .ref bA, .ref bB, .ref bM, .int rf, .ref bG, .ref bK, .ref bCa, .ref bL, .int rd, .int rg, .int re, .ref bO, .int rl, .int rq, .int rb, .long rz])), (bCe, .inl (cI, 4, .inl uCe)), (bA, .inl (cI, 4, .inl uA)), (bB, .inl (cI, 4, .inl uB)), (bM, .inl (cI, 5, .inl uM)), (bK, .inl (cZ, 256, .inl uK)), (bCa, .inl (cI, 2304, .inl uCa)), (bL, .inl (cI, 1280, .inl uL))] U.heap ∧ g_K dC dI [(cI, .int), (cZ, .boolean), (cQ, (.object "SettingSearch$Answers"))] U ∧ va_D (fun _ => True) [(b0, .inr (1, [.int rc, .ref bS, .ref bC, .int rv, .ref bW, .int rp, .ref bCe, .ref bA, .ref bB, .ref bM, .int rf, .ref bG, .ref bK, .ref bCa, .ref bL, .int rd, .int rg, .int re, .ref bO, .int rl, .int rq, .int rb, .long rz])), (bCe, .inl (cI, 4, .inl uCe)), (bA, .inl (cI, 4, .inl uA)), (bB, .inl (cI, 4, .inl uB)), (bM, .inl (cI, 5, .inl uM)), (bK, .inl (cZ, 256, .inl uK)), (bCa, .inl (cI, 2304, .inl uCa)), (bL, .inl (cI, 1280, .inl uL))])) (va_Qi (fun (r : Int32) (u : Unit) => r = if q_cb (fun v => q_ca s1 (uK (64 * jf + v)) (fun k => q_ke uCe uA uB uM uCa uL nc np (64 * jf + v) k) 9) nv = true then 1 else 0) (fun (u : Unit) (t : State) => va_P (dC, dI) vw_cls [(b0, .inr (1, [.int rc, .ref bS, .ref bC, .int rv, .ref bW, .int rp, .ref bCe, .ref bA, .ref bB, .ref bM, .int rf, .ref bG, .ref bK, .ref bCa, .ref bL, .int rd, .int rg, .int re, .ref bO, .int rl, .int rq, .int rb, .long rz])), (bCe, .inl (cI, 4, .inl uCe)), (bA, .inl (cI, 4, .inl uA)), (bB, .inl (cI, 4, .inl uB)), (bM, .inl (cI, 5, .inl uM)), (bK, .inl (cZ, 256, .inl uK)), (bCa, .inl (cI, 2304, .inl uCa)), (bL, .inl (cI, 1280, .inl uL))] t.heap ∧ va_D (va_A [(b0, .inr (1, [.int rc, .ref bS, .ref bC, .int rv, .ref bW, .int rp, .ref bCe, .ref bA, .ref bB, .ref bM, .int rf, .ref bG, .ref bK, .ref bCa, .ref bL, .int rd, .int rg, .int re, .ref bO, .int rl, .int rq, .int rb, .long rz])), (bCe, .inl (cI, 4, .inl uCe)), (bA, .inl (cI, 4, .inl uA)), (bB, .inl (cI, 4, .inl uB)), (bM, .inl (cI, 5, .inl uM)), (bK, .inl (cZ, 256, .inl uK)), (bCa, .inl (cI, 2304, .inl uCa)), (bL, .inl (cI, 1280, .inl uL))] sz) [(b0, .inr (1, [.int rc, .ref bS, .ref bC, .int rv, .ref bW, .int rp, .ref bCe, .ref bA, .ref bB, .ref bM, .int rf, .ref bG, .ref bK, .ref bCa, .ref bL, .int rd, .int rg, .int re, .ref bO, .int rl, .int rq, .int rb, .long rz])), (bCe, .inl (cI, 4, .inl uCe)), (bA, .inl (cI, 4, .inl uA)), (bB, .inl (cI, 4, .inl uB)), (bM, .inl (cI, 5, .inl uM)), (bK, .inl (cZ, 256, .inl uK)), (bCa, .inl (cI, 2304, .inl uCa)), (bL, .inl (cI, 1280, .inl uL))]) (va_A [(b0, .inr (1, [.int rc, .ref bS, .ref bC, .int rv, .ref bW, .int rp, .ref bCe, .ref bA, .ref bB, .ref bM, .int rf, .ref bG, .ref bK, .ref bCa, .ref bL, .int rd, .int rg, .int re, .ref bO, .int rl, .int rq, .int rb, .long rz])), (bCe, .inl (cI, 4, .inl uCe)), (bA, .inl (cI, 4, .inl uA)), (bB, .inl (cI, 4, .inl uB)), (bM, .inl (cI, 5, .inl uM)), (bK, .inl (cZ, 256, .inl uK)), (bCa, .inl (cI, 2304, .inl uCa)), (bL, .inl (cI, 1280, .inl uL))] sz)) 0 0 (va_A [(b0, .inr (1, [.int rc, .ref bS, .ref bC, .int rv, .ref bW, .int rp, .ref bCe, .ref bA, .ref bB, .ref bM, .int rf, .ref bG, .ref bK, .ref bCa, .ref bL, .int rd, .int rg, .int re, .ref bO, .int rl, .int rq, .int rb, .long rz])), (bCe, .inl (cI, 4, .inl uCe)), (bA, .inl (cI, 4, .inl uA)), (bB, .inl (cI, 4, .inl uB)), (bM, .inl (cI, 5, .inl uM)), (bK, .inl (cZ, 256, .inl uK)), (bCa, .inl (cI, 2304, .inl uCa)), (bL, .inl (cI, 1280, .inl uL))] sz) := by
  refine Met.ofW (cc := b_Ref_canBeKept) (maxL := 5) (ret := (some .boolean)) (by decide) rfl ?_
  intro p e s m args below meth c s₁ B hml hv
  obtain ⟨rfl, hsz, hP, hKN, hD0⟩ := hv
  obtain ⟨hK, hN⟩ := id hKN
  have hx := B.exec
  have hb := B.bytes
  have hr := B.returns
  have hts0 := atoms_spec (ws := w_Ref_canBeKept) B.pre
  have hts : ∀ w ∈ lw_g, w.before _ s = true := fun w h => hts0 w (List.mem_cons_of_mem _ h)
  have hown : s.vm.findClass R_Ref = some m.cls := findClass_of_methodNamed B.named
  have hlocks := B.notSynchronized
  subst hsz
  have hD := hD0.self (sz := s.heap.size)
  generalize hAe : va_A [(b0, .inr (1, [.int rc, .ref bS, .ref bC, .int rv, .ref bW, .int rp, .ref bCe, .ref bA, .ref bB, .ref bM, .int rf, .ref bG, .ref bK, .ref bCa, .ref bL, .int rd, .int rg, .int re, .ref bO, .int rl, .int rq, .int rb, .long rz])), (bCe, .inl (cI, 4, .inl uCe)), (bA, .inl (cI, 4, .inl uA)), (bB, .inl (cI, 4, .inl uB)), (bM, .inl (cI, 5, .inl uM)), (bK, .inl (cZ, 256, .inl uK)), (bCa, .inl (cI, 2304, .inl uCa)), (bL, .inl (cI, 1280, .inl uL))] s.heap.size = A at hD ⊢
  have hA : ∀ q : Nat, s.heap.size ≤ q → A q := fun q h => by rw [← hAe]; exact Or.inr h
  have hP : va_P (dC, dI) vw_cls [(b0, .inr (1, [.int rc, .ref bS, .ref bC, .int rv, .ref bW, .int rp, .ref bCe, .ref bA, .ref bB, .ref bM, .int rf, .ref bG, .ref bK, .ref bCa, .ref bL, .int rd, .int rg, .int re, .ref bO, .int rl, .int rq, .int rb, .long rz])), (bCe, .inl (cI, 4, .inl uCe)), (bA, .inl (cI, 4, .inl uA)), (bB, .inl (cI, 4, .inl uB)), (bM, .inl (cI, 5, .inl uM)), (bK, .inl (cZ, 256, .inl uK)), (bCa, .inl (cI, 2304, .inl uCa)), (bL, .inl (cI, 1280, .inl uL))] s.heap := hP
  have hl := lv_entry ([.ref b0, .int s1]) (n := 5) (Nat.le_of_ble_eq_true rfl)
  rw [lg_entry_eq]
  generalize (lg_sl ([.ref b0, .int s1]) ++ List.replicate (5 - (lg_sl ([.ref b0, .int s1])).length) Slot.unset).toArray = ls at hl ⊢
  have hl : lv_has ls 5 [(0, .ref b0), (1, .int s1)] := hl
  refine gw_start (fun H locs hH hlocs => ?_)
  rw [← hH] at hP
  have hS : va_S A s.heap H locs := by rw [hH, hlocs]; exact va_S.rf
  refine lv_iconst (v := 0) hx hb d_Ref_canBeKept_0 (by decide) ?_
  refine lv_istore_n (lv' := [(2, .int 0), (0, .ref b0), (1, .int s1)]) hx hb d_Ref_canBeKept_1 rfl hl (by decide) rfl (fun ls hl => ?_)
  refine L_cbo hx hb hml hown hts hA cI cZ cQ b0 rc bS bC rv bW rp bCe bA bB bM rf bG bK bCa bL rd rg re bO rl rq rb rz uCe uA uB uM uK uCa uL s1 nc nv np jf hrc hnc hrv hnv hrp hnp hrd hjf hCe hKN ?_ ?_ (nv - 0 + 1) 0 0 (Nat.zero_le _) rfl rfl (Nat.lt_succ_self _) H locs (hP.sub [0, 1, 2, 3, 4, 5, 6, 7] rfl) (hD.sub [0, 1, 2, 3, 4, 5, 6, 7] (by decide) rfl) hS ls (lv_sub hl [1, 2, 0] rfl)
  · skip
    intro i xi hi exi eacc hendi H locs hP hD hS ls hl
    have hl : lv_has ls 5 [(0, .ref b0), (1, .int s1), (2, .int xi)] := hl
    have hP : va_P (dC, dI) vw_cls [(b0, .inr (1, [.int rc, .ref bS, .ref bC, .int rv, .ref bW, .int rp, .ref bCe, .ref bA, .ref bB, .ref bM, .int rf, .ref bG, .ref bK, .ref bCa, .ref bL, .int rd, .int rg, .int re, .ref bO, .int rl, .int rq, .int rb, .long rz])), (bCe, .inl (cI, 4, .inl uCe)), (bA, .inl (cI, 4, .inl uA)), (bB, .inl (cI, 4, .inl uB)), (bM, .inl (cI, 5, .inl uM)), (bK, .inl (cZ, 256, .inl uK)), (bCa, .inl (cI, 2304, .inl uCa)), (bL, .inl (cI, 1280, .inl uL))] H := hP
    have hD : va_D A [(b0, .inr (1, [.int rc, .ref bS, .ref bC, .int rv, .ref bW, .int rp, .ref bCe, .ref bA, .ref bB, .ref bM, .int rf, .ref bG, .ref bK, .ref bCa, .ref bL, .int rd, .int rg, .int re, .ref bO, .int rl, .int rq, .int rb, .long rz])), (bCe, .inl (cI, 4, .inl uCe)), (bA, .inl (cI, 4, .inl uA)), (bB, .inl (cI, 4, .inl uB)), (bM, .inl (cI, 5, .inl uM)), (bK, .inl (cZ, 256, .inl uK)), (bCa, .inl (cI, 2304, .inl uCa)), (bL, .inl (cI, 1280, .inl uL))] := hD
    refine lv_iconst (v := 0) hx hb d_Ref_canBeKept_90 (by decide) ?_
    have hP9 := hP.sub (ws' := [(b0, .inr (1, [.int rc, .ref bS, .ref bC, .int rv, .ref bW, .int rp, .ref bCe, .ref bA, .ref bB, .ref bM, .int rf, .ref bG, .ref bK, .ref bCa, .ref bL, .int rd, .int rg, .int re, .ref bO, .int rl, .int rq, .int rb, .long rz])), (bCe, .inl (cI, 4, .inl uCe)), (bA, .inl (cI, 4, .inl uA)), (bB, .inl (cI, 4, .inl uB)), (bM, .inl (cI, 5, .inl uM)), (bK, .inl (cZ, 256, .inl uK)), (bCa, .inl (cI, 2304, .inl uCa)), (bL, .inl (cI, 1280, .inl uL))]) [0, 1, 2, 3, 4, 5, 6, 7] rfl
    have hD9 := hD.sub (ws' := [(b0, .inr (1, [.int rc, .ref bS, .ref bC, .int rv, .ref bW, .int rp, .ref bCe, .ref bA, .ref bB, .ref bM, .int rf, .ref bG, .ref bK, .ref bCa, .ref bL, .int rd, .int rg, .int re, .ref bO, .int rl, .int rq, .int rb, .long rz])), (bCe, .inl (cI, 4, .inl uCe)), (bA, .inl (cI, 4, .inl uA)), (bB, .inl (cI, 4, .inl uB)), (bM, .inl (cI, 5, .inl uM)), (bK, .inl (cZ, 256, .inl uK)), (bCa, .inl (cI, 2304, .inl uCa)), (bL, .inl (cI, 1280, .inl uL))]) [0, 1, 2, 3, 4, 5, 6, 7] (by decide) rfl
    have hpost_1 : (0 : Int32) = if q_cb (fun v => q_ca s1 (uK (64 * jf + v)) (fun k => q_ke uCe uA uB uM uCa uL nc np (64 * jf + v) k) 9) nv = true then 1 else 0 := by rw [← hendi, ← eacc]; rfl
    exact W.zret (v := 0) hx hb hr (rfl) (fun t ht hW => ⟨⟨0, (), rfl, hpost_1, by rw [ht]; exact hP9, hD9⟩, hS.F ht⟩) hS.2.2 d_Ref_canBeKept_91
  · skip
    intro i hfin H locs hP hD hS ls hl
    have hl : lv_has ls 5 [(0, .ref b0)] := hl
    have hP : va_P (dC, dI) vw_cls [(b0, .inr (1, [.int rc, .ref bS, .ref bC, .int rv, .ref bW, .int rp, .ref bCe, .ref bA, .ref bB, .ref bM, .int rf, .ref bG, .ref bK, .ref bCa, .ref bL, .int rd, .int rg, .int re, .ref bO, .int rl, .int rq, .int rb, .long rz])), (bCe, .inl (cI, 4, .inl uCe)), (bA, .inl (cI, 4, .inl uA)), (bB, .inl (cI, 4, .inl uB)), (bM, .inl (cI, 5, .inl uM)), (bK, .inl (cZ, 256, .inl uK)), (bCa, .inl (cI, 2304, .inl uCa)), (bL, .inl (cI, 1280, .inl uL))] H := hP
    have hD : va_D A [(b0, .inr (1, [.int rc, .ref bS, .ref bC, .int rv, .ref bW, .int rp, .ref bCe, .ref bA, .ref bB, .ref bM, .int rf, .ref bG, .ref bK, .ref bCa, .ref bL, .int rd, .int rg, .int re, .ref bO, .int rl, .int rq, .int rb, .long rz])), (bCe, .inl (cI, 4, .inl uCe)), (bA, .inl (cI, 4, .inl uA)), (bB, .inl (cI, 4, .inl uB)), (bM, .inl (cI, 5, .inl uM)), (bK, .inl (cZ, 256, .inl uK)), (bCa, .inl (cI, 2304, .inl uCa)), (bL, .inl (cI, 1280, .inl uL))] := hD
    refine lv_iconst (v := 1) hx hb d_Ref_canBeKept_82 (by decide) ?_
    have hP9 := hP.sub (ws' := [(b0, .inr (1, [.int rc, .ref bS, .ref bC, .int rv, .ref bW, .int rp, .ref bCe, .ref bA, .ref bB, .ref bM, .int rf, .ref bG, .ref bK, .ref bCa, .ref bL, .int rd, .int rg, .int re, .ref bO, .int rl, .int rq, .int rb, .long rz])), (bCe, .inl (cI, 4, .inl uCe)), (bA, .inl (cI, 4, .inl uA)), (bB, .inl (cI, 4, .inl uB)), (bM, .inl (cI, 5, .inl uM)), (bK, .inl (cZ, 256, .inl uK)), (bCa, .inl (cI, 2304, .inl uCa)), (bL, .inl (cI, 1280, .inl uL))]) [0, 1, 2, 3, 4, 5, 6, 7] rfl
    have hD9 := hD.sub (ws' := [(b0, .inr (1, [.int rc, .ref bS, .ref bC, .int rv, .ref bW, .int rp, .ref bCe, .ref bA, .ref bB, .ref bM, .int rf, .ref bG, .ref bK, .ref bCa, .ref bL, .int rd, .int rg, .int re, .ref bO, .int rl, .int rq, .int rb, .long rz])), (bCe, .inl (cI, 4, .inl uCe)), (bA, .inl (cI, 4, .inl uA)), (bB, .inl (cI, 4, .inl uB)), (bM, .inl (cI, 5, .inl uM)), (bK, .inl (cZ, 256, .inl uK)), (bCa, .inl (cI, 2304, .inl uCa)), (bL, .inl (cI, 1280, .inl uL))]) [0, 1, 2, 3, 4, 5, 6, 7] (by decide) rfl
    have hpost_2 : (1 : Int32) = if q_cb (fun v => q_ca s1 (uK (64 * jf + v)) (fun k => q_ke uCe uA uB uM uCa uL nc np (64 * jf + v) k) 9) nv = true then 1 else 0 := by rw [hfin]; rfl
    exact W.zret (v := 1) hx hb hr (rfl) (fun t ht hW => ⟨⟨1, (), rfl, hpost_2, by rw [ht]; exact hP9, hD9⟩, hS.F ht⟩) hS.2.2 d_Ref_canBeKept_83
set_option maxHeartbeats 4000000 in
set_option maxRecDepth 100000 in
theorem L_sz {p : Program} {l : Launch} {e : Env} {s : State} {m : MethodId} {args : Array Value} {below : List Frame} {meth : Method} {c : Code} {Q : State → Prop} {A : Nat → Prop} (hx : p.tables.exec = Jvm.exec) (hb : c.code = b_Ref_sizeOf) (hml : c.maxLocals = 3) (hown : s.vm.findClass R_Ref = some m.cls) (hts : ∀ w ∈ lw_g, w.before args s = true) (hA : ∀ q, s.heap.size ≤ q → A q) {dC : Nat → ClassId} {dI : Nat → Nat → Nat} (cI : ClassId) (cZ : ClassId) (cQ : ClassId) (s1 : Int32)    (hKN : g_K dC dI [(cI, .int), (cZ, .boolean), (cQ, (.object "SettingSearch$Answers"))] s)
    (kx_24 : ∀ (i : Nat) (xi : Int32) (acc : Int32) (_ : i ≤ 9) (_ : xi = nI i) (_ : acc = q_sz s1 i) (_ : i = 9) (H : Heap) (locs : List Loc), va_P (dC, dI) vw_cls [] H → va_D A [] → va_S A s.heap H locs → ∀ (ls : Array Slot), lv_has ls 3 [(0, .int s1), (1, .int acc), (2, .int xi)] → W p l e ({ frames := 0, cells := 0, slots := 0, locals := 0 } : Room) s m args below meth c H locs 0 0 Q (F0 m 24 ls [])) :
    ∀ (n : Nat) (i : Nat) (xi : Int32) (acc : Int32) (_ : i ≤ 9) (_ : xi = nI i) (_ : acc = q_sz s1 i) (_ : 9 - i < n) (H : Heap) (locs : List Loc), va_P (dC, dI) vw_cls [] H → va_D A [] → va_S A s.heap H locs → ∀ (ls : Array Slot), lv_has ls 3 [(0, .int s1), (1, .int acc), (2, .int xi)] → W p l e ({ frames := 0, cells := 0, slots := 0, locals := 0 } : Room) s m args below meth c H locs 0 0 Q (F0 m 4 ls []) := by
  obtain ⟨hK, hN⟩ := id hKN
  intro n
  induction n with
  | zero =>
    intro i xi acc hi exi eacc hm
    exact absurd hm (Nat.not_lt_zero _)
  | succ n ih =>
    intro i xi acc hi exi eacc hm H locs hP hD hS ls hl
    refine lv_iload_n hx hb d_Ref_sizeOf_4 rfl (lv_at hl 2 rfl) ?_
    refine lv_bipush (v := 9) hx hb d_Ref_sizeOf_5 (by decide) ?_
    refine lv_icmp_ge (tgt := 24) hx hb d_Ref_sizeOf_7 (by decide) (fun c_1 => ?_) (fun c_1 => ?_)
    · skip
      have hendi := lp_ge (N := 9) c_1 exi rfl hi (by omega)
      exact kx_24 i xi acc hi exi eacc hendi H locs (hP.sub [] rfl) (hD.sub [] (by decide) rfl) hS ls (lv_sub hl [0, 1, 2] rfl)
    · skip
      have hlti := lp_lt (N := 9) c_1 exi rfl (by omega)
      refine lv_iload_n hx hb d_Ref_sizeOf_10 rfl (lv_at hl 1 rfl) ?_
      refine lv_iload_n hx hb d_Ref_sizeOf_11 rfl (lv_at hl 0 rfl) ?_
      refine lv_iload_n hx hb d_Ref_sizeOf_12 rfl (lv_at hl 2 rfl) ?_
      refine lv_ishr hx hb d_Ref_sizeOf_13 ?_
      refine lv_topi (fun v_2 ev_2 => ?_)
      refine lv_iconst (v := 1) hx hb d_Ref_sizeOf_14 (by decide) ?_
      refine lv_iand hx hb d_Ref_sizeOf_15 ?_
      refine lv_topi (fun v_3 ev_3 => ?_)
      refine lv_iadd hx hb d_Ref_sizeOf_16 ?_
      refine lv_topi (fun v_4 ev_4 => ?_)
      refine lv_istore_n (lv' := [(1, .int v_4), (0, .int s1), (2, .int xi)]) hx hb d_Ref_sizeOf_17 rfl hl (by decide) rfl (fun ls hl => ?_)
      obtain ⟨v_5, ev_5⟩ : ∃ y : Int32, y = xi + 1 := ⟨_, rfl⟩
      refine lv_iinc (v := v_5) (lv' := [(2, .int v_5), (1, .int v_4), (0, .int s1)]) hx hb d_Ref_sizeOf_18 hl (k := 2) rfl (by rw [ev_5]; rfl) (by decide) rfl (fun ls hl => ?_)
      refine lv_goto (tgt := 4) hx hb d_Ref_sizeOf_21 (by decide) ?_
      exact ih (i + 1) v_5 v_4 hlti (by rw [ev_5, exi]; exact nI_1 i) (by simp only [ev_2, ev_3, ev_4, ev_5, eacc, exi]; rfl) (by omega) H locs (hP.sub [] rfl) (hD.sub [] (by decide) rfl) hS ls (lv_sub hl [2, 1, 0] rfl)
set_option maxHeartbeats 4000000 in
set_option maxRecDepth 100000 in
/-- the reference: sizeOf -/
theorem m_sz (l : Launch) (dC : Nat → ClassId) (dI : Nat → Nat → Nat) (sz : Nat) (cI : ClassId) (cZ : ClassId) (cQ : ClassId) (s1 : Int32)  : Met l y_Ref_sizeOf w_Ref_sizeOf ({ frames := 0, cells := 0, slots := 0, locals := 0 } : Room) (va_Pc [.int s1] (fun U => U.heap.size = sz ∧ va_P (dC, dI) vw_cls [] U.heap ∧ g_K dC dI [(cI, .int), (cZ, .boolean), (cQ, (.object "SettingSearch$Answers"))] U ∧ va_D (fun _ => True) [])) (va_Qi (fun (r : Int32) (u : Unit) => r = q_sz s1 9) (fun (u : Unit) (t : State) => va_P (dC, dI) vw_cls [] t.heap ∧ va_D (va_A [] sz) []) (va_A [] sz)) 0 0 (va_A [] sz) := by
  refine Met.ofW (cc := b_Ref_sizeOf) (maxL := 3) (ret := (some .int)) (by decide) rfl ?_
  intro p e s m args below meth c s₁ B hml hv
  obtain ⟨rfl, hsz, hP, hKN, hD0⟩ := hv
  obtain ⟨hK, hN⟩ := id hKN
  have hx := B.exec
  have hb := B.bytes
  have hr := B.returns
  have hts0 := atoms_spec (ws := w_Ref_sizeOf) B.pre
  have hts : ∀ w ∈ lw_g, w.before _ s = true := fun w h => hts0 w (List.mem_cons_of_mem _ h)
  have hown : s.vm.findClass R_Ref = some m.cls := findClass_of_methodNamed B.named
  have hlocks := B.notSynchronized
  subst hsz
  have hD := hD0.self (sz := s.heap.size)
  generalize hAe : va_A [] s.heap.size = A at hD ⊢
  have hA : ∀ q : Nat, s.heap.size ≤ q → A q := fun q h => by rw [← hAe]; exact Or.inr h
  have hP : va_P (dC, dI) vw_cls [] s.heap := hP
  have hl := lv_entry ([.int s1]) (n := 3) (Nat.le_of_ble_eq_true rfl)
  rw [lg_entry_eq]
  generalize (lg_sl ([.int s1]) ++ List.replicate (3 - (lg_sl ([.int s1])).length) Slot.unset).toArray = ls at hl ⊢
  have hl : lv_has ls 3 [(0, .int s1)] := hl
  refine gw_start (fun H locs hH hlocs => ?_)
  rw [← hH] at hP
  have hS : va_S A s.heap H locs := by rw [hH, hlocs]; exact va_S.rf
  refine lv_iconst (v := 0) hx hb d_Ref_sizeOf_0 (by decide) ?_
  refine lv_istore_n (lv' := [(1, .int 0), (0, .int s1)]) hx hb d_Ref_sizeOf_1 rfl hl (by decide) rfl (fun ls hl => ?_)
  refine lv_iconst (v := 0) hx hb d_Ref_sizeOf_2 (by decide) ?_
  refine lv_istore_n (lv' := [(2, .int 0), (1, .int 0), (0, .int s1)]) hx hb d_Ref_sizeOf_3 rfl hl (by decide) rfl (fun ls hl => ?_)
  refine L_sz hx hb hml hown hts hA cI cZ cQ s1 hKN ?_ (9 - 0 + 1) 0 0 0 (Nat.zero_le _) rfl rfl (Nat.lt_succ_self _) H locs (hP.sub [] rfl) (hD.sub [] (by decide) rfl) hS ls (lv_sub hl [2, 1, 0] rfl)
  intro i xi acc hi exi eacc hendi H locs hP hD hS ls hl
  have hl : lv_has ls 3 [(0, .int s1), (1, .int acc), (2, .int xi)] := hl
  have hP : va_P (dC, dI) vw_cls [] H := hP
  have hD : va_D A [] := hD
  refine lv_iload_n hx hb d_Ref_sizeOf_24 rfl (lv_at hl 1 rfl) ?_
  have hP9 := hP.sub (ws' := []) [] rfl
  have hD9 := hD.sub (ws' := []) [] (by decide) rfl
  have hpost_1 : (acc : Int32) = q_sz s1 9 := by rw [eacc, hendi]
  exact W.iret (v := acc) hx hb hr (fun t ht hW => ⟨⟨acc, (), rfl, hpost_1, by rw [ht]; exact hP9, hD9⟩, hS.F ht⟩) hS.2.2 d_Ref_sizeOf_25
set_option maxHeartbeats 4000000 in
set_option maxRecDepth 100000 in
/-- the reference: clash -/
theorem m_clash_n (l : Launch) (dC : Nat → ClassId) (dI : Nat → Nat → Nat) (sz : Nat) (cI : ClassId) (cZ : ClassId) (cQ : ClassId) (b0 : Nat) (rc : Int32) (bS : Nat) (bC : Nat) (rv : Int32) (bW : Nat) (rp : Int32) (bCe : Nat) (bA : Nat) (bB : Nat) (bM : Nat) (rf : Int32) (bG : Nat) (bK : Nat) (bCa : Nat) (bL : Nat) (rd : Int32) (rg : Int32) (re : Int32) (bO : Nat) (rl : Int32) (rq : Int32) (rb : Int32) (rz : Int64) (k1 : Int32) (hre : re = 0) : Met l y_Ref_clash w_Ref_clash ({ frames := 2, cells := 0, slots := 0, locals := 50 } : Room) (va_Pc [.ref b0, .int k1] (fun U => U.heap.size = sz ∧ va_P (dC, dI) vw_cls [(b0, .inr (1, [.int rc, .ref bS, .ref bC, .int rv, .ref bW, .int rp, .ref bCe, .ref bA, .ref bB, .ref bM, .int rf, .ref bG, .ref bK, .ref bCa, .ref bL, .int rd, .int rg, .int re, .ref bO, .int rl, .int rq, .int rb, .long rz]))] U.heap ∧ g_K dC dI [(cI, .int), (cZ, .boolean), (cQ, (.object "SettingSearch$Answers"))] U ∧ va_D (fun _ => True) [(b0, .inr (1, [.int rc, .ref bS, .ref bC, .int rv, .ref bW, .int rp, .ref bCe, .ref bA, .ref bB, .ref bM, .int rf, .ref bG, .ref bK, .ref bCa, .ref bL, .int rd, .int rg, .int re, .ref bO, .int rl, .int rq, .int rb, .long rz]))])) (va_Qi (fun (r : Int32) (u : Unit) => r = -1) (fun (u : Unit) (t : State) => va_P (dC, dI) vw_cls [(b0, .inr (1, [.int rc, .ref bS, .ref bC, .int rv, .ref bW, .int rp, .ref bCe, .ref bA, .ref bB, .ref bM, .int rf, .ref bG, .ref bK, .ref bCa, .ref bL, .int rd, .int rg, .int re, .ref bO, .int rl, .int rq, .int rb, .long rz]))] t.heap ∧ va_D (va_A [(b0, .inr (1, [.int rc, .ref bS, .ref bC, .int rv, .ref bW, .int rp, .ref bCe, .ref bA, .ref bB, .ref bM, .int rf, .ref bG, .ref bK, .ref bCa, .ref bL, .int rd, .int rg, .int re, .ref bO, .int rl, .int rq, .int rb, .long rz]))] sz) [(b0, .inr (1, [.int rc, .ref bS, .ref bC, .int rv, .ref bW, .int rp, .ref bCe, .ref bA, .ref bB, .ref bM, .int rf, .ref bG, .ref bK, .ref bCa, .ref bL, .int rd, .int rg, .int re, .ref bO, .int rl, .int rq, .int rb, .long rz]))]) (va_A [(b0, .inr (1, [.int rc, .ref bS, .ref bC, .int rv, .ref bW, .int rp, .ref bCe, .ref bA, .ref bB, .ref bM, .int rf, .ref bG, .ref bK, .ref bCa, .ref bL, .int rd, .int rg, .int re, .ref bO, .int rl, .int rq, .int rb, .long rz]))] sz)) 0 0 (va_A [(b0, .inr (1, [.int rc, .ref bS, .ref bC, .int rv, .ref bW, .int rp, .ref bCe, .ref bA, .ref bB, .ref bM, .int rf, .ref bG, .ref bK, .ref bCa, .ref bL, .int rd, .int rg, .int re, .ref bO, .int rl, .int rq, .int rb, .long rz]))] sz) := by
  refine Met.ofW (cc := b_Ref_clash) (maxL := 6) (ret := (some .int)) (by decide) rfl ?_
  intro p e s m args below meth c s₁ B hml hv
  obtain ⟨rfl, hsz, hP, hKN, hD0⟩ := hv
  obtain ⟨hK, hN⟩ := id hKN
  have hx := B.exec
  have hb := B.bytes
  have hr := B.returns
  have hts0 := atoms_spec (ws := w_Ref_clash) B.pre
  have hts : ∀ w ∈ lw_g, w.before _ s = true := fun w h => hts0 w (List.mem_cons_of_mem _ h)
  have hown : s.vm.findClass R_Ref = some m.cls := findClass_of_methodNamed B.named
  have hlocks := B.notSynchronized
  subst hsz
  have hD := hD0.self (sz := s.heap.size)
  generalize hAe : va_A [(b0, .inr (1, [.int rc, .ref bS, .ref bC, .int rv, .ref bW, .int rp, .ref bCe, .ref bA, .ref bB, .ref bM, .int rf, .ref bG, .ref bK, .ref bCa, .ref bL, .int rd, .int rg, .int re, .ref bO, .int rl, .int rq, .int rb, .long rz]))] s.heap.size = A at hD ⊢
  have hA : ∀ q : Nat, s.heap.size ≤ q → A q := fun q h => by rw [← hAe]; exact Or.inr h
  have hP : va_P (dC, dI) vw_cls [(b0, .inr (1, [.int rc, .ref bS, .ref bC, .int rv, .ref bW, .int rp, .ref bCe, .ref bA, .ref bB, .ref bM, .int rf, .ref bG, .ref bK, .ref bCa, .ref bL, .int rd, .int rg, .int re, .ref bO, .int rl, .int rq, .int rb, .long rz]))] s.heap := hP
  have hl := lv_entry ([.ref b0, .int k1]) (n := 6) (Nat.le_of_ble_eq_true rfl)
  rw [lg_entry_eq]
  generalize (lg_sl ([.ref b0, .int k1]) ++ List.replicate (6 - (lg_sl ([.ref b0, .int k1])).length) Slot.unset).toArray = ls at hl ⊢
  have hl : lv_has ls 6 [(0, .ref b0), (1, .int k1)] := hl
  refine gw_start (fun H locs hH hlocs => ?_)
  rw [← hH] at hP
  have hS : va_S A s.heap H locs := by rw [hH, hlocs]; exact va_S.rf
  refine lv_aload_n hx hb d_Ref_clash_0 rfl (lv_at hl 0 rfl) ?_
  refine va_get (D := (dC, dI)) (ci := 1) (v := .int re) (C := R_Ref) (T := T_Ref) (N := 23) hx hb hts in_Ref hown hK hP 0 rfl rfl 17 (by decide) (hts _ tw_446) (fun _ h9 => h9) rfl d_Ref_clash_1 ?_
  refine lv_if_ne (tgt := 9) hx hb d_Ref_clash_4 (by decide) (fun c_1 => ?_) (fun c_1 => ?_)
  · skip
    exact absurd hre c_1
  · skip
    refine lv_iconst (v := (-1)) hx hb d_Ref_clash_7 (by decide) ?_
    have hP9 := hP.sub (ws' := [(b0, .inr (1, [.int rc, .ref bS, .ref bC, .int rv, .ref bW, .int rp, .ref bCe, .ref bA, .ref bB, .ref bM, .int rf, .ref bG, .ref bK, .ref bCa, .ref bL, .int rd, .int rg, .int re, .ref bO, .int rl, .int rq, .int rb, .long rz]))]) [0] rfl
    have hD9 := hD.sub (ws' := [(b0, .inr (1, [.int rc, .ref bS, .ref bC, .int rv, .ref bW, .int rp, .ref bCe, .ref bA, .ref bB, .ref bM, .int rf, .ref bG, .ref bK, .ref bCa, .ref bL, .int rd, .int rg, .int re, .ref bO, .int rl, .int rq, .int rb, .long rz]))]) [0] (by decide) rfl
    have hpost_2 : ((-1) : Int32) = -1 := rfl
    exact W.iret (v := (-1)) hx hb hr (fun t ht hW => ⟨⟨(-1), (), rfl, hpost_2, by rw [ht]; exact hP9, hD9⟩, hS.F ht⟩) hS.2.2 d_Ref_clash_8
set_option maxHeartbeats 4000000 in
set_option maxRecDepth 100000 in
theorem L_tr {p : Program} {l : Launch} {e : Env} {s : State} {m : MethodId} {args : Array Value} {below : List Frame} {meth : Method} {c : Code} {Q : State → Prop} {A : Nat → Prop} (hx : p.tables.exec = Jvm.exec) (hb : c.code = b_Ref_clash) (hml : c.maxLocals = 6) (hown : s.vm.findClass R_Ref = some m.cls) (hts : ∀ w ∈ lw_g, w.before args s = true) (hA : ∀ q, s.heap.size ≤ q → A q) {dC : Nat → ClassId} {dI : Nat → Nat → Nat} (cI : ClassId) (cZ : ClassId) (cQ : ClassId) (b0 : Nat) (rc : Int32) (bS : Nat) (bC : Nat) (rv : Int32) (bW : Nat) (rp : Int32) (bCe : Nat) (bA : Nat) (bB : Nat) (bM : Nat) (rf : Int32) (bG : Nat) (bK : Nat) (bCa : Nat) (bL : Nat) (rd : Int32) (rg : Int32) (re : Int32) (bO : Nat) (rl : Int32) (rq : Int32) (rb : Int32) (rz : Int64) (uCe : Nat → Int32) (uA : Nat → Int32) (uB : Nat → Int32) (uM : Nat → Int32) (uK : Nat → Int32) (uCa : Nat → Int32) (uL : Nat → Int32) (k1 : Int32) (nc : Nat) (nv : Nat) (np : Nat) (jf : Nat)  (hrc : rc = nI nc) (hnc : nc ≤ 5) (hrv : rv = nI nv) (hnv : nv ≤ 64) (hrp : rp = nI np) (hnp : np ≤ 4) (hrd : rd = nI jf) (hjf : jf < 4) (hCe : q_okCe uCe np) (hre : ¬ re = 0)  (hKN : g_K dC dI [(cI, .int), (cZ, .boolean), (cQ, (.object "SettingSearch$Answers"))] s)
    (kx_43 : ∀ (i : Nat) (xi : Int32) (tl : Int32) (_ : i ≤ 9) (_ : xi = nI i) (_ : tl = q_tr (fun j => q_it uM nc np j) i) (_ : i = 9) (H : Heap) (locs : List Loc), va_P (dC, dI) vw_cls [(b0, .inr (1, [.int rc, .ref bS, .ref bC, .int rv, .ref bW, .int rp, .ref bCe, .ref bA, .ref bB, .ref bM, .int rf, .ref bG, .ref bK, .ref bCa, .ref bL, .int rd, .int rg, .int re, .ref bO, .int rl, .int rq, .int rb, .long rz])), (bCe, .inl (cI, 4, .inl uCe)), (bA, .inl (cI, 4, .inl uA)), (bB, .inl (cI, 4, .inl uB)), (bM, .inl (cI, 5, .inl uM)), (bK, .inl (cZ, 256, .inl uK)), (bCa, .inl (cI, 2304, .inl uCa)), (bL, .inl (cI, 1280, .inl uL))] H → va_D A [(b0, .inr (1, [.int rc, .ref bS, .ref bC, .int rv, .ref bW, .int rp, .ref bCe, .ref bA, .ref bB, .ref bM, .int rf, .ref bG, .ref bK, .ref bCa, .ref bL, .int rd, .int rg, .int re, .ref bO, .int rl, .int rq, .int rb, .long rz])), (bCe, .inl (cI, 4, .inl uCe)), (bA, .inl (cI, 4, .inl uA)), (bB, .inl (cI, 4, .inl uB)), (bM, .inl (cI, 5, .inl uM)), (bK, .inl (cZ, 256, .inl uK)), (bCa, .inl (cI, 2304, .inl uCa)), (bL, .inl (cI, 1280, .inl uL))] → va_S A s.heap H locs → ∀ (ls : Array Slot), lv_has ls 6 [(0, .ref b0), (1, .int k1), (2, .int tl), (3, .int xi)] → W p l e ({ frames := 2, cells := 0, slots := 0, locals := 50 } : Room) s m args below meth c H locs 0 0 Q (F0 m 43 ls [])) :
    ∀ (n : Nat) (i : Nat) (xi : Int32) (tl : Int32) (_ : i ≤ 9) (_ : xi = nI i) (_ : tl = q_tr (fun j => q_it uM nc np j) i) (_ : 9 - i < n) (H : Heap) (locs : List Loc), va_P (dC, dI) vw_cls [(b0, .inr (1, [.int rc, .ref bS, .ref bC, .int rv, .ref bW, .int rp, .ref bCe, .ref bA, .ref bB, .ref bM, .int rf, .ref bG, .ref bK, .ref bCa, .ref bL, .int rd, .int rg, .int re, .ref bO, .int rl, .int rq, .int rb, .long rz])), (bCe, .inl (cI, 4, .inl uCe)), (bA, .inl (cI, 4, .inl uA)), (bB, .inl (cI, 4, .inl uB)), (bM, .inl (cI, 5, .inl uM)), (bK, .inl (cZ, 256, .inl uK)), (bCa, .inl (cI, 2304, .inl uCa)), (bL, .inl (cI, 1280, .inl uL))] H → va_D A [(b0, .inr (1, [.int rc, .ref bS, .ref bC, .int rv, .ref bW, .int rp, .ref bCe, .ref bA, .ref bB, .ref bM, .int rf, .ref bG, .ref bK, .ref bCa, .ref bL, .int rd, .int rg, .int re, .ref bO, .int rl, .int rq, .int rb, .long rz])), (bCe, .inl (cI, 4, .inl uCe)), (bA, .inl (cI, 4, .inl uA)), (bB, .inl (cI, 4, .inl uB)), (bM, .inl (cI, 5, .inl uM)), (bK, .inl (cZ, 256, .inl uK)), (bCa, .inl (cI, 2304, .inl uCa)), (bL, .inl (cI, 1280, .inl uL))] → va_S A s.heap H locs → ∀ (ls : Array Slot), lv_has ls 6 [(0, .ref b0), (1, .int k1), (2, .int tl), (3, .int xi)] → W p l e ({ frames := 2, cells := 0, slots := 0, locals := 50 } : Room) s m args below meth c H locs 0 0 Q (F0 m 13 ls []) := by
  obtain ⟨hK, hN⟩ := id hKN
  intro n
  induction n with
  | zero =>
    intro i xi tl hi exi eacc hm
    exact absurd hm (Nat.not_lt_zero _)
  | succ n ih =>
    intro i xi tl hi exi eacc hm H locs hP hD hS ls hl
    refine lv_iload_n hx hb d_Ref_clash_13 rfl (lv_at hl 3 rfl) ?_
    refine lv_bipush (v := 9) hx hb d_Ref_clash_14 (by decide) ?_
    refine lv_icmp_ge (tgt := 43) hx hb d_Ref_clash_16 (by decide) (fun c_1 => ?_) (fun c_1 => ?_)
    · skip
      have hendi := lp_ge (N := 9) c_1 exi rfl hi (by omega)
      exact kx_43 i xi tl hi exi eacc hendi H locs (hP.sub [0, 1, 2, 3, 4, 5, 6, 7] rfl) (hD.sub [0, 1, 2, 3, 4, 5, 6, 7] (by decide) rfl) hS ls (lv_sub hl [0, 1, 2, 3] rfl)
    · skip
      have hlti := lp_lt (N := 9) c_1 exi rfl (by omega)
      refine lv_iload_n hx hb d_Ref_clash_19 rfl (lv_at hl 2 rfl) ?_
      refine lv_aload_n hx hb d_Ref_clash_20 rfl (lv_at hl 0 rfl) ?_
      refine lv_iload_n hx hb d_Ref_clash_21 rfl (lv_at hl 3 rfl) ?_
      have hPc := hP.sub (ws' := [(b0, .inr (1, [.int rc, .ref bS, .ref bC, .int rv, .ref bW, .int rp, .ref bCe, .ref bA, .ref bB, .ref bM, .int rf, .ref bG, .ref bK, .ref bCa, .ref bL, .int rd, .int rg, .int re, .ref bO, .int rl, .int rq, .int rb, .long rz])), (bM, .inl (cI, 5, .inl uM))]) [0, 4] rfl
      have hDc := hD.sub (ws' := [(b0, .inr (1, [.int rc, .ref bS, .ref bC, .int rv, .ref bW, .int rp, .ref bCe, .ref bA, .ref bB, .ref bM, .int rf, .ref bG, .ref bK, .ref bCa, .ref bL, .int rd, .int rg, .int re, .ref bO, .int rl, .int rq, .int rb, .long rz])), (bM, .inl (cI, 5, .inl uM))]) [0, 4] (by decide) rfl
      have hFc := va_free (wc := [(b0, .inr (1, [.int rc, .ref bS, .ref bC, .int rv, .ref bW, .int rp, .ref bCe, .ref bA, .ref bB, .ref bM, .int rf, .ref bG, .ref bK, .ref bCa, .ref bL, .int rd, .int rg, .int re, .ref bO, .int rl, .int rq, .int rb, .long rz])), (bM, .inl (cI, 5, .inl uM))]) hD hS hA [0, 4] rfl
      refine va_calli (va_runV (As := [.int xi]) (rest := [.int tl]) ⟨hx, hb, hml, hown, hts⟩ (m_it l dC dI H.size cI cZ cQ b0 rc bS bC rv bW rp bCe bA bB bM rf bG bK bCa bL rd rg re bO rl rq rb rz uM xi i nc np hrc hnc hrp hnp exi hlti) ⟨(callB_of 1 hts (ga_all tw_619) rfl rfl rfl (hts _ tw_29) (hts _ tw_616) (by decide +kernel) ⟨Nat.le_of_ble_eq_true rfl, Nat.le_of_ble_eq_true rfl⟩), hts _ tw_618, hts _ tw_18⟩ ⟨fun a U g mk q => by obtain ⟨q0, q1, qP, qK, qD⟩ := q; exact ⟨q0, q1, qP, g_K.same (u := U) (U := U.calling g mk a) rfl qK, qD⟩, va_recv hK hPc (ci := 1) (q0 := 0) rfl rfl, fun U hU hW => ⟨rfl, by rw [hU], by rw [hU]; exact hPc, g_K.warm hW hKN, hDc.weaken (fun _ _ _ _ => trivial)⟩⟩ rfl rfl hl.1 rfl (lv_room (Nat.le_of_ble_eq_true rfl)) d_Ref_clash_22 ⟨Nat.le_of_ble_eq_true rfl, Nat.le_of_ble_eq_true rfl⟩) hS (fun q _ h => hFc q h) hFc (fun r_2 u t H1 locs htt hvm hw_3 hBB hzz hkk hS => ?_)
      have hw_3 : r_2 = q_it uM nc np i := hw_3
      obtain ⟨hPP, hDD⟩ := hBB
      rw [htt] at hPP
      have hPP : va_P (dC, dI) vw_cls [(b0, .inr (1, [.int rc, .ref bS, .ref bC, .int rv, .ref bW, .int rp, .ref bCe, .ref bA, .ref bB, .ref bM, .int rf, .ref bG, .ref bK, .ref bCa, .ref bL, .int rd, .int rg, .int re, .ref bO, .int rl, .int rq, .int rb, .long rz])), (bM, .inl (cI, 5, .inl uM))] H1 := hPP
      have hDD : va_D (va_A [(b0, .inr (1, [.int rc, .ref bS, .ref bC, .int rv, .ref bW, .int rp, .ref bCe, .ref bA, .ref bB, .ref bM, .int rf, .ref bG, .ref bK, .ref bCa, .ref bL, .int rd, .int rg, .int re, .ref bO, .int rl, .int rq, .int rb, .long rz])), (bM, .inl (cI, 5, .inl uM))] H.size) [(b0, .inr (1, [.int rc, .ref bS, .ref bC, .int rv, .ref bW, .int rp, .ref bCe, .ref bA, .ref bB, .ref bM, .int rf, .ref bG, .ref bK, .ref bCa, .ref bL, .int rd, .int rg, .int re, .ref bO, .int rl, .int rq, .int rb, .long rz])), (bM, .inl (cI, 5, .inl uM))] := hDD
      obtain ⟨hP, hD⟩ := va_join (wr := [(bCe, .inl (cI, 4, .inl uCe)), (bA, .inl (cI, 4, .inl uA)), (bB, .inl (cI, 4, .inl uB)), (bK, .inl (cZ, 256, .inl uK)), (bCa, .inl (cI, 2304, .inl uCa)), (bL, .inl (cI, 1280, .inl uL))]) (w1 := [(b0, .inr (1, [.int rc, .ref bS, .ref bC, .int rv, .ref bW, .int rp, .ref bCe, .ref bA, .ref bB, .ref bM, .int rf, .ref bG, .ref bK, .ref bCa, .ref bL, .int rd, .int rg, .int re, .ref bO, .int rl, .int rq, .int rb, .long rz])), (bM, .inl (cI, 5, .inl uM))]) hP hD [0, 4] [1, 2, 3, 5, 6, 7] rfl rfl (by decide) (by decide) hkk hFc hPP hDD
      generalize H1 = H at hP hS ⊢
      have hP : va_P (dC, dI) vw_cls [(bCe, .inl (cI, 4, .inl uCe)), (bA, .inl (cI, 4, .inl uA)), (bB, .inl (cI, 4, .inl uB)), (bK, .inl (cZ, 256, .inl uK)), (bCa, .inl (cI, 2304, .inl uCa)), (bL, .inl (cI, 1280, .inl uL)), (b0, .inr (1, [.int rc, .ref bS, .ref bC, .int rv, .ref bW, .int rp, .ref bCe, .ref bA, .ref bB, .ref bM, .int rf, .ref bG, .ref bK, .ref bCa, .ref bL, .int rd, .int rg, .int re, .ref bO, .int rl, .int rq, .int rb, .long rz])), (bM, .inl (cI, 5, .inl uM))] H := hP
      have hD : va_D A [(bCe, .inl (cI, 4, .inl uCe)), (bA, .inl (cI, 4, .inl uA)), (bB, .inl (cI, 4, .inl uB)), (bK, .inl (cZ, 256, .inl uK)), (bCa, .inl (cI, 2304, .inl uCa)), (bL, .inl (cI, 1280, .inl uL)), (b0, .inr (1, [.int rc, .ref bS, .ref bC, .int rv, .ref bW, .int rp, .ref bCe, .ref bA, .ref bB, .ref bM, .int rf, .ref bG, .ref bK, .ref bCa, .ref bL, .int rd, .int rg, .int re, .ref bO, .int rl, .int rq, .int rb, .long rz])), (bM, .inl (cI, 5, .inl uM))] := hD
      refine lv_if_eq (tgt := 34) hx hb d_Ref_clash_25 (by decide) (fun c_4 => ?_) (fun c_4 => ?_)
      · skip
        have ck : q_it uM nc np i = 0 := by rw [← hw_3]; exact c_4
        refine lv_iconst (v := 0) hx hb d_Ref_clash_34 (by decide) ?_
        refine lv_ior hx hb d_Ref_clash_35 ?_
        refine lv_topi (fun v_5 ev_5 => ?_)
        refine lv_istore_n (lv' := [(2, .int v_5), (0, .ref b0), (1, .int k1), (3, .int xi)]) hx hb d_Ref_clash_36 rfl hl (by decide) rfl (fun ls hl => ?_)
        obtain ⟨v_6, ev_6⟩ : ∃ y : Int32, y = xi + 1 := ⟨_, rfl⟩
        refine lv_iinc (v := v_6) (lv' := [(3, .int v_6), (2, .int v_5), (0, .ref b0), (1, .int k1)]) hx hb d_Ref_clash_37 hl (k := 3) rfl (by rw [ev_6]; rfl) (by decide) rfl (fun ls hl => ?_)
        refine lv_goto (tgt := 13) hx hb d_Ref_clash_40 (by decide) ?_
        exact ih (i + 1) v_6 v_5 hlti (by rw [ev_6, exi]; exact nI_1 i) (by rw [q_tr]; first | (rw [if_pos ck]; simp only [ev_5, ev_6, eacc]; done) | (rw [if_neg ck]; simp only [ev_5, ev_6, eacc, exi]; done)) (by omega) H locs (hP.sub [6, 0, 1, 2, 7, 3, 4, 5] rfl) (hD.sub [6, 0, 1, 2, 7, 3, 4, 5] (by decide) rfl) hS ls (lv_sub hl [2, 3, 1, 0] rfl)
      · skip
        have ck : ¬ q_it uM nc np i = 0 := by rw [← hw_3]; exact c_4
        refine lv_iconst (v := 1) hx hb d_Ref_clash_28 (by decide) ?_
        refine lv_iload_n hx hb d_Ref_clash_29 rfl (lv_at hl 3 rfl) ?_
        refine lv_ishl hx hb d_Ref_clash_30 ?_
        refine lv_topi (fun v_7 ev_7 => ?_)
        refine lv_goto (tgt := 35) hx hb d_Ref_clash_31 (by decide) ?_
        refine lv_ior hx hb d_Ref_clash_35 ?_
        refine lv_topi (fun v_8 ev_8 => ?_)
        refine lv_istore_n (lv' := [(2, .int v_8), (0, .ref b0), (1, .int k1), (3, .int xi)]) hx hb d_Ref_clash_36 rfl hl (by decide) rfl (fun ls hl => ?_)
        obtain ⟨v_9, ev_9⟩ : ∃ y : Int32, y = xi + 1 := ⟨_, rfl⟩
        refine lv_iinc (v := v_9) (lv' := [(3, .int v_9), (2, .int v_8), (0, .ref b0), (1, .int k1)]) hx hb d_Ref_clash_37 hl (k := 3) rfl (by rw [ev_9]; rfl) (by decide) rfl (fun ls hl => ?_)
        refine lv_goto (tgt := 13) hx hb d_Ref_clash_40 (by decide) ?_
        exact ih (i + 1) v_9 v_8 hlti (by rw [ev_9, exi]; exact nI_1 i) (by rw [q_tr]; first | (rw [if_pos ck]; simp only [ev_7, ev_8, ev_9, eacc]; done) | (rw [if_neg ck]; simp only [ev_7, ev_8, ev_9, eacc, exi]; done)) (by omega) H locs (hP.sub [6, 0, 1, 2, 7, 3, 4, 5] rfl) (hD.sub [6, 0, 1, 2, 7, 3, 4, 5] (by decide) rfl) hS ls (lv_sub hl [2, 3, 1, 0] rfl)
set_option maxHeartbeats 4000000 in
set_option maxRecDepth 100000 in
theorem L_cl {p : Program} {l : Launch} {e : Env} {s : State} {m : MethodId} {args : Array Value} {below : List Frame} {meth : Method} {c : Code} {Q : State → Prop} {A : Nat → Prop} (hx : p.tables.exec = Jvm.exec) (hb : c.code = b_Ref_clash) (hml : c.maxLocals = 6) (hown : s.vm.findClass R_Ref = some m.cls) (hts : ∀ w ∈ lw_g, w.before args s = true) (hA : ∀ q, s.heap.size ≤ q → A q) {dC : Nat → ClassId} {dI : Nat → Nat → Nat} (cI : ClassId) (cZ : ClassId) (cQ : ClassId) (b0 : Nat) (rc : Int32) (bS : Nat) (bC : Nat) (rv : Int32) (bW : Nat) (rp : Int32) (bCe : Nat) (bA : Nat) (bB : Nat) (bM : Nat) (rf : Int32) (bG : Nat) (bK : Nat) (bCa : Nat) (bL : Nat) (rd : Int32) (rg : Int32) (re : Int32) (bO : Nat) (rl : Int32) (rq : Int32) (rb : Int32) (rz : Int64) (uCe : Nat → Int32) (uA : Nat → Int32) (uB : Nat → Int32) (uM : Nat → Int32) (uK : Nat → Int32) (uCa : Nat → Int32) (uL : Nat → Int32) (k1 : Int32) (nc : Nat) (nv : Nat) (np : Nat) (jf : Nat) (tl : Int32) (hrc : rc = nI nc) (hnc : nc ≤ 5) (hrv : rv = nI nv) (hnv : nv ≤ 64) (hrp : rp = nI np) (hnp : np ≤ 4) (hrd : rd = nI jf) (hjf : jf < 4) (hCe : q_okCe uCe np) (hre : ¬ re = 0) (etl : tl = q_tr (fun j => q_it uM nc np j) 9) (hKN : g_K dC dI [(cI, .int), (cZ, .boolean), (cQ, (.object "SettingSearch$Answers"))] s)
    (kx_99 : ∀ (j : Nat) (xj : Int32) (cls : Int32) (_ : j + 1 ≤ 512) (_ : xj = nI (j + 1)) (_ : cls = q_cl (q_tr (fun j => q_it uM nc np j) 9) (fun z => q_cb (fun v => q_ca z (uK (64 * jf + v)) (fun k => q_ke uCe uA uB uM uCa uL nc np (64 * jf + v) k) 9) nv) j) (_ : j + 1 = 512) (H : Heap) (locs : List Loc), va_P (dC, dI) vw_cls [(b0, .inr (1, [.int rc, .ref bS, .ref bC, .int rv, .ref bW, .int rp, .ref bCe, .ref bA, .ref bB, .ref bM, .int rf, .ref bG, .ref bK, .ref bCa, .ref bL, .int rd, .int rg, .int re, .ref bO, .int rl, .int rq, .int rb, .long rz])), (bCe, .inl (cI, 4, .inl uCe)), (bA, .inl (cI, 4, .inl uA)), (bB, .inl (cI, 4, .inl uB)), (bM, .inl (cI, 5, .inl uM)), (bK, .inl (cZ, 256, .inl uK)), (bCa, .inl (cI, 2304, .inl uCa)), (bL, .inl (cI, 1280, .inl uL))] H → va_D A [(b0, .inr (1, [.int rc, .ref bS, .ref bC, .int rv, .ref bW, .int rp, .ref bCe, .ref bA, .ref bB, .ref bM, .int rf, .ref bG, .ref bK, .ref bCa, .ref bL, .int rd, .int rg, .int re, .ref bO, .int rl, .int rq, .int rb, .long rz])), (bCe, .inl (cI, 4, .inl uCe)), (bA, .inl (cI, 4, .inl uA)), (bB, .inl (cI, 4, .inl uB)), (bM, .inl (cI, 5, .inl uM)), (bK, .inl (cZ, 256, .inl uK)), (bCa, .inl (cI, 2304, .inl uCa)), (bL, .inl (cI, 1280, .inl uL))] → va_S A s.heap H locs → ∀ (ls : Array Slot), lv_has ls 6 [(0, .ref b0), (1, .int k1), (2, .int tl), (3, .int cls), (4, .int xj)] → W p l e ({ frames := 2, cells := 0, slots := 0, locals := 50 } : Room) s m args below meth c H locs 0 0 Q (F0 m 99 ls [])) :
    ∀ (n : Nat) (j : Nat) (xj : Int32) (cls : Int32) (_ : j + 1 ≤ 512) (_ : xj = nI (j + 1)) (_ : cls = q_cl (q_tr (fun j => q_it uM nc np j) 9) (fun z => q_cb (fun v => q_ca z (uK (64 * jf + v)) (fun k => q_ke uCe uA uB uM uCa uL nc np (64 * jf + v) k) 9) nv) j) (_ : 512 - j < n) (H : Heap) (locs : List Loc), va_P (dC, dI) vw_cls [(b0, .inr (1, [.int rc, .ref bS, .ref bC, .int rv, .ref bW, .int rp, .ref bCe, .ref bA, .ref bB, .ref bM, .int rf, .ref bG, .ref bK, .ref bCa, .ref bL, .int rd, .int rg, .int re, .ref bO, .int rl, .int rq, .int rb, .long rz])), (bCe, .inl (cI, 4, .inl uCe)), (bA, .inl (cI, 4, .inl uA)), (bB, .inl (cI, 4, .inl uB)), (bM, .inl (cI, 5, .inl uM)), (bK, .inl (cZ, 256, .inl uK)), (bCa, .inl (cI, 2304, .inl uCa)), (bL, .inl (cI, 1280, .inl uL))] H → va_D A [(b0, .inr (1, [.int rc, .ref bS, .ref bC, .int rv, .ref bW, .int rp, .ref bCe, .ref bA, .ref bB, .ref bM, .int rf, .ref bG, .ref bK, .ref bCa, .ref bL, .int rd, .int rg, .int re, .ref bO, .int rl, .int rq, .int rb, .long rz])), (bCe, .inl (cI, 4, .inl uCe)), (bA, .inl (cI, 4, .inl uA)), (bB, .inl (cI, 4, .inl uB)), (bM, .inl (cI, 5, .inl uM)), (bK, .inl (cZ, 256, .inl uK)), (bCa, .inl (cI, 2304, .inl uCa)), (bL, .inl (cI, 1280, .inl uL))] → va_S A s.heap H locs → ∀ (ls : Array Slot), lv_has ls 6 [(0, .ref b0), (1, .int k1), (2, .int tl), (3, .int cls), (4, .int xj)] → W p l e ({ frames := 2, cells := 0, slots := 0, locals := 50 } : Room) s m args below meth c H locs 0 0 Q (F0 m 48 ls []) := by
  obtain ⟨hK, hN⟩ := id hKN
  intro n
  induction n with
  | zero =>
    intro j xj cls hj exj ecl hm
    exact absurd hm (Nat.not_lt_zero _)
  | succ n ih =>
    intro j xj cls hj exj ecl hm H locs hP hD hS ls hl
    refine lv_iload hx hb d_Ref_clash_48 (lv_at hl 4 rfl) ?_
    refine lv_sipush (v := 512) hx hb d_Ref_clash_50 (by decide) ?_
    refine lv_icmp_ge (tgt := 99) hx hb d_Ref_clash_53 (by decide) (fun c_1 => ?_) (fun c_1 => ?_)
    · skip
      have hendj : j + 1 = 512 := lp_ge (N := 512) c_1 exj rfl hj (by decide)
      exact kx_99 j xj cls hj exj ecl hendj H locs (hP.sub [0, 1, 2, 3, 4, 5, 6, 7] rfl) (hD.sub [0, 1, 2, 3, 4, 5, 6, 7] (by decide) rfl) hS ls (lv_sub hl [0, 1, 2, 3, 4] rfl)
    · skip
      have hltj : j + 1 < 512 := lp_lt (N := 512) c_1 exj rfl (by omega)
      refine lv_iload hx hb d_Ref_clash_56 (lv_at hl 4 rfl) ?_
      refine lv_iload_n hx hb d_Ref_clash_58 rfl (lv_at hl 2 rfl) ?_
      refine lv_iand hx hb d_Ref_clash_59 ?_
      refine lv_topi (fun v_2 ev_2 => ?_)
      refine lv_iload hx hb d_Ref_clash_60 (lv_at hl 4 rfl) ?_
      refine lv_icmp_ne (tgt := 93) hx hb d_Ref_clash_62 (by decide) (fun c_3 => ?_) (fun c_3 => ?_)
      · skip
        have c1 : ¬ nI (j + 1) &&& (q_tr (fun j => q_it uM nc np j) 9) = nI (j + 1) := by rw [← exj, ← etl, ← ev_2]; exact c_3
        obtain ⟨v_4, ev_4⟩ : ∃ y : Int32, y = xj + 1 := ⟨_, rfl⟩
        refine lv_iinc (v := v_4) (lv' := [(4, .int v_4), (0, .ref b0), (1, .int k1), (2, .int tl), (3, .int cls)]) hx hb d_Ref_clash_93 hl (k := 4) rfl (by rw [ev_4]; rfl) (by decide) rfl (fun ls hl => ?_)
        refine lv_goto (tgt := 48) hx hb d_Ref_clash_96 (by decide) ?_
        exact ih (j + 1) v_4 cls hltj (by rw [ev_4, exj]; exact nI_1 (j + 1)) (by rw [q_cl, if_neg (fun z => by first | exact c1 z.1 | exact c2 z.2.1 | exact z.2.2 c3)]; exact ecl) (by omega) H locs (hP.sub [0, 1, 2, 3, 4, 5, 6, 7] rfl) (hD.sub [0, 1, 2, 3, 4, 5, 6, 7] (by decide) rfl) hS ls (lv_sub hl [1, 2, 3, 4, 0] rfl)
      · skip
        have c1 : nI (j + 1) &&& (q_tr (fun j => q_it uM nc np j) 9) = nI (j + 1) := by rw [← exj, ← etl, ← ev_2]; exact c_3
        refine lv_iload_n hx hb d_Ref_clash_65 rfl (lv_at hl 3 rfl) ?_
        refine lv_if_eq (tgt := 81) hx hb d_Ref_clash_66 (by decide) (fun c_5 => ?_) (fun c_5 => ?_)
        · skip
          have c2 : q_cl (q_tr (fun j => q_it uM nc np j) 9) (fun z => q_cb (fun v => q_ca z (uK (64 * jf + v)) (fun k => q_ke uCe uA uB uM uCa uL nc np (64 * jf + v) k) 9) nv) j = 0 ∨ ¬ q_sz (q_cl (q_tr (fun j => q_it uM nc np j) 9) (fun z => q_cb (fun v => q_ca z (uK (64 * jf + v)) (fun k => q_ke uCe uA uB uM uCa uL nc np (64 * jf + v) k) 9) nv) j) 9 ≤ q_sz (nI (j + 1)) 9 := Or.inl (by rw [← ecl]; exact c_5)
          refine lv_aload_n hx hb d_Ref_clash_81 rfl (lv_at hl 0 rfl) ?_
          refine lv_iload hx hb d_Ref_clash_82 (lv_at hl 4 rfl) ?_
          have hPc := hP.sub (ws' := [(b0, .inr (1, [.int rc, .ref bS, .ref bC, .int rv, .ref bW, .int rp, .ref bCe, .ref bA, .ref bB, .ref bM, .int rf, .ref bG, .ref bK, .ref bCa, .ref bL, .int rd, .int rg, .int re, .ref bO, .int rl, .int rq, .int rb, .long rz])), (bCe, .inl (cI, 4, .inl uCe)), (bA, .inl (cI, 4, .inl uA)), (bB, .inl (cI, 4, .inl uB)), (bM, .inl (cI, 5, .inl uM)), (bK, .inl (cZ, 256, .inl uK)), (bCa, .inl (cI, 2304, .inl uCa)), (bL, .inl (cI, 1280, .inl uL))]) [0, 1, 2, 3, 4, 5, 6, 7] rfl
          have hDc := hD.sub (ws' := [(b0, .inr (1, [.int rc, .ref bS, .ref bC, .int rv, .ref bW, .int rp, .ref bCe, .ref bA, .ref bB, .ref bM, .int rf, .ref bG, .ref bK, .ref bCa, .ref bL, .int rd, .int rg, .int re, .ref bO, .int rl, .int rq, .int rb, .long rz])), (bCe, .inl (cI, 4, .inl uCe)), (bA, .inl (cI, 4, .inl uA)), (bB, .inl (cI, 4, .inl uB)), (bM, .inl (cI, 5, .inl uM)), (bK, .inl (cZ, 256, .inl uK)), (bCa, .inl (cI, 2304, .inl uCa)), (bL, .inl (cI, 1280, .inl uL))]) [0, 1, 2, 3, 4, 5, 6, 7] (by decide) rfl
          have hFc := va_free (wc := [(b0, .inr (1, [.int rc, .ref bS, .ref bC, .int rv, .ref bW, .int rp, .ref bCe, .ref bA, .ref bB, .ref bM, .int rf, .ref bG, .ref bK, .ref bCa, .ref bL, .int rd, .int rg, .int re, .ref bO, .int rl, .int rq, .int rb, .long rz])), (bCe, .inl (cI, 4, .inl uCe)), (bA, .inl (cI, 4, .inl uA)), (bB, .inl (cI, 4, .inl uB)), (bM, .inl (cI, 5, .inl uM)), (bK, .inl (cZ, 256, .inl uK)), (bCa, .inl (cI, 2304, .inl uCa)), (bL, .inl (cI, 1280, .inl uL))]) hD hS hA [0, 1, 2, 3, 4, 5, 6, 7] rfl
          refine va_calli (va_runV (As := [.int xj]) (rest := []) ⟨hx, hb, hml, hown, hts⟩ (m_cb l dC dI H.size cI cZ cQ b0 rc bS bC rv bW rp bCe bA bB bM rf bG bK bCa bL rd rg re bO rl rq rb rz uCe uA uB uM uK uCa uL xj nc nv np jf hrc hnc hrv hnv hrp hnp hrd hjf hCe) ⟨(callB_of 1 hts (ga_all tw_626) rfl rfl rfl (hts _ tw_29) (hts _ tw_623) (by decide +kernel) ⟨Nat.le_of_ble_eq_true rfl, Nat.le_of_ble_eq_true rfl⟩), hts _ tw_625, hts _ tw_19⟩ ⟨fun a U g mk q => by obtain ⟨q0, q1, qP, qK, qD⟩ := q; exact ⟨q0, q1, qP, g_K.same (u := U) (U := U.calling g mk a) rfl qK, qD⟩, va_recv hK hPc (ci := 1) (q0 := 0) rfl rfl, fun U hU hW => ⟨rfl, by rw [hU], by rw [hU]; exact hPc, g_K.warm hW hKN, hDc.weaken (fun _ _ _ _ => trivial)⟩⟩ rfl rfl hl.1 rfl (lv_room (Nat.le_of_ble_eq_true rfl)) d_Ref_clash_84 ⟨Nat.le_of_ble_eq_true rfl, Nat.le_of_ble_eq_true rfl⟩) hS (fun q _ h => hFc q h) hFc (fun r_6 u t H1 locs htt hvm hw_7 hBB hzz hkk hS => ?_)
          have hw_7 : r_6 = if q_cb (fun v => q_ca xj (uK (64 * jf + v)) (fun k => q_ke uCe uA uB uM uCa uL nc np (64 * jf + v) k) 9) nv = true then 1 else 0 := hw_7
          obtain ⟨hPP, hDD⟩ := hBB
          rw [htt] at hPP
          have hPP : va_P (dC, dI) vw_cls [(b0, .inr (1, [.int rc, .ref bS, .ref bC, .int rv, .ref bW, .int rp, .ref bCe, .ref bA, .ref bB, .ref bM, .int rf, .ref bG, .ref bK, .ref bCa, .ref bL, .int rd, .int rg, .int re, .ref bO, .int rl, .int rq, .int rb, .long rz])), (bCe, .inl (cI, 4, .inl uCe)), (bA, .inl (cI, 4, .inl uA)), (bB, .inl (cI, 4, .inl uB)), (bM, .inl (cI, 5, .inl uM)), (bK, .inl (cZ, 256, .inl uK)), (bCa, .inl (cI, 2304, .inl uCa)), (bL, .inl (cI, 1280, .inl uL))] H1 := hPP
          have hDD : va_D (va_A [(b0, .inr (1, [.int rc, .ref bS, .ref bC, .int rv, .ref bW, .int rp, .ref bCe, .ref bA, .ref bB, .ref bM, .int rf, .ref bG, .ref bK, .ref bCa, .ref bL, .int rd, .int rg, .int re, .ref bO, .int rl, .int rq, .int rb, .long rz])), (bCe, .inl (cI, 4, .inl uCe)), (bA, .inl (cI, 4, .inl uA)), (bB, .inl (cI, 4, .inl uB)), (bM, .inl (cI, 5, .inl uM)), (bK, .inl (cZ, 256, .inl uK)), (bCa, .inl (cI, 2304, .inl uCa)), (bL, .inl (cI, 1280, .inl uL))] H.size) [(b0, .inr (1, [.int rc, .ref bS, .ref bC, .int rv, .ref bW, .int rp, .ref bCe, .ref bA, .ref bB, .ref bM, .int rf, .ref bG, .ref bK, .ref bCa, .ref bL, .int rd, .int rg, .int re, .ref bO, .int rl, .int rq, .int rb, .long rz])), (bCe, .inl (cI, 4, .inl uCe)), (bA, .inl (cI, 4, .inl uA)), (bB, .inl (cI, 4, .inl uB)), (bM, .inl (cI, 5, .inl uM)), (bK, .inl (cZ, 256, .inl uK)), (bCa, .inl (cI, 2304, .inl uCa)), (bL, .inl (cI, 1280, .inl uL))] := hDD
          obtain ⟨hP, hD⟩ := va_join (wr := []) (w1 := [(b0, .inr (1, [.int rc, .ref bS, .ref bC, .int rv, .ref bW, .int rp, .ref bCe, .ref bA, .ref bB, .ref bM, .int rf, .ref bG, .ref bK, .ref bCa, .ref bL, .int rd, .int rg, .int re, .ref bO, .int rl, .int rq, .int rb, .long rz])), (bCe, .inl (cI, 4, .inl uCe)), (bA, .inl (cI, 4, .inl uA)), (bB, .inl (cI, 4, .inl uB)), (bM, .inl (cI, 5, .inl uM)), (bK, .inl (cZ, 256, .inl uK)), (bCa, .inl (cI, 2304, .inl uCa)), (bL, .inl (cI, 1280, .inl uL))]) hP hD [0, 1, 2, 3, 4, 5, 6, 7] [] rfl rfl (by decide) (by decide) hkk hFc hPP hDD
          generalize H1 = H at hP hS ⊢
          have hP : va_P (dC, dI) vw_cls [(b0, .inr (1, [.int rc, .ref bS, .ref bC, .int rv, .ref bW, .int rp, .ref bCe, .ref bA, .ref bB, .ref bM, .int rf, .ref bG, .ref bK, .ref bCa, .ref bL, .int rd, .int rg, .int re, .ref bO, .int rl, .int rq, .int rb, .long rz])), (bCe, .inl (cI, 4, .inl uCe)), (bA, .inl (cI, 4, .inl uA)), (bB, .inl (cI, 4, .inl uB)), (bM, .inl (cI, 5, .inl uM)), (bK, .inl (cZ, 256, .inl uK)), (bCa, .inl (cI, 2304, .inl uCa)), (bL, .inl (cI, 1280, .inl uL))] H := hP
          have hD : va_D A [(b0, .inr (1, [.int rc, .ref bS, .ref bC, .int rv, .ref bW, .int rp, .ref bCe, .ref bA, .ref bB, .ref bM, .int rf, .ref bG, .ref bK, .ref bCa, .ref bL, .int rd, .int rg, .int re, .ref bO, .int rl, .int rq, .int rb, .long rz])), (bCe, .inl (cI, 4, .inl uCe)), (bA, .inl (cI, 4, .inl uA)), (bB, .inl (cI, 4, .inl uB)), (bM, .inl (cI, 5, .inl uM)), (bK, .inl (cZ, 256, .inl uK)), (bCa, .inl (cI, 2304, .inl uCa)), (bL, .inl (cI, 1280, .inl uL))] := hD
          refine lv_if_ne (tgt := 93) hx hb d_Ref_clash_87 (by decide) (fun c_8 => ?_) (fun c_8 => ?_)
          · skip
            have c3 : q_cb (fun v => q_ca (nI (j + 1)) (uK (64 * jf + v)) (fun k => q_ke uCe uA uB uM uCa uL nc np (64 * jf + v) k) 9) nv = true := by
              have q := c_8
              rw [hw_7, exj] at q
              exact Decidable.byContradiction (fun z => q (if_neg z))
            obtain ⟨v_9, ev_9⟩ : ∃ y : Int32, y = xj + 1 := ⟨_, rfl⟩
            refine lv_iinc (v := v_9) (lv' := [(4, .int v_9), (0, .ref b0), (1, .int k1), (2, .int tl), (3, .int cls)]) hx hb d_Ref_clash_93 hl (k := 4) rfl (by rw [ev_9]; rfl) (by decide) rfl (fun ls hl => ?_)
            refine lv_goto (tgt := 48) hx hb d_Ref_clash_96 (by decide) ?_
            exact ih (j + 1) v_9 cls hltj (by rw [ev_9, exj]; exact nI_1 (j + 1)) (by rw [q_cl, if_neg (fun z => by first | exact c1 z.1 | exact c2 z.2.1 | exact z.2.2 c3)]; exact ecl) (by omega) H locs (hP.sub [0, 1, 2, 3, 4, 5, 6, 7] rfl) (hD.sub [0, 1, 2, 3, 4, 5, 6, 7] (by decide) rfl) hS ls (lv_sub hl [1, 2, 3, 4, 0] rfl)
          · skip
            have c3 : ¬ q_cb (fun v => q_ca (nI (j + 1)) (uK (64 * jf + v)) (fun k => q_ke uCe uA uB uM uCa uL nc np (64 * jf + v) k) 9) nv = true := by
              intro z
              have q := c_8
              rw [hw_7, exj, if_pos z] at q
              exact absurd q (by decide)
            refine lv_iload hx hb d_Ref_clash_90 (lv_at hl 4 rfl) ?_
            refine lv_istore_n (lv' := [(3, .int xj), (0, .ref b0), (1, .int k1), (2, .int tl), (4, .int xj)]) hx hb d_Ref_clash_92 rfl hl (by decide) rfl (fun ls hl => ?_)
            obtain ⟨v_10, ev_10⟩ : ∃ y : Int32, y = xj + 1 := ⟨_, rfl⟩
            refine lv_iinc (v := v_10) (lv' := [(4, .int v_10), (3, .int xj), (0, .ref b0), (1, .int k1), (2, .int tl)]) hx hb d_Ref_clash_93 hl (k := 4) rfl (by rw [ev_10]; rfl) (by decide) rfl (fun ls hl => ?_)
            refine lv_goto (tgt := 48) hx hb d_Ref_clash_96 (by decide) ?_
            exact ih (j + 1) v_10 xj hltj (by rw [ev_10, exj]; exact nI_1 (j + 1)) (by rw [exj, q_cl, if_pos ⟨c1, c2, c3⟩]) (by omega) H locs (hP.sub [0, 1, 2, 3, 4, 5, 6, 7] rfl) (hD.sub [0, 1, 2, 3, 4, 5, 6, 7] (by decide) rfl) hS ls (lv_sub hl [2, 3, 4, 1, 0] rfl)
        · skip
          have c0 : ¬ q_cl (q_tr (fun j => q_it uM nc np j) 9) (fun z => q_cb (fun v => q_ca z (uK (64 * jf + v)) (fun k => q_ke uCe uA uB uM uCa uL nc np (64 * jf + v) k) 9) nv) j = 0 := by rw [← ecl]; exact c_5
          refine lv_iload hx hb d_Ref_clash_69 (lv_at hl 4 rfl) ?_
          have hPc := hP.sub (ws' := []) [] rfl
          have hDc := hD.sub (ws' := []) [] (by decide) rfl
          have hFc := va_free (wc := []) hD hS hA [] rfl
          refine va_calli (va_runS (As := [.int xj]) (rest := []) ⟨hx, hb, hml, hown, hts⟩ (m_sz l dC dI H.size cI cZ cQ xj ) ⟨(callB_of 1 hts (ga_all tw_622) rfl rfl rfl (hts _ tw_29) (hts _ tw_620) (by decide +kernel) ⟨Nat.le_of_ble_eq_true rfl, Nat.le_of_ble_eq_true rfl⟩), hts _ tw_621⟩ ⟨fun a U g mk q => by obtain ⟨q0, q1, qP, qK, qD⟩ := q; exact ⟨q0, q1, qP, g_K.same (u := U) (U := U.calling g mk a) rfl qK, qD⟩, fun U hU hW => ⟨rfl, by rw [hU], by rw [hU]; exact hPc, g_K.warm hW hKN, hDc.weaken (fun _ _ _ _ => trivial)⟩⟩ rfl rfl hl.1 rfl (lv_room (Nat.le_of_ble_eq_true rfl)) d_Ref_clash_71 ⟨Nat.le_of_ble_eq_true rfl, Nat.le_of_ble_eq_true rfl⟩) hS (fun q _ h => hFc q h) hFc (fun z1 u t H1 locs htt hvm hw_11 hBB hzz hkk hS => ?_)
          have hw_11 : z1 = q_sz xj 9 := hw_11
          obtain ⟨hPP, hDD⟩ := hBB
          rw [htt] at hPP
          have hPP : va_P (dC, dI) vw_cls [] H1 := hPP
          have hDD : va_D (va_A [] H.size) [] := hDD
          obtain ⟨hP, hD⟩ := va_join (wr := [(b0, .inr (1, [.int rc, .ref bS, .ref bC, .int rv, .ref bW, .int rp, .ref bCe, .ref bA, .ref bB, .ref bM, .int rf, .ref bG, .ref bK, .ref bCa, .ref bL, .int rd, .int rg, .int re, .ref bO, .int rl, .int rq, .int rb, .long rz])), (bCe, .inl (cI, 4, .inl uCe)), (bA, .inl (cI, 4, .inl uA)), (bB, .inl (cI, 4, .inl uB)), (bM, .inl (cI, 5, .inl uM)), (bK, .inl (cZ, 256, .inl uK)), (bCa, .inl (cI, 2304, .inl uCa)), (bL, .inl (cI, 1280, .inl uL))]) (w1 := []) hP hD [] [0, 1, 2, 3, 4, 5, 6, 7] rfl rfl (by decide) (by decide) hkk hFc hPP hDD
          generalize H1 = H at hP hS ⊢
          have hP : va_P (dC, dI) vw_cls [(b0, .inr (1, [.int rc, .ref bS, .ref bC, .int rv, .ref bW, .int rp, .ref bCe, .ref bA, .ref bB, .ref bM, .int rf, .ref bG, .ref bK, .ref bCa, .ref bL, .int rd, .int rg, .int re, .ref bO, .int rl, .int rq, .int rb, .long rz])), (bCe, .inl (cI, 4, .inl uCe)), (bA, .inl (cI, 4, .inl uA)), (bB, .inl (cI, 4, .inl uB)), (bM, .inl (cI, 5, .inl uM)), (bK, .inl (cZ, 256, .inl uK)), (bCa, .inl (cI, 2304, .inl uCa)), (bL, .inl (cI, 1280, .inl uL))] H := hP
          have hD : va_D A [(b0, .inr (1, [.int rc, .ref bS, .ref bC, .int rv, .ref bW, .int rp, .ref bCe, .ref bA, .ref bB, .ref bM, .int rf, .ref bG, .ref bK, .ref bCa, .ref bL, .int rd, .int rg, .int re, .ref bO, .int rl, .int rq, .int rb, .long rz])), (bCe, .inl (cI, 4, .inl uCe)), (bA, .inl (cI, 4, .inl uA)), (bB, .inl (cI, 4, .inl uB)), (bM, .inl (cI, 5, .inl uM)), (bK, .inl (cZ, 256, .inl uK)), (bCa, .inl (cI, 2304, .inl uCa)), (bL, .inl (cI, 1280, .inl uL))] := hD
          have hz1 : z1 = q_sz (nI (j + 1)) 9 := by rw [hw_11, exj]
          refine lv_iload_n hx hb d_Ref_clash_74 rfl (lv_at hl 3 rfl) ?_
          have hPc := hP.sub (ws' := []) [] rfl
          have hDc := hD.sub (ws' := []) [] (by decide) rfl
          have hFc := va_free (wc := []) hD hS hA [] rfl
          refine va_calli (va_runS (As := [.int cls]) (rest := [.int z1]) ⟨hx, hb, hml, hown, hts⟩ (m_sz l dC dI H.size cI cZ cQ cls ) ⟨(callB_of 1 hts (ga_all tw_622) rfl rfl rfl (hts _ tw_29) (hts _ tw_620) (by decide +kernel) ⟨Nat.le_of_ble_eq_true rfl, Nat.le_of_ble_eq_true rfl⟩), hts _ tw_621⟩ ⟨fun a U g mk q => by obtain ⟨q0, q1, qP, qK, qD⟩ := q; exact ⟨q0, q1, qP, g_K.same (u := U) (U := U.calling g mk a) rfl qK, qD⟩, fun U hU hW => ⟨rfl, by rw [hU], by rw [hU]; exact hPc, g_K.warm hW hKN, hDc.weaken (fun _ _ _ _ => trivial)⟩⟩ rfl rfl hl.1 rfl (lv_room (Nat.le_of_ble_eq_true rfl)) d_Ref_clash_75 ⟨Nat.le_of_ble_eq_true rfl, Nat.le_of_ble_eq_true rfl⟩) hS (fun q _ h => hFc q h) hFc (fun z2 u t H1 locs htt hvm hw_12 hBB hzz hkk hS => ?_)
          have hw_12 : z2 = q_sz cls 9 := hw_12
          obtain ⟨hPP, hDD⟩ := hBB
          rw [htt] at hPP
          have hPP : va_P (dC, dI) vw_cls [] H1 := hPP
          have hDD : va_D (va_A [] H.size) [] := hDD
          obtain ⟨hP, hD⟩ := va_join (wr := [(b0, .inr (1, [.int rc, .ref bS, .ref bC, .int rv, .ref bW, .int rp, .ref bCe, .ref bA, .ref bB, .ref bM, .int rf, .ref bG, .ref bK, .ref bCa, .ref bL, .int rd, .int rg, .int re, .ref bO, .int rl, .int rq, .int rb, .long rz])), (bCe, .inl (cI, 4, .inl uCe)), (bA, .inl (cI, 4, .inl uA)), (bB, .inl (cI, 4, .inl uB)), (bM, .inl (cI, 5, .inl uM)), (bK, .inl (cZ, 256, .inl uK)), (bCa, .inl (cI, 2304, .inl uCa)), (bL, .inl (cI, 1280, .inl uL))]) (w1 := []) hP hD [] [0, 1, 2, 3, 4, 5, 6, 7] rfl rfl (by decide) (by decide) hkk hFc hPP hDD
          generalize H1 = H at hP hS ⊢
          have hP : va_P (dC, dI) vw_cls [(b0, .inr (1, [.int rc, .ref bS, .ref bC, .int rv, .ref bW, .int rp, .ref bCe, .ref bA, .ref bB, .ref bM, .int rf, .ref bG, .ref bK, .ref bCa, .ref bL, .int rd, .int rg, .int re, .ref bO, .int rl, .int rq, .int rb, .long rz])), (bCe, .inl (cI, 4, .inl uCe)), (bA, .inl (cI, 4, .inl uA)), (bB, .inl (cI, 4, .inl uB)), (bM, .inl (cI, 5, .inl uM)), (bK, .inl (cZ, 256, .inl uK)), (bCa, .inl (cI, 2304, .inl uCa)), (bL, .inl (cI, 1280, .inl uL))] H := hP
          have hD : va_D A [(b0, .inr (1, [.int rc, .ref bS, .ref bC, .int rv, .ref bW, .int rp, .ref bCe, .ref bA, .ref bB, .ref bM, .int rf, .ref bG, .ref bK, .ref bCa, .ref bL, .int rd, .int rg, .int re, .ref bO, .int rl, .int rq, .int rb, .long rz])), (bCe, .inl (cI, 4, .inl uCe)), (bA, .inl (cI, 4, .inl uA)), (bB, .inl (cI, 4, .inl uB)), (bM, .inl (cI, 5, .inl uM)), (bK, .inl (cZ, 256, .inl uK)), (bCa, .inl (cI, 2304, .inl uCa)), (bL, .inl (cI, 1280, .inl uL))] := hD
          have hz2 : z2 = q_sz (q_cl (q_tr (fun j => q_it uM nc np j) 9) (fun z => q_cb (fun v => q_ca z (uK (64 * jf + v)) (fun k => q_ke uCe uA uB uM uCa uL nc np (64 * jf + v) k) 9) nv) j) 9 := by rw [hw_12, ecl]
          refine lv_icmp_ge (tgt := 93) hx hb d_Ref_clash_78 (by decide) (fun c_13 => ?_) (fun c_13 => ?_)
          · skip
            have c2 : ¬ (q_cl (q_tr (fun j => q_it uM nc np j) 9) (fun z => q_cb (fun v => q_ca z (uK (64 * jf + v)) (fun k => q_ke uCe uA uB uM uCa uL nc np (64 * jf + v) k) 9) nv) j = 0 ∨ ¬ q_sz (q_cl (q_tr (fun j => q_it uM nc np j) 9) (fun z => q_cb (fun v => q_ca z (uK (64 * jf + v)) (fun k => q_ke uCe uA uB uM uCa uL nc np (64 * jf + v) k) 9) nv) j) 9 ≤ q_sz (nI (j + 1)) 9) := fun q => q.elim c0 (fun z => z (by rw [← hz1, ← hz2]; exact c_13))
            obtain ⟨v_14, ev_14⟩ : ∃ y : Int32, y = xj + 1 := ⟨_, rfl⟩
            refine lv_iinc (v := v_14) (lv' := [(4, .int v_14), (0, .ref b0), (1, .int k1), (2, .int tl), (3, .int cls)]) hx hb d_Ref_clash_93 hl (k := 4) rfl (by rw [ev_14]; rfl) (by decide) rfl (fun ls hl => ?_)
            refine lv_goto (tgt := 48) hx hb d_Ref_clash_96 (by decide) ?_
            exact ih (j + 1) v_14 cls hltj (by rw [ev_14, exj]; exact nI_1 (j + 1)) (by rw [q_cl, if_neg (fun z => by first | exact c1 z.1 | exact c2 z.2.1 | exact z.2.2 c3)]; exact ecl) (by omega) H locs (hP.sub [0, 1, 2, 3, 4, 5, 6, 7] rfl) (hD.sub [0, 1, 2, 3, 4, 5, 6, 7] (by decide) rfl) hS ls (lv_sub hl [1, 2, 3, 4, 0] rfl)
          · skip
            have c2 : q_cl (q_tr (fun j => q_it uM nc np j) 9) (fun z => q_cb (fun v => q_ca z (uK (64 * jf + v)) (fun k => q_ke uCe uA uB uM uCa uL nc np (64 * jf + v) k) 9) nv) j = 0 ∨ ¬ q_sz (q_cl (q_tr (fun j => q_it uM nc np j) 9) (fun z => q_cb (fun v => q_ca z (uK (64 * jf + v)) (fun k => q_ke uCe uA uB uM uCa uL nc np (64 * jf + v) k) 9) nv) j) 9 ≤ q_sz (nI (j + 1)) 9 := Or.inr (by rw [← hz1, ← hz2]; exact c_13)
            refine lv_aload_n hx hb d_Ref_clash_81 rfl (lv_at hl 0 rfl) ?_
            refine lv_iload hx hb d_Ref_clash_82 (lv_at hl 4 rfl) ?_
            have hPc := hP.sub (ws' := [(b0, .inr (1, [.int rc, .ref bS, .ref bC, .int rv, .ref bW, .int rp, .ref bCe, .ref bA, .ref bB, .ref bM, .int rf, .ref bG, .ref bK, .ref bCa, .ref bL, .int rd, .int rg, .int re, .ref bO, .int rl, .int rq, .int rb, .long rz])), (bCe, .inl (cI, 4, .inl uCe)), (bA, .inl (cI, 4, .inl uA)), (bB, .inl (cI, 4, .inl uB)), (bM, .inl (cI, 5, .inl uM)), (bK, .inl (cZ, 256, .inl uK)), (bCa, .inl (cI, 2304, .inl uCa)), (bL, .inl (cI, 1280, .inl uL))]) [0, 1, 2, 3, 4, 5, 6, 7] rfl
            have hDc := hD.sub (ws' := [(b0, .inr (1, [.int rc, .ref bS, .ref bC, .int rv, .ref bW, .int rp, .ref bCe, .ref bA, .ref bB, .ref bM, .int rf, .ref bG, .ref bK, .ref bCa, .ref bL, .int rd, .int rg, .int re, .ref bO, .int rl, .int rq, .int rb, .long rz])), (bCe, .inl (cI, 4, .inl uCe)), (bA, .inl (cI, 4, .inl uA)), (bB, .inl (cI, 4, .inl uB)), (bM, .inl (cI, 5, .inl uM)), (bK, .inl (cZ, 256, .inl uK)), (bCa, .inl (cI, 2304, .inl uCa)), (bL, .inl (cI, 1280, .inl uL))]) [0, 1, 2, 3, 4, 5, 6, 7] (by decide) rfl
            have hFc := va_free (wc := [(b0, .inr (1, [.int rc, .ref bS, .ref bC, .int rv, .ref bW, .int rp, .ref bCe, .ref bA, .ref bB, .ref bM, .int rf, .ref bG, .ref bK, .ref bCa, .ref bL, .int rd, .int rg, .int re, .ref bO, .int rl, .int rq, .int rb, .long rz])), (bCe, .inl (cI, 4, .inl uCe)), (bA, .inl (cI, 4, .inl uA)), (bB, .inl (cI, 4, .inl uB)), (bM, .inl (cI, 5, .inl uM)), (bK, .inl (cZ, 256, .inl uK)), (bCa, .inl (cI, 2304, .inl uCa)), (bL, .inl (cI, 1280, .inl uL))]) hD hS hA [0, 1, 2, 3, 4, 5, 6, 7] rfl
            refine va_calli (va_runV (As := [.int xj]) (rest := []) ⟨hx, hb, hml, hown, hts⟩ (m_cb l dC dI H.size cI cZ cQ b0 rc bS bC rv bW rp bCe bA bB bM rf bG bK bCa bL rd rg re bO rl rq rb rz uCe uA uB uM uK uCa uL xj nc nv np jf hrc hnc hrv hnv hrp hnp hrd hjf hCe) ⟨(callB_of 1 hts (ga_all tw_626) rfl rfl rfl (hts _ tw_29) (hts _ tw_623) (by decide +kernel) ⟨Nat.le_of_ble_eq_true rfl, Nat.le_of_ble_eq_true rfl⟩), hts _ tw_625, hts _ tw_19⟩ ⟨fun a U g mk q => by obtain ⟨q0, q1, qP, qK, qD⟩ := q; exact ⟨q0, q1, qP, g_K.same (u := U) (U := U.calling g mk a) rfl qK, qD⟩, va_recv hK hPc (ci := 1) (q0 := 0) rfl rfl, fun U hU hW => ⟨rfl, by rw [hU], by rw [hU]; exact hPc, g_K.warm hW hKN, hDc.weaken (fun _ _ _ _ => trivial)⟩⟩ rfl rfl hl.1 rfl (lv_room (Nat.le_of_ble_eq_true rfl)) d_Ref_clash_84 ⟨Nat.le_of_ble_eq_true rfl, Nat.le_of_ble_eq_true rfl⟩) hS (fun q _ h => hFc q h) hFc (fun r_15 u t H1 locs htt hvm hw_16 hBB hzz hkk hS => ?_)
            have hw_16 : r_15 = if q_cb (fun v => q_ca xj (uK (64 * jf + v)) (fun k => q_ke uCe uA uB uM uCa uL nc np (64 * jf + v) k) 9) nv = true then 1 else 0 := hw_16
            obtain ⟨hPP, hDD⟩ := hBB
            rw [htt] at hPP
            have hPP : va_P (dC, dI) vw_cls [(b0, .inr (1, [.int rc, .ref bS, .ref bC, .int rv, .ref bW, .int rp, .ref bCe, .ref bA, .ref bB, .ref bM, .int rf, .ref bG, .ref bK, .ref bCa, .ref bL, .int rd, .int rg, .int re, .ref bO, .int rl, .int rq, .int rb, .long rz])), (bCe, .inl (cI, 4, .inl uCe)), (bA, .inl (cI, 4, .inl uA)), (bB, .inl (cI, 4, .inl uB)), (bM, .inl (cI, 5, .inl uM)), (bK, .inl (cZ, 256, .inl uK)), (bCa, .inl (cI, 2304, .inl uCa)), (bL, .inl (cI, 1280, .inl uL))] H1 := hPP
            have hDD : va_D (va_A [(b0, .inr (1, [.int rc, .ref bS, .ref bC, .int rv, .ref bW, .int rp, .ref bCe, .ref bA, .ref bB, .ref bM, .int rf, .ref bG, .ref bK, .ref bCa, .ref bL, .int rd, .int rg, .int re, .ref bO, .int rl, .int rq, .int rb, .long rz])), (bCe, .inl (cI, 4, .inl uCe)), (bA, .inl (cI, 4, .inl uA)), (bB, .inl (cI, 4, .inl uB)), (bM, .inl (cI, 5, .inl uM)), (bK, .inl (cZ, 256, .inl uK)), (bCa, .inl (cI, 2304, .inl uCa)), (bL, .inl (cI, 1280, .inl uL))] H.size) [(b0, .inr (1, [.int rc, .ref bS, .ref bC, .int rv, .ref bW, .int rp, .ref bCe, .ref bA, .ref bB, .ref bM, .int rf, .ref bG, .ref bK, .ref bCa, .ref bL, .int rd, .int rg, .int re, .ref bO, .int rl, .int rq, .int rb, .long rz])), (bCe, .inl (cI, 4, .inl uCe)), (bA, .inl (cI, 4, .inl uA)), (bB, .inl (cI, 4, .inl uB)), (bM, .inl (cI, 5, .inl uM)), (bK, .inl (cZ, 256, .inl uK)), (bCa, .inl (cI, 2304, .inl uCa)), (bL, .inl (cI, 1280, .inl uL))] := hDD
            obtain ⟨hP, hD⟩ := va_join (wr := []) (w1 := [(b0, .inr (1, [.int rc, .ref bS, .ref bC, .int rv, .ref bW, .int rp, .ref bCe, .ref bA, .ref bB, .ref bM, .int rf, .ref bG, .ref bK, .ref bCa, .ref bL, .int rd, .int rg, .int re, .ref bO, .int rl, .int rq, .int rb, .long rz])), (bCe, .inl (cI, 4, .inl uCe)), (bA, .inl (cI, 4, .inl uA)), (bB, .inl (cI, 4, .inl uB)), (bM, .inl (cI, 5, .inl uM)), (bK, .inl (cZ, 256, .inl uK)), (bCa, .inl (cI, 2304, .inl uCa)), (bL, .inl (cI, 1280, .inl uL))]) hP hD [0, 1, 2, 3, 4, 5, 6, 7] [] rfl rfl (by decide) (by decide) hkk hFc hPP hDD
            generalize H1 = H at hP hS ⊢
            have hP : va_P (dC, dI) vw_cls [(b0, .inr (1, [.int rc, .ref bS, .ref bC, .int rv, .ref bW, .int rp, .ref bCe, .ref bA, .ref bB, .ref bM, .int rf, .ref bG, .ref bK, .ref bCa, .ref bL, .int rd, .int rg, .int re, .ref bO, .int rl, .int rq, .int rb, .long rz])), (bCe, .inl (cI, 4, .inl uCe)), (bA, .inl (cI, 4, .inl uA)), (bB, .inl (cI, 4, .inl uB)), (bM, .inl (cI, 5, .inl uM)), (bK, .inl (cZ, 256, .inl uK)), (bCa, .inl (cI, 2304, .inl uCa)), (bL, .inl (cI, 1280, .inl uL))] H := hP
            have hD : va_D A [(b0, .inr (1, [.int rc, .ref bS, .ref bC, .int rv, .ref bW, .int rp, .ref bCe, .ref bA, .ref bB, .ref bM, .int rf, .ref bG, .ref bK, .ref bCa, .ref bL, .int rd, .int rg, .int re, .ref bO, .int rl, .int rq, .int rb, .long rz])), (bCe, .inl (cI, 4, .inl uCe)), (bA, .inl (cI, 4, .inl uA)), (bB, .inl (cI, 4, .inl uB)), (bM, .inl (cI, 5, .inl uM)), (bK, .inl (cZ, 256, .inl uK)), (bCa, .inl (cI, 2304, .inl uCa)), (bL, .inl (cI, 1280, .inl uL))] := hD
            refine lv_if_ne (tgt := 93) hx hb d_Ref_clash_87 (by decide) (fun c_17 => ?_) (fun c_17 => ?_)
            · skip
              have c3 : q_cb (fun v => q_ca (nI (j + 1)) (uK (64 * jf + v)) (fun k => q_ke uCe uA uB uM uCa uL nc np (64 * jf + v) k) 9) nv = true := by
                have q := c_17
                rw [hw_16, exj] at q
                exact Decidable.byContradiction (fun z => q (if_neg z))
              obtain ⟨v_18, ev_18⟩ : ∃ y : Int32, y = xj + 1 := ⟨_, rfl⟩
              refine lv_iinc (v := v_18) (lv' := [(4, .int v_18), (0, .ref b0), (1, .int k1), (2, .int tl), (3, .int cls)]) hx hb d_Ref_clash_93 hl (k := 4) rfl (by rw [ev_18]; rfl) (by decide) rfl (fun ls hl => ?_)
              refine lv_goto (tgt := 48) hx hb d_Ref_clash_96 (by decide) ?_
              exact ih (j + 1) v_18 cls hltj (by rw [ev_18, exj]; exact nI_1 (j + 1)) (by rw [q_cl, if_neg (fun z => by first | exact c1 z.1 | exact c2 z.2.1 | exact z.2.2 c3)]; exact ecl) (by omega) H locs (hP.sub [0, 1, 2, 3, 4, 5, 6, 7] rfl) (hD.sub [0, 1, 2, 3, 4, 5, 6, 7] (by decide) rfl) hS ls (lv_sub hl [1, 2, 3, 4, 0] rfl)
            · skip
              have c3 : ¬ q_cb (fun v => q_ca (nI (j + 1)) (uK (64 * jf + v)) (fun k => q_ke uCe uA uB uM uCa uL nc np (64 * jf + v) k) 9) nv = true := by
                intro z
                have q := c_17
                rw [hw_16, exj, if_pos z] at q
                exact absurd q (by decide)
              refine lv_iload hx hb d_Ref_clash_90 (lv_at hl 4 rfl) ?_
              refine lv_istore_n (lv' := [(3, .int xj), (0, .ref b0), (1, .int k1), (2, .int tl), (4, .int xj)]) hx hb d_Ref_clash_92 rfl hl (by decide) rfl (fun ls hl => ?_)
              obtain ⟨v_19, ev_19⟩ : ∃ y : Int32, y = xj + 1 := ⟨_, rfl⟩
              refine lv_iinc (v := v_19) (lv' := [(4, .int v_19), (3, .int xj), (0, .ref b0), (1, .int k1), (2, .int tl)]) hx hb d_Ref_clash_93 hl (k := 4) rfl (by rw [ev_19]; rfl) (by decide) rfl (fun ls hl => ?_)
              refine lv_goto (tgt := 48) hx hb d_Ref_clash_96 (by decide) ?_
              exact ih (j + 1) v_19 xj hltj (by rw [ev_19, exj]; exact nI_1 (j + 1)) (by rw [exj, q_cl, if_pos ⟨c1, c2, c3⟩]) (by omega) H locs (hP.sub [0, 1, 2, 3, 4, 5, 6, 7] rfl) (hD.sub [0, 1, 2, 3, 4, 5, 6, 7] (by decide) rfl) hS ls (lv_sub hl [2, 3, 4, 1, 0] rfl)
set_option maxHeartbeats 4000000 in
set_option maxRecDepth 100000 in
theorem L_nr {p : Program} {l : Launch} {e : Env} {s : State} {m : MethodId} {args : Array Value} {below : List Frame} {meth : Method} {c : Code} {Q : State → Prop} {A : Nat → Prop} (hx : p.tables.exec = Jvm.exec) (hb : c.code = b_Ref_clash) (hml : c.maxLocals = 6) (hown : s.vm.findClass R_Ref = some m.cls) (hts : ∀ w ∈ lw_g, w.before args s = true) (hA : ∀ q, s.heap.size ≤ q → A q) {dC : Nat → ClassId} {dI : Nat → Nat → Nat} (cI : ClassId) (cZ : ClassId) (cQ : ClassId) (b0 : Nat) (rc : Int32) (bS : Nat) (bC : Nat) (rv : Int32) (bW : Nat) (rp : Int32) (bCe : Nat) (bA : Nat) (bB : Nat) (bM : Nat) (rf : Int32) (bG : Nat) (bK : Nat) (bCa : Nat) (bL : Nat) (rd : Int32) (rg : Int32) (re : Int32) (bO : Nat) (rl : Int32) (rq : Int32) (rb : Int32) (rz : Int64) (uCe : Nat → Int32) (uA : Nat → Int32) (uB : Nat → Int32) (uM : Nat → Int32) (uK : Nat → Int32) (uCa : Nat → Int32) (uL : Nat → Int32) (k1 : Int32) (nc : Nat) (nv : Nat) (np : Nat) (jf : Nat) (cls : Int32) (hrc : rc = nI nc) (hnc : nc ≤ 5) (hrv : rv = nI nv) (hnv : nv ≤ 64) (hrp : rp = nI np) (hnp : np ≤ 4) (hrd : rd = nI jf) (hjf : jf < 4) (hCe : q_okCe uCe np) (hre : ¬ re = 0) (ecs : cls = q_cl (q_tr (fun j => q_it uM nc np j) 9) (fun z => q_cb (fun v => q_ca z (uK (64 * jf + v)) (fun k => q_ke uCe uA uB uM uCa uL nc np (64 * jf + v) k) 9) nv) 511) (hKN : g_K dC dI [(cI, .int), (cZ, .boolean), (cQ, (.object "SettingSearch$Answers"))] s)
    (kx_140 : ∀ (k : Nat) (_ : -1 = q_nr (q_cl (q_tr (fun j => q_it uM nc np j) 9) (fun z => q_cb (fun v => q_ca z (uK (64 * jf + v)) (fun k => q_ke uCe uA uB uM uCa uL nc np (64 * jf + v) k) 9) nv) 511) k1 9 0 0) (H : Heap) (locs : List Loc), va_P (dC, dI) vw_cls [(b0, .inr (1, [.int rc, .ref bS, .ref bC, .int rv, .ref bW, .int rp, .ref bCe, .ref bA, .ref bB, .ref bM, .int rf, .ref bG, .ref bK, .ref bCa, .ref bL, .int rd, .int rg, .int re, .ref bO, .int rl, .int rq, .int rb, .long rz])), (bCe, .inl (cI, 4, .inl uCe)), (bA, .inl (cI, 4, .inl uA)), (bB, .inl (cI, 4, .inl uB)), (bM, .inl (cI, 5, .inl uM)), (bK, .inl (cZ, 256, .inl uK)), (bCa, .inl (cI, 2304, .inl uCa)), (bL, .inl (cI, 1280, .inl uL))] H → va_D A [(b0, .inr (1, [.int rc, .ref bS, .ref bC, .int rv, .ref bW, .int rp, .ref bCe, .ref bA, .ref bB, .ref bM, .int rf, .ref bG, .ref bK, .ref bCa, .ref bL, .int rd, .int rg, .int re, .ref bO, .int rl, .int rq, .int rb, .long rz])), (bCe, .inl (cI, 4, .inl uCe)), (bA, .inl (cI, 4, .inl uA)), (bB, .inl (cI, 4, .inl uB)), (bM, .inl (cI, 5, .inl uM)), (bK, .inl (cZ, 256, .inl uK)), (bCa, .inl (cI, 2304, .inl uCa)), (bL, .inl (cI, 1280, .inl uL))] → va_S A s.heap H locs → ∀ (ls : Array Slot), lv_has ls 6 [] → W p l e ({ frames := 2, cells := 0, slots := 0, locals := 50 } : Room) s m args below meth c H locs 0 0 Q (F0 m 140 ls []))
    (kx_128 : ∀ (k : Nat) (xk : Int32) (_ : xk = nI k) (_ : q_nr (q_cl (q_tr (fun j => q_it uM nc np j) 9) (fun z => q_cb (fun v => q_ca z (uK (64 * jf + v)) (fun k => q_ke uCe uA uB uM uCa uL nc np (64 * jf + v) k) 9) nv) 511) k1 9 0 0 = nI k) (H : Heap) (locs : List Loc), va_P (dC, dI) vw_cls [(b0, .inr (1, [.int rc, .ref bS, .ref bC, .int rv, .ref bW, .int rp, .ref bCe, .ref bA, .ref bB, .ref bM, .int rf, .ref bG, .ref bK, .ref bCa, .ref bL, .int rd, .int rg, .int re, .ref bO, .int rl, .int rq, .int rb, .long rz])), (bCe, .inl (cI, 4, .inl uCe)), (bA, .inl (cI, 4, .inl uA)), (bB, .inl (cI, 4, .inl uB)), (bM, .inl (cI, 5, .inl uM)), (bK, .inl (cZ, 256, .inl uK)), (bCa, .inl (cI, 2304, .inl uCa)), (bL, .inl (cI, 1280, .inl uL))] H → va_D A [(b0, .inr (1, [.int rc, .ref bS, .ref bC, .int rv, .ref bW, .int rp, .ref bCe, .ref bA, .ref bB, .ref bM, .int rf, .ref bG, .ref bK, .ref bCa, .ref bL, .int rd, .int rg, .int re, .ref bO, .int rl, .int rq, .int rb, .long rz])), (bCe, .inl (cI, 4, .inl uCe)), (bA, .inl (cI, 4, .inl uA)), (bB, .inl (cI, 4, .inl uB)), (bM, .inl (cI, 5, .inl uM)), (bK, .inl (cZ, 256, .inl uK)), (bCa, .inl (cI, 2304, .inl uCa)), (bL, .inl (cI, 1280, .inl uL))] → va_S A s.heap H locs → ∀ (ls : Array Slot), lv_has ls 6 [(5, .int xk)] → W p l e ({ frames := 2, cells := 0, slots := 0, locals := 50 } : Room) s m args below meth c H locs 0 0 Q (F0 m 128 ls [])) :
    ∀ (n : Nat) (k : Nat) (xk : Int32) (ps : Int32) (_ : k ≤ 9) (_ : xk = nI k) (_ : q_nr (q_cl (q_tr (fun j => q_it uM nc np j) 9) (fun z => q_cb (fun v => q_ca z (uK (64 * jf + v)) (fun k => q_ke uCe uA uB uM uCa uL nc np (64 * jf + v) k) 9) nv) 511) k1 (9 - k) k ps = q_nr (q_cl (q_tr (fun j => q_it uM nc np j) 9) (fun z => q_cb (fun v => q_ca z (uK (64 * jf + v)) (fun k => q_ke uCe uA uB uM uCa uL nc np (64 * jf + v) k) 9) nv) 511) k1 9 0 0) (_ : 9 - k < n) (H : Heap) (locs : List Loc), va_P (dC, dI) vw_cls [(b0, .inr (1, [.int rc, .ref bS, .ref bC, .int rv, .ref bW, .int rp, .ref bCe, .ref bA, .ref bB, .ref bM, .int rf, .ref bG, .ref bK, .ref bCa, .ref bL, .int rd, .int rg, .int re, .ref bO, .int rl, .int rq, .int rb, .long rz])), (bCe, .inl (cI, 4, .inl uCe)), (bA, .inl (cI, 4, .inl uA)), (bB, .inl (cI, 4, .inl uB)), (bM, .inl (cI, 5, .inl uM)), (bK, .inl (cZ, 256, .inl uK)), (bCa, .inl (cI, 2304, .inl uCa)), (bL, .inl (cI, 1280, .inl uL))] H → va_D A [(b0, .inr (1, [.int rc, .ref bS, .ref bC, .int rv, .ref bW, .int rp, .ref bCe, .ref bA, .ref bB, .ref bM, .int rf, .ref bG, .ref bK, .ref bCa, .ref bL, .int rd, .int rg, .int re, .ref bO, .int rl, .int rq, .int rb, .long rz])), (bCe, .inl (cI, 4, .inl uCe)), (bA, .inl (cI, 4, .inl uA)), (bB, .inl (cI, 4, .inl uB)), (bM, .inl (cI, 5, .inl uM)), (bK, .inl (cZ, 256, .inl uK)), (bCa, .inl (cI, 2304, .inl uCa)), (bL, .inl (cI, 1280, .inl uL))] → va_S A s.heap H locs → ∀ (ls : Array Slot), lv_has ls 6 [(0, .ref b0), (1, .int k1), (3, .int cls), (4, .int ps), (5, .int xk)] → W p l e ({ frames := 2, cells := 0, slots := 0, locals := 50 } : Room) s m args below meth c H locs 0 0 Q (F0 m 105 ls []) := by
  obtain ⟨hK, hN⟩ := id hKN
  intro n
  induction n with
  | zero =>
    intro k xk ps hk exk hna hm
    exact absurd hm (Nat.not_lt_zero _)
  | succ n ih =>
    intro k xk ps hk exk hna hm H locs hP hD hS ls hl
    refine lv_iload hx hb d_Ref_clash_105 (lv_at hl 4 rfl) ?_
    refine lv_bipush (v := 9) hx hb d_Ref_clash_107 (by decide) ?_
    refine lv_icmp_ge (tgt := 140) hx hb d_Ref_clash_109 (by decide) (fun c_1 => ?_) (fun c_1 => ?_)
    · skip
      have hendk := lp_ge (N := 9) c_1 exk rfl hk (by omega)
      exact kx_140 k (by rw [← hna, hendk]; rfl) H locs (hP.sub [0, 1, 2, 3, 4, 5, 6, 7] rfl) (hD.sub [0, 1, 2, 3, 4, 5, 6, 7] (by decide) rfl) hS ls (lv_sub hl [] rfl)
    · skip
      have hltk := lp_lt (N := 9) c_1 exk rfl (by omega)
      refine lv_iload_n hx hb d_Ref_clash_112 rfl (lv_at hl 2 rfl) ?_
      refine lv_iload hx hb d_Ref_clash_113 (lv_at hl 4 rfl) ?_
      refine lv_ishr hx hb d_Ref_clash_115 ?_
      refine lv_topi (fun v_2 ev_2 => ?_)
      refine lv_iconst (v := 1) hx hb d_Ref_clash_116 (by decide) ?_
      refine lv_iand hx hb d_Ref_clash_117 ?_
      refine lv_topi (fun v_3 ev_3 => ?_)
      refine lv_iconst (v := 1) hx hb d_Ref_clash_118 (by decide) ?_
      refine lv_icmp_ne (tgt := 134) hx hb d_Ref_clash_119 (by decide) (fun c_4 => ?_) (fun c_4 => ?_)
      · skip
        have cs : ¬ ((q_cl (q_tr (fun j => q_it uM nc np j) 9) (fun z => q_cb (fun v => q_ca z (uK (64 * jf + v)) (fun k => q_ke uCe uA uB uM uCa uL nc np (64 * jf + v) k) 9) nv) 511) >>> (nI k &&& 31)) &&& 1 = 1 := by have q := c_4; simp only [ev_2, ev_3, exk, ecs] at q; exact q
        obtain ⟨v_5, ev_5⟩ : ∃ y : Int32, y = xk + 1 := ⟨_, rfl⟩
        refine lv_iinc (v := v_5) (lv' := [(5, .int v_5), (0, .ref b0), (1, .int k1), (3, .int cls), (4, .int ps)]) hx hb d_Ref_clash_134 hl (k := 4) rfl (by rw [ev_5]; rfl) (by decide) rfl (fun ls hl => ?_)
        refine lv_goto (tgt := 105) hx hb d_Ref_clash_137 (by decide) ?_
        exact ih (k + 1) v_5 ps hltk (by rw [ev_5, exk]; exact nI_1 k) (by rw [← hna, show 9 - k = (9 - (k + 1)) + 1 by omega]; rw [q_nr, if_pos cs]) (by omega) H locs (hP.sub [0, 1, 2, 3, 4, 5, 6, 7] rfl) (hD.sub [0, 1, 2, 3, 4, 5, 6, 7] (by decide) rfl) hS ls (lv_sub hl [1, 2, 3, 4, 0] rfl)
      · skip
        have cs : ¬ ¬ ((q_cl (q_tr (fun j => q_it uM nc np j) 9) (fun z => q_cb (fun v => q_ca z (uK (64 * jf + v)) (fun k => q_ke uCe uA uB uM uCa uL nc np (64 * jf + v) k) 9) nv) 511) >>> (nI k &&& 31)) &&& 1 = 1 := by have q := c_4; simp only [ev_2, ev_3, exk, ecs] at q; exact fun z => z q
        refine lv_iload hx hb d_Ref_clash_122 (lv_at hl 3 rfl) ?_
        refine lv_iload_n hx hb d_Ref_clash_124 rfl (lv_at hl 1 rfl) ?_
        refine lv_icmp_ne (tgt := 131) hx hb d_Ref_clash_125 (by decide) (fun c_6 => ?_) (fun c_6 => ?_)
        · skip
          have cp : ¬ ps = k1 := c_6
          obtain ⟨v_7, ev_7⟩ : ∃ y : Int32, y = ps + 1 := ⟨_, rfl⟩
          refine lv_iinc (v := v_7) (lv' := [(4, .int v_7), (0, .ref b0), (1, .int k1), (3, .int cls), (5, .int xk)]) hx hb d_Ref_clash_131 hl (k := 3) rfl (by rw [ev_7]; rfl) (by decide) rfl (fun ls hl => ?_)
          obtain ⟨v_8, ev_8⟩ : ∃ y : Int32, y = xk + 1 := ⟨_, rfl⟩
          refine lv_iinc (v := v_8) (lv' := [(5, .int v_8), (4, .int v_7), (0, .ref b0), (1, .int k1), (3, .int cls)]) hx hb d_Ref_clash_134 hl (k := 4) rfl (by rw [ev_8]; rfl) (by decide) rfl (fun ls hl => ?_)
          refine lv_goto (tgt := 105) hx hb d_Ref_clash_137 (by decide) ?_
          exact ih (k + 1) v_8 v_7 hltk (by rw [ev_8, exk]; exact nI_1 k) (by rw [← hna, show 9 - k = (9 - (k + 1)) + 1 by omega, ev_7]; rw [q_nr, if_neg cs, if_neg cp]) (by omega) H locs (hP.sub [0, 1, 2, 3, 4, 5, 6, 7] rfl) (hD.sub [0, 1, 2, 3, 4, 5, 6, 7] (by decide) rfl) hS ls (lv_sub hl [2, 3, 4, 1, 0] rfl)
        · skip
          have cp : ps = k1 := c_6
          have hfin : q_nr (q_cl (q_tr (fun j => q_it uM nc np j) 9) (fun z => q_cb (fun v => q_ca z (uK (64 * jf + v)) (fun k => q_ke uCe uA uB uM uCa uL nc np (64 * jf + v) k) 9) nv) 511) k1 9 0 0 = nI k := by rw [← hna, show 9 - k = (9 - (k + 1)) + 1 by omega, q_nr, if_neg cs, if_pos cp]
          exact kx_128 k xk exk hfin H locs (hP.sub [0, 1, 2, 3, 4, 5, 6, 7] rfl) (hD.sub [0, 1, 2, 3, 4, 5, 6, 7] (by decide) rfl) hS ls (lv_sub hl [4] rfl)
set_option maxHeartbeats 4000000 in
set_option maxRecDepth 100000 in
/-- the reference: clash -/
theorem m_clash (l : Launch) (dC : Nat → ClassId) (dI : Nat → Nat → Nat) (sz : Nat) (cI : ClassId) (cZ : ClassId) (cQ : ClassId) (b0 : Nat) (rc : Int32) (bS : Nat) (bC : Nat) (rv : Int32) (bW : Nat) (rp : Int32) (bCe : Nat) (bA : Nat) (bB : Nat) (bM : Nat) (rf : Int32) (bG : Nat) (bK : Nat) (bCa : Nat) (bL : Nat) (rd : Int32) (rg : Int32) (re : Int32) (bO : Nat) (rl : Int32) (rq : Int32) (rb : Int32) (rz : Int64) (uCe : Nat → Int32) (uA : Nat → Int32) (uB : Nat → Int32) (uM : Nat → Int32) (uK : Nat → Int32) (uCa : Nat → Int32) (uL : Nat → Int32) (k1 : Int32) (nc : Nat) (nv : Nat) (np : Nat) (jf : Nat) (hrc : rc = nI nc) (hnc : nc ≤ 5) (hrv : rv = nI nv) (hnv : nv ≤ 64) (hrp : rp = nI np) (hnp : np ≤ 4) (hrd : rd = nI jf) (hjf : jf < 4) (hCe : q_okCe uCe np) (hre : ¬ re = 0) : Met l y_Ref_clash w_Ref_clash ({ frames := 2, cells := 0, slots := 0, locals := 50 } : Room) (va_Pc [.ref b0, .int k1] (fun U => U.heap.size = sz ∧ va_P (dC, dI) vw_cls [(b0, .inr (1, [.int rc, .ref bS, .ref bC, .int rv, .ref bW, .int rp, .ref bCe, .ref bA, .ref bB, .ref bM, .int rf, .ref bG, .ref bK, .ref bCa, .ref bL, .int rd, .int rg, .int re, .ref bO, .int rl, .int rq, .int rb, .long rz])), (bCe, .inl (cI, 4, .inl uCe)), (bA, .inl (cI, 4, .inl uA)), (bB, .inl (cI, 4, .inl uB)), (bM, .inl (cI, 5, .inl uM)), (bK, .inl (cZ, 256, .inl uK)), (bCa, .inl (cI, 2304, .inl uCa)), (bL, .inl (cI, 1280, .inl uL))] U.heap ∧ g_K dC dI [(cI, .int), (cZ, .boolean), (cQ, (.object "SettingSearch$Answers"))] U ∧ va_D (fun _ => True) [(b0, .inr (1, [.int rc, .ref bS, .ref bC, .int rv, .ref bW, .int rp, .ref bCe, .ref bA, .ref bB, .ref bM, .int rf, .ref bG, .ref bK, .ref bCa, .ref bL, .int rd, .int rg, .int re, .ref bO, .int rl, .int rq, .int rb, .long rz])), (bCe, .inl (cI, 4, .inl uCe)), (bA, .inl (cI, 4, .inl uA)), (bB, .inl (cI, 4, .inl uB)), (bM, .inl (cI, 5, .inl uM)), (bK, .inl (cZ, 256, .inl uK)), (bCa, .inl (cI, 2304, .inl uCa)), (bL, .inl (cI, 1280, .inl uL))])) (va_Qi (fun (r : Int32) (u : Unit) => r = q_nr (q_cl (q_tr (fun j => q_it uM nc np j) 9) (fun z => q_cb (fun v => q_ca z (uK (64 * jf + v)) (fun k => q_ke uCe uA uB uM uCa uL nc np (64 * jf + v) k) 9) nv) 511) k1 9 0 0) (fun (u : Unit) (t : State) => va_P (dC, dI) vw_cls [(b0, .inr (1, [.int rc, .ref bS, .ref bC, .int rv, .ref bW, .int rp, .ref bCe, .ref bA, .ref bB, .ref bM, .int rf, .ref bG, .ref bK, .ref bCa, .ref bL, .int rd, .int rg, .int re, .ref bO, .int rl, .int rq, .int rb, .long rz])), (bCe, .inl (cI, 4, .inl uCe)), (bA, .inl (cI, 4, .inl uA)), (bB, .inl (cI, 4, .inl uB)), (bM, .inl (cI, 5, .inl uM)), (bK, .inl (cZ, 256, .inl uK)), (bCa, .inl (cI, 2304, .inl uCa)), (bL, .inl (cI, 1280, .inl uL))] t.heap ∧ va_D (va_A [(b0, .inr (1, [.int rc, .ref bS, .ref bC, .int rv, .ref bW, .int rp, .ref bCe, .ref bA, .ref bB, .ref bM, .int rf, .ref bG, .ref bK, .ref bCa, .ref bL, .int rd, .int rg, .int re, .ref bO, .int rl, .int rq, .int rb, .long rz])), (bCe, .inl (cI, 4, .inl uCe)), (bA, .inl (cI, 4, .inl uA)), (bB, .inl (cI, 4, .inl uB)), (bM, .inl (cI, 5, .inl uM)), (bK, .inl (cZ, 256, .inl uK)), (bCa, .inl (cI, 2304, .inl uCa)), (bL, .inl (cI, 1280, .inl uL))] sz) [(b0, .inr (1, [.int rc, .ref bS, .ref bC, .int rv, .ref bW, .int rp, .ref bCe, .ref bA, .ref bB, .ref bM, .int rf, .ref bG, .ref bK, .ref bCa, .ref bL, .int rd, .int rg, .int re, .ref bO, .int rl, .int rq, .int rb, .long rz])), (bCe, .inl (cI, 4, .inl uCe)), (bA, .inl (cI, 4, .inl uA)), (bB, .inl (cI, 4, .inl uB)), (bM, .inl (cI, 5, .inl uM)), (bK, .inl (cZ, 256, .inl uK)), (bCa, .inl (cI, 2304, .inl uCa)), (bL, .inl (cI, 1280, .inl uL))]) (va_A [(b0, .inr (1, [.int rc, .ref bS, .ref bC, .int rv, .ref bW, .int rp, .ref bCe, .ref bA, .ref bB, .ref bM, .int rf, .ref bG, .ref bK, .ref bCa, .ref bL, .int rd, .int rg, .int re, .ref bO, .int rl, .int rq, .int rb, .long rz])), (bCe, .inl (cI, 4, .inl uCe)), (bA, .inl (cI, 4, .inl uA)), (bB, .inl (cI, 4, .inl uB)), (bM, .inl (cI, 5, .inl uM)), (bK, .inl (cZ, 256, .inl uK)), (bCa, .inl (cI, 2304, .inl uCa)), (bL, .inl (cI, 1280, .inl uL))] sz)) 0 0 (va_A [(b0, .inr (1, [.int rc, .ref bS, .ref bC, .int rv, .ref bW, .int rp, .ref bCe, .ref bA, .ref bB, .ref bM, .int rf, .ref bG, .ref bK, .ref bCa, .ref bL, .int rd, .int rg, .int re, .ref bO, .int rl, .int rq, .int rb, .long rz])), (bCe, .inl (cI, 4, .inl uCe)), (bA, .inl (cI, 4, .inl uA)), (bB, .inl (cI, 4, .inl uB)), (bM, .inl (cI, 5, .inl uM)), (bK, .inl (cZ, 256, .inl uK)), (bCa, .inl (cI, 2304, .inl uCa)), (bL, .inl (cI, 1280, .inl uL))] sz) := by
  refine Met.ofW (cc := b_Ref_clash) (maxL := 6) (ret := (some .int)) (by decide) rfl ?_
  intro p e s m args below meth c s₁ B hml hv
  obtain ⟨rfl, hsz, hP, hKN, hD0⟩ := hv
  obtain ⟨hK, hN⟩ := id hKN
  have hx := B.exec
  have hb := B.bytes
  have hr := B.returns
  have hts0 := atoms_spec (ws := w_Ref_clash) B.pre
  have hts : ∀ w ∈ lw_g, w.before _ s = true := fun w h => hts0 w (List.mem_cons_of_mem _ h)
  have hown : s.vm.findClass R_Ref = some m.cls := findClass_of_methodNamed B.named
  have hlocks := B.notSynchronized
  subst hsz
  have hD := hD0.self (sz := s.heap.size)
  generalize hAe : va_A [(b0, .inr (1, [.int rc, .ref bS, .ref bC, .int rv, .ref bW, .int rp, .ref bCe, .ref bA, .ref bB, .ref bM, .int rf, .ref bG, .ref bK, .ref bCa, .ref bL, .int rd, .int rg, .int re, .ref bO, .int rl, .int rq, .int rb, .long rz])), (bCe, .inl (cI, 4, .inl uCe)), (bA, .inl (cI, 4, .inl uA)), (bB, .inl (cI, 4, .inl uB)), (bM, .inl (cI, 5, .inl uM)), (bK, .inl (cZ, 256, .inl uK)), (bCa, .inl (cI, 2304, .inl uCa)), (bL, .inl (cI, 1280, .inl uL))] s.heap.size = A at hD ⊢
  have hA : ∀ q : Nat, s.heap.size ≤ q → A q := fun q h => by rw [← hAe]; exact Or.inr h
  have hP : va_P (dC, dI) vw_cls [(b0, .inr (1, [.int rc, .ref bS, .ref bC, .int rv, .ref bW, .int rp, .ref bCe, .ref bA, .ref bB, .ref bM, .int rf, .ref bG, .ref bK, .ref bCa, .ref bL, .int rd, .int rg, .int re, .ref bO, .int rl, .int rq, .int rb, .long rz])), (bCe, .inl (cI, 4, .inl uCe)), (bA, .inl (cI, 4, .inl uA)), (bB, .inl (cI, 4, .inl uB)), (bM, .inl (cI, 5, .inl uM)), (bK, .inl (cZ, 256, .inl uK)), (bCa, .inl (cI, 2304, .inl uCa)), (bL, .inl (cI, 1280, .inl uL))] s.heap := hP
  have hl := lv_entry ([.ref b0, .int k1]) (n := 6) (Nat.le_of_ble_eq_true rfl)
  rw [lg_entry_eq]
  generalize (lg_sl ([.ref b0, .int k1]) ++ List.replicate (6 - (lg_sl ([.ref b0, .int k1])).length) Slot.unset).toArray = ls at hl ⊢
  have hl : lv_has ls 6 [(0, .ref b0), (1, .int k1)] := hl
  refine gw_start (fun H locs hH hlocs => ?_)
  rw [← hH] at hP
  have hS : va_S A s.heap H locs := by rw [hH, hlocs]; exact va_S.rf
  refine lv_aload_n hx hb d_Ref_clash_0 rfl (lv_at hl 0 rfl) ?_
  refine va_get (D := (dC, dI)) (ci := 1) (v := .int re) (C := R_Ref) (T := T_Ref) (N := 23) hx hb hts in_Ref hown hK hP 0 rfl rfl 17 (by decide) (hts _ tw_446) (fun _ h9 => h9) rfl d_Ref_clash_1 ?_
  refine lv_if_ne (tgt := 9) hx hb d_Ref_clash_4 (by decide) (fun c_1 => ?_) (fun c_1 => ?_)
  · skip
    refine lv_iconst (v := 0) hx hb d_Ref_clash_9 (by decide) ?_
    refine lv_istore_n (lv' := [(2, .int 0), (0, .ref b0), (1, .int k1)]) hx hb d_Ref_clash_10 rfl hl (by decide) rfl (fun ls hl => ?_)
    refine lv_iconst (v := 0) hx hb d_Ref_clash_11 (by decide) ?_
    refine lv_istore_n (lv' := [(3, .int 0), (2, .int 0), (0, .ref b0), (1, .int k1)]) hx hb d_Ref_clash_12 rfl hl (by decide) rfl (fun ls hl => ?_)
    refine L_tr hx hb hml hown hts hA cI cZ cQ b0 rc bS bC rv bW rp bCe bA bB bM rf bG bK bCa bL rd rg re bO rl rq rb rz uCe uA uB uM uK uCa uL k1 nc nv np jf hrc hnc hrv hnv hrp hnp hrd hjf hCe hre hKN ?_ (9 - 0 + 1) 0 0 0 (Nat.zero_le _) rfl rfl (Nat.lt_succ_self _) H locs (hP.sub [0, 1, 2, 3, 4, 5, 6, 7] rfl) (hD.sub [0, 1, 2, 3, 4, 5, 6, 7] (by decide) rfl) hS ls (lv_sub hl [2, 3, 1, 0] rfl)
    intro i xi tl hi exi eacc hendi H locs hP hD hS ls hl
    have hl : lv_has ls 6 [(0, .ref b0), (1, .int k1), (2, .int tl), (3, .int xi)] := hl
    have hP : va_P (dC, dI) vw_cls [(b0, .inr (1, [.int rc, .ref bS, .ref bC, .int rv, .ref bW, .int rp, .ref bCe, .ref bA, .ref bB, .ref bM, .int rf, .ref bG, .ref bK, .ref bCa, .ref bL, .int rd, .int rg, .int re, .ref bO, .int rl, .int rq, .int rb, .long rz])), (bCe, .inl (cI, 4, .inl uCe)), (bA, .inl (cI, 4, .inl uA)), (bB, .inl (cI, 4, .inl uB)), (bM, .inl (cI, 5, .inl uM)), (bK, .inl (cZ, 256, .inl uK)), (bCa, .inl (cI, 2304, .inl uCa)), (bL, .inl (cI, 1280, .inl uL))] H := hP
    have hD : va_D A [(b0, .inr (1, [.int rc, .ref bS, .ref bC, .int rv, .ref bW, .int rp, .ref bCe, .ref bA, .ref bB, .ref bM, .int rf, .ref bG, .ref bK, .ref bCa, .ref bL, .int rd, .int rg, .int re, .ref bO, .int rl, .int rq, .int rb, .long rz])), (bCe, .inl (cI, 4, .inl uCe)), (bA, .inl (cI, 4, .inl uA)), (bB, .inl (cI, 4, .inl uB)), (bM, .inl (cI, 5, .inl uM)), (bK, .inl (cZ, 256, .inl uK)), (bCa, .inl (cI, 2304, .inl uCa)), (bL, .inl (cI, 1280, .inl uL))] := hD
    have etl : tl = q_tr (fun j => q_it uM nc np j) 9 := by rw [eacc, hendi]
    refine lv_iconst (v := 0) hx hb d_Ref_clash_43 (by decide) ?_
    refine lv_istore_n (lv' := [(3, .int 0), (0, .ref b0), (1, .int k1), (2, .int tl)]) hx hb d_Ref_clash_44 rfl hl (by decide) rfl (fun ls hl => ?_)
    refine lv_iconst (v := 1) hx hb d_Ref_clash_45 (by decide) ?_
    refine lv_istore (lv' := [(4, .int 1), (3, .int 0), (0, .ref b0), (1, .int k1), (2, .int tl)]) hx hb d_Ref_clash_46 hl (by decide) rfl (fun ls hl => ?_)
    refine L_cl hx hb hml hown hts hA cI cZ cQ b0 rc bS bC rv bW rp bCe bA bB bM rf bG bK bCa bL rd rg re bO rl rq rb rz uCe uA uB uM uK uCa uL k1 nc nv np jf tl hrc hnc hrv hnv hrp hnp hrd hjf hCe hre etl hKN ?_ (512 - 0 + 1) 0 1 0 (by decide) rfl rfl (Nat.lt_succ_self _) H locs (hP.sub [0, 1, 2, 3, 4, 5, 6, 7] rfl) (hD.sub [0, 1, 2, 3, 4, 5, 6, 7] (by decide) rfl) hS ls (lv_sub hl [2, 3, 4, 1, 0] rfl)
    intro j xj cls hj exj ecl hendj H locs hP hD hS ls hl
    have hl : lv_has ls 6 [(0, .ref b0), (1, .int k1), (2, .int tl), (3, .int cls), (4, .int xj)] := hl
    have hP : va_P (dC, dI) vw_cls [(b0, .inr (1, [.int rc, .ref bS, .ref bC, .int rv, .ref bW, .int rp, .ref bCe, .ref bA, .ref bB, .ref bM, .int rf, .ref bG, .ref bK, .ref bCa, .ref bL, .int rd, .int rg, .int re, .ref bO, .int rl, .int rq, .int rb, .long rz])), (bCe, .inl (cI, 4, .inl uCe)), (bA, .inl (cI, 4, .inl uA)), (bB, .inl (cI, 4, .inl uB)), (bM, .inl (cI, 5, .inl uM)), (bK, .inl (cZ, 256, .inl uK)), (bCa, .inl (cI, 2304, .inl uCa)), (bL, .inl (cI, 1280, .inl uL))] H := hP
    have hD : va_D A [(b0, .inr (1, [.int rc, .ref bS, .ref bC, .int rv, .ref bW, .int rp, .ref bCe, .ref bA, .ref bB, .ref bM, .int rf, .ref bG, .ref bK, .ref bCa, .ref bL, .int rd, .int rg, .int re, .ref bO, .int rl, .int rq, .int rb, .long rz])), (bCe, .inl (cI, 4, .inl uCe)), (bA, .inl (cI, 4, .inl uA)), (bB, .inl (cI, 4, .inl uB)), (bM, .inl (cI, 5, .inl uM)), (bK, .inl (cZ, 256, .inl uK)), (bCa, .inl (cI, 2304, .inl uCa)), (bL, .inl (cI, 1280, .inl uL))] := hD
    have ecs : cls = q_cl (q_tr (fun j => q_it uM nc np j) 9) (fun z => q_cb (fun v => q_ca z (uK (64 * jf + v)) (fun k => q_ke uCe uA uB uM uCa uL nc np (64 * jf + v) k) 9) nv) 511 := by rw [ecl, show j = 511 by omega]
    refine lv_iconst (v := 0) hx hb d_Ref_clash_99 (by decide) ?_
    refine lv_istore (lv' := [(4, .int 0), (0, .ref b0), (1, .int k1), (2, .int tl), (3, .int cls)]) hx hb d_Ref_clash_100 hl (by decide) rfl (fun ls hl => ?_)
    refine lv_iconst (v := 0) hx hb d_Ref_clash_102 (by decide) ?_
    refine lv_istore (lv' := [(5, .int 0), (4, .int 0), (0, .ref b0), (1, .int k1), (2, .int tl), (3, .int cls)]) hx hb d_Ref_clash_103 hl (by decide) rfl (fun ls hl => ?_)
    refine L_nr hx hb hml hown hts hA cI cZ cQ b0 rc bS bC rv bW rp bCe bA bB bM rf bG bK bCa bL rd rg re bO rl rq rb rz uCe uA uB uM uK uCa uL k1 nc nv np jf cls hrc hnc hrv hnv hrp hnp hrd hjf hCe hre ecs hKN ?_ ?_ (9 - 0 + 1) 0 0 0 (Nat.zero_le _) rfl rfl (Nat.lt_succ_self _) H locs (hP.sub [0, 1, 2, 3, 4, 5, 6, 7] rfl) (hD.sub [0, 1, 2, 3, 4, 5, 6, 7] (by decide) rfl) hS ls (lv_sub hl [2, 3, 5, 1, 0] rfl)
    · skip
      intro k hfin H locs hP hD hS ls hl
      have hl : lv_has ls 6 [] := hl
      have hP : va_P (dC, dI) vw_cls [(b0, .inr (1, [.int rc, .ref bS, .ref bC, .int rv, .ref bW, .int rp, .ref bCe, .ref bA, .ref bB, .ref bM, .int rf, .ref bG, .ref bK, .ref bCa, .ref bL, .int rd, .int rg, .int re, .ref bO, .int rl, .int rq, .int rb, .long rz])), (bCe, .inl (cI, 4, .inl uCe)), (bA, .inl (cI, 4, .inl uA)), (bB, .inl (cI, 4, .inl uB)), (bM, .inl (cI, 5, .inl uM)), (bK, .inl (cZ, 256, .inl uK)), (bCa, .inl (cI, 2304, .inl uCa)), (bL, .inl (cI, 1280, .inl uL))] H := hP
      have hD : va_D A [(b0, .inr (1, [.int rc, .ref bS, .ref bC, .int rv, .ref bW, .int rp, .ref bCe, .ref bA, .ref bB, .ref bM, .int rf, .ref bG, .ref bK, .ref bCa, .ref bL, .int rd, .int rg, .int re, .ref bO, .int rl, .int rq, .int rb, .long rz])), (bCe, .inl (cI, 4, .inl uCe)), (bA, .inl (cI, 4, .inl uA)), (bB, .inl (cI, 4, .inl uB)), (bM, .inl (cI, 5, .inl uM)), (bK, .inl (cZ, 256, .inl uK)), (bCa, .inl (cI, 2304, .inl uCa)), (bL, .inl (cI, 1280, .inl uL))] := hD
      refine lv_iconst (v := (-1)) hx hb d_Ref_clash_140 (by decide) ?_
      have hP9 := hP.sub (ws' := [(b0, .inr (1, [.int rc, .ref bS, .ref bC, .int rv, .ref bW, .int rp, .ref bCe, .ref bA, .ref bB, .ref bM, .int rf, .ref bG, .ref bK, .ref bCa, .ref bL, .int rd, .int rg, .int re, .ref bO, .int rl, .int rq, .int rb, .long rz])), (bCe, .inl (cI, 4, .inl uCe)), (bA, .inl (cI, 4, .inl uA)), (bB, .inl (cI, 4, .inl uB)), (bM, .inl (cI, 5, .inl uM)), (bK, .inl (cZ, 256, .inl uK)), (bCa, .inl (cI, 2304, .inl uCa)), (bL, .inl (cI, 1280, .inl uL))]) [0, 1, 2, 3, 4, 5, 6, 7] rfl
      have hD9 := hD.sub (ws' := [(b0, .inr (1, [.int rc, .ref bS, .ref bC, .int rv, .ref bW, .int rp, .ref bCe, .ref bA, .ref bB, .ref bM, .int rf, .ref bG, .ref bK, .ref bCa, .ref bL, .int rd, .int rg, .int re, .ref bO, .int rl, .int rq, .int rb, .long rz])), (bCe, .inl (cI, 4, .inl uCe)), (bA, .inl (cI, 4, .inl uA)), (bB, .inl (cI, 4, .inl uB)), (bM, .inl (cI, 5, .inl uM)), (bK, .inl (cZ, 256, .inl uK)), (bCa, .inl (cI, 2304, .inl uCa)), (bL, .inl (cI, 1280, .inl uL))]) [0, 1, 2, 3, 4, 5, 6, 7] (by decide) rfl
      have hpost_2 : ((-1) : Int32) = q_nr (q_cl (q_tr (fun j => q_it uM nc np j) 9) (fun z => q_cb (fun v => q_ca z (uK (64 * jf + v)) (fun k => q_ke uCe uA uB uM uCa uL nc np (64 * jf + v) k) 9) nv) 511) k1 9 0 0 := hfin
      exact W.iret (v := (-1)) hx hb hr (fun t ht hW => ⟨⟨(-1), (), rfl, hpost_2, by rw [ht]; exact hP9, hD9⟩, hS.F ht⟩) hS.2.2 d_Ref_clash_141
    · skip
      intro k xk exk hfin H locs hP hD hS ls hl
      have hl : lv_has ls 6 [(5, .int xk)] := hl
      have hP : va_P (dC, dI) vw_cls [(b0, .inr (1, [.int rc, .ref bS, .ref bC, .int rv, .ref bW, .int rp, .ref bCe, .ref bA, .ref bB, .ref bM, .int rf, .ref bG, .ref bK, .ref bCa, .ref bL, .int rd, .int rg, .int re, .ref bO, .int rl, .int rq, .int rb, .long rz])), (bCe, .inl (cI, 4, .inl uCe)), (bA, .inl (cI, 4, .inl uA)), (bB, .inl (cI, 4, .inl uB)), (bM, .inl (cI, 5, .inl uM)), (bK, .inl (cZ, 256, .inl uK)), (bCa, .inl (cI, 2304, .inl uCa)), (bL, .inl (cI, 1280, .inl uL))] H := hP
      have hD : va_D A [(b0, .inr (1, [.int rc, .ref bS, .ref bC, .int rv, .ref bW, .int rp, .ref bCe, .ref bA, .ref bB, .ref bM, .int rf, .ref bG, .ref bK, .ref bCa, .ref bL, .int rd, .int rg, .int re, .ref bO, .int rl, .int rq, .int rb, .long rz])), (bCe, .inl (cI, 4, .inl uCe)), (bA, .inl (cI, 4, .inl uA)), (bB, .inl (cI, 4, .inl uB)), (bM, .inl (cI, 5, .inl uM)), (bK, .inl (cZ, 256, .inl uK)), (bCa, .inl (cI, 2304, .inl uCa)), (bL, .inl (cI, 1280, .inl uL))] := hD
      refine lv_iload hx hb d_Ref_clash_128 (lv_at hl 0 rfl) ?_
      have hP9 := hP.sub (ws' := [(b0, .inr (1, [.int rc, .ref bS, .ref bC, .int rv, .ref bW, .int rp, .ref bCe, .ref bA, .ref bB, .ref bM, .int rf, .ref bG, .ref bK, .ref bCa, .ref bL, .int rd, .int rg, .int re, .ref bO, .int rl, .int rq, .int rb, .long rz])), (bCe, .inl (cI, 4, .inl uCe)), (bA, .inl (cI, 4, .inl uA)), (bB, .inl (cI, 4, .inl uB)), (bM, .inl (cI, 5, .inl uM)), (bK, .inl (cZ, 256, .inl uK)), (bCa, .inl (cI, 2304, .inl uCa)), (bL, .inl (cI, 1280, .inl uL))]) [0, 1, 2, 3, 4, 5, 6, 7] rfl
      have hD9 := hD.sub (ws' := [(b0, .inr (1, [.int rc, .ref bS, .ref bC, .int rv, .ref bW, .int rp, .ref bCe, .ref bA, .ref bB, .ref bM, .int rf, .ref bG, .ref bK, .ref bCa, .ref bL, .int rd, .int rg, .int re, .ref bO, .int rl, .int rq, .int rb, .long rz])), (bCe, .inl (cI, 4, .inl uCe)), (bA, .inl (cI, 4, .inl uA)), (bB, .inl (cI, 4, .inl uB)), (bM, .inl (cI, 5, .inl uM)), (bK, .inl (cZ, 256, .inl uK)), (bCa, .inl (cI, 2304, .inl uCa)), (bL, .inl (cI, 1280, .inl uL))]) [0, 1, 2, 3, 4, 5, 6, 7] (by decide) rfl
      have hpost_3 : (xk : Int32) = q_nr (q_cl (q_tr (fun j => q_it uM nc np j) 9) (fun z => q_cb (fun v => q_ca z (uK (64 * jf + v)) (fun k => q_ke uCe uA uB uM uCa uL nc np (64 * jf + v) k) 9) nv) 511) k1 9 0 0 := by rw [hfin]; exact exk
      exact W.iret (v := xk) hx hb hr (fun t ht hW => ⟨⟨xk, (), rfl, hpost_3, by rw [ht]; exact hP9, hD9⟩, hS.F ht⟩) hS.2.2 d_Ref_clash_130
  · skip
    exact absurd c_1 hre
