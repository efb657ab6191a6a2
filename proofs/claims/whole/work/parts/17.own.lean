def q_mx (fW : Nat → Int32) : Nat → Int32
  | 0 => 0
  | k + 1 => if q_mx fW k < fW k then fW k else q_mx fW k
def q_wg (kept told : Int32) (wo : Int64) (v : Int32) (s : Int32 × Int64) : Int32 × Int64 := if kept = told then (if s.1 = -1 then (v, wo) else if wo ≤ s.2 then s else (v, wo)) else s
def q_go (fK fOr : Nat → Int32) (bnd : Int64) (wg : Int32 → Int32 × Int64 → Int32 × Int64) : Nat → Nat → Int32 × Int64 → Nat × (Int32 × Int64) × Bool
  | 0, a, s => (a, s, false)
  | n + 1, a, s => if s.2 = bnd then (a, s, false) else if fK (fOr a).toNatClampNeg = 0 then (a, s, true) else q_go fK fOr bnd wg n (a + 1) (wg (fOr a) s)
def q_gw (fK : Nat → Int32) (kept : Nat → Int32) (wo : Nat → Int64) (set : Int32) : Nat → Int64
  | 0 => -9223372036854775808
  | v + 1 => if fK v = 0 then q_gw fK kept wo set v else if kept v &&& set = set then (if wo v < q_gw fK kept wo set v then q_gw fK kept wo set v else wo v) else q_gw fK kept wo set v
def q_lk (fK : Nat → Int32) (kept : Nat → Int32) (f : Nat → Int32) : Nat → (Nat → Int32) × Nat
  | 0 => (f, 0)
  | v + 1 => if fK v = 0 then q_lk fK kept f v else (upd (q_lk fK kept f v).1 (q_lk fK kept f v).2 (kept v), (q_lk fK kept f v).2 + 1)
theorem q_lk_le (fK kept f : Nat → Int32) : ∀ v, (q_lk fK kept f v).2 ≤ v
  | 0 => Nat.le_refl _
  | v + 1 => by
    have ih := q_lk_le fK kept f v
    simp only [q_lk]
    split
    · omega
    · show (q_lk fK kept f v).2 + 1 ≤ v + 1; omega
def q_nk (f : Nat → Int32) (set : Int32) : Nat → Bool
  | 0 => true
  | k + 1 => q_nk f set k && decide (¬ f k &&& set = set)
theorem q_nk_no {f : Nat → Int32} {set : Int32} {i : Nat} (h : f i &&& set = set) : ∀ n, i < n → q_nk f set n = false
  | 0, q => absurd q (Nat.not_lt_zero _)
  | n + 1, q => by
    rcases Nat.lt_or_ge i n with r | r
    · simp [q_nk, q_nk_no h n r]
    · have e : n = i := by omega
      subst e
      simp [q_nk, h]
def q_fc (told : Int32) (nk : Int32 → Bool) : Nat → Int32 × Int32
  | 0 => (10, 0)
  | k + 1 => if nI (k + 1) &&& told = nI (k + 1) ∧ ¬ (q_fc told nk k).1 ≤ q_bc (nI (k + 1)) ∧ nk (nI (k + 1)) = true then (q_bc (nI (k + 1)), nI (k + 1)) else q_fc told nk k
def q_na (set k : Int32) : Nat → Nat → Int32 → Int32
  | 0, _, _ => -1
  | n + 1, j, ps => if set &&& (1 <<< (nI j &&& 31)) = 0 then q_na set k n (j + 1) ps else if ps = k then nI j else q_na set k n (j + 1) (ps + 1)
set_option maxHeartbeats 4000000 in
set_option maxRecDepth 100000 in
theorem L_bo {p : Program} {l : Launch} {e : Env} {s : State} {m : MethodId} {args : Array Value} {below : List Frame} {meth : Method} {c : Code} {Q : State → Prop} {A : Nat → Prop} (hx : p.tables.exec = Jvm.exec) (hb : c.code = b_SettingSearch_boundOf) (hml : c.maxLocals = 4) (hown : s.vm.findClass R_SettingSearch = some m.cls) (hts : ∀ w ∈ lw_g, w.before args s = true) (hA : ∀ q, s.heap.size ≤ q → A q) {dC : Nat → ClassId} {dI : Nat → Nat → Nat} (cI : ClassId) (cZ : ClassId) (cQ : ClassId) (a0 : Nat) (aM : Nat) (aR : Nat) (aW : Nat) (aF : Nat) (aS : Nat) (aKR : Nat) (fW : Nat → Int32) (aA : Nat) (aK : Nat) (aG : Nat) (aO : Nat) (fd : Int64) (ct : Int32)    (hKN : g_K dC dI [(cI, .int), (cZ, .boolean), (cQ, (.object "SettingSearch$Answers"))] s)
    (kx_27 : ∀ (i : Nat) (xi : Int32) (acc : Int32) (_ : i ≤ 9) (_ : xi = nI i) (_ : acc = q_mx fW i) (_ : i = 9) (H : Heap) (locs : List Loc), va_P (dC, dI) vw_cls [(a0, .inr (0, [.ref aM, .ref aR, .ref aW, .ref aF, .ref aS, .ref aKR])), (aW, .inl (cI, 9, .inl fW)), (aA, .inr (2, [.long fd, .int ct, .ref aK, .ref aG, .ref aO]))] H → va_D A [(a0, .inr (0, [.ref aM, .ref aR, .ref aW, .ref aF, .ref aS, .ref aKR])), (aW, .inl (cI, 9, .inl fW)), (aA, .inr (2, [.long fd, .int ct, .ref aK, .ref aG, .ref aO]))] → va_S A s.heap H locs → ∀ (ls : Array Slot), lv_has ls 4 [(0, .ref a0), (1, .ref aA), (2, .int acc), (3, .int xi)] → W p l e ({ frames := 1, cells := 0, slots := 0, locals := 23 } : Room) s m args below meth c H locs 0 0 Q (F0 m 27 ls [])) :
    ∀ (n : Nat) (i : Nat) (xi : Int32) (acc : Int32) (_ : i ≤ 9) (_ : xi = nI i) (_ : acc = q_mx fW i) (_ : 9 - i < n) (H : Heap) (locs : List Loc), va_P (dC, dI) vw_cls [(a0, .inr (0, [.ref aM, .ref aR, .ref aW, .ref aF, .ref aS, .ref aKR])), (aW, .inl (cI, 9, .inl fW)), (aA, .inr (2, [.long fd, .int ct, .ref aK, .ref aG, .ref aO]))] H → va_D A [(a0, .inr (0, [.ref aM, .ref aR, .ref aW, .ref aF, .ref aS, .ref aKR])), (aW, .inl (cI, 9, .inl fW)), (aA, .inr (2, [.long fd, .int ct, .ref aK, .ref aG, .ref aO]))] → va_S A s.heap H locs → ∀ (ls : Array Slot), lv_has ls 4 [(0, .ref a0), (1, .ref aA), (2, .int acc), (3, .int xi)] → W p l e ({ frames := 1, cells := 0, slots := 0, locals := 23 } : Room) s m args below meth c H locs 0 0 Q (F0 m 4 ls []) := by
  obtain ⟨hK, hN⟩ := id hKN
  intro n
  induction n with
  | zero =>
    intro i xi acc hi exi eacc hm
    exact absurd hm (Nat.not_lt_zero _)
  | succ n ih =>
    intro i xi acc hi exi eacc hm H locs hP hD hS ls hl
    refine lv_iload_n hx hb d_SettingSearch_boundOf_4 rfl (lv_at hl 3 rfl) ?_
    refine lv_bipush (v := 9) hx hb d_SettingSearch_boundOf_5 (by decide) ?_
    refine lv_icmp_ge (tgt := 27) hx hb d_SettingSearch_boundOf_7 (by decide) (fun c_1 => ?_) (fun c_1 => ?_)
    · skip
      have hendi := lp_ge (N := 9) c_1 exi rfl hi (by omega)
      exact kx_27 i xi acc hi exi eacc hendi H locs (hP.sub [0, 1, 2] rfl) (hD.sub [0, 1, 2] (by decide) rfl) hS ls (lv_sub hl [0, 1, 2, 3] rfl)
    · skip
      have hlti := lp_lt (N := 9) c_1 exi rfl (by omega)
      refine lv_iload_n hx hb d_SettingSearch_boundOf_10 rfl (lv_at hl 2 rfl) ?_
      refine lv_aload_n hx hb d_SettingSearch_boundOf_11 rfl (lv_at hl 0 rfl) ?_
      refine va_get (D := (dC, dI)) (ci := 0) (v := .ref aW) (C := R_SettingSearch) (T := T_SettingSearch) (N := 6) hx hb hts in_SettingSearch hown hK hP 0 rfl rfl 2 (by decide) (hts _ tw_181) (fun _ h9 => h9) rfl d_SettingSearch_boundOf_12 ?_
      refine lv_iload_n hx hb d_SettingSearch_boundOf_15 rfl (lv_at hl 3 rfl) ?_
      have eh_2 : xi = nI (i) := exi
      have bh_2 : i < 9 := by omega
      have h_2 : vp_in xi 9 := by rw [eh_2]; exact vp_in_nI bh_2 (by decide)
      have kh_2 : xi.toNatClampNeg = i := by rw [eh_2]; exact nI_clamp (by omega)
      refine va_iald hx hb hK hP 1 0 rfl rfl h_2 d_SettingSearch_boundOf_16 ?_
      rw [kh_2]
      refine lv_topi (fun v_3 ev_3 => ?_)
      refine va_mmax hx hb (hml.trans hl.1.symm) hown (hts _ tw_288) (hts _ tw_289) (hts _ tw_30) (hts _ tw_290) (Nat.le_of_ble_eq_true rfl) (Nat.le_of_ble_eq_true rfl) (Nat.le_of_ble_eq_true rfl) (Nat.le_of_ble_eq_true rfl) d_SettingSearch_boundOf_17 ?_
      refine lv_topi (fun v_4 ev_4 => ?_)
      refine lv_istore_n (lv' := [(2, .int v_4), (0, .ref a0), (1, .ref aA), (3, .int xi)]) hx hb d_SettingSearch_boundOf_20 rfl hl (by decide) rfl (fun ls hl => ?_)
      obtain ⟨v_5, ev_5⟩ : ∃ y : Int32, y = xi + 1 := ⟨_, rfl⟩
      refine lv_iinc (v := v_5) (lv' := [(3, .int v_5), (2, .int v_4), (0, .ref a0), (1, .ref aA)]) hx hb d_SettingSearch_boundOf_21 hl (k := 3) rfl (by rw [ev_5]; rfl) (by decide) rfl (fun ls hl => ?_)
      refine lv_goto (tgt := 4) hx hb d_SettingSearch_boundOf_24 (by decide) ?_
      exact ih (i + 1) v_5 v_4 hlti (by rw [ev_5, exi]; exact nI_1 i) (by simp only [ev_3, ev_4, ev_5, eacc]; rfl) (by omega) H locs (hP.sub [0, 1, 2] rfl) (hD.sub [0, 1, 2] (by decide) rfl) hS ls (lv_sub hl [2, 3, 1, 0] rfl)
set_option maxHeartbeats 4000000 in
set_option maxRecDepth 100000 in
/-- boundOf -/
theorem k_bo (l : Launch) (dC : Nat → ClassId) (dI : Nat → Nat → Nat) (sz : Nat) (cI : ClassId) (cZ : ClassId) (cQ : ClassId) (a0 : Nat) (aM : Nat) (aR : Nat) (aW : Nat) (aF : Nat) (aS : Nat) (aKR : Nat) (fW : Nat → Int32) (aA : Nat) (aK : Nat) (aG : Nat) (aO : Nat) (fd : Int64) (ct : Int32)  : Met l y_SettingSearch_boundOf w_SettingSearch_boundOf ({ frames := 1, cells := 0, slots := 0, locals := 23 } : Room) (va_Pc [.ref a0, .ref aA] (fun U => U.heap.size = sz ∧ va_P (dC, dI) vw_cls [(a0, .inr (0, [.ref aM, .ref aR, .ref aW, .ref aF, .ref aS, .ref aKR])), (aW, .inl (cI, 9, .inl fW)), (aA, .inr (2, [.long fd, .int ct, .ref aK, .ref aG, .ref aO]))] U.heap ∧ g_K dC dI [(cI, .int), (cZ, .boolean), (cQ, (.object "SettingSearch$Answers"))] U ∧ va_D (fun _ => True) [(a0, .inr (0, [.ref aM, .ref aR, .ref aW, .ref aF, .ref aS, .ref aKR])), (aW, .inl (cI, 9, .inl fW)), (aA, .inr (2, [.long fd, .int ct, .ref aK, .ref aG, .ref aO]))])) (va_Ql (fun (r : Int64) (u : Unit) => r = fd * (q_mx fW 9).toInt64) (fun (u : Unit) (t : State) => va_P (dC, dI) vw_cls [(a0, .inr (0, [.ref aM, .ref aR, .ref aW, .ref aF, .ref aS, .ref aKR])), (aW, .inl (cI, 9, .inl fW)), (aA, .inr (2, [.long fd, .int ct, .ref aK, .ref aG, .ref aO]))] t.heap ∧ va_D (va_A [(a0, .inr (0, [.ref aM, .ref aR, .ref aW, .ref aF, .ref aS, .ref aKR])), (aW, .inl (cI, 9, .inl fW)), (aA, .inr (2, [.long fd, .int ct, .ref aK, .ref aG, .ref aO]))] sz) [(a0, .inr (0, [.ref aM, .ref aR, .ref aW, .ref aF, .ref aS, .ref aKR])), (aW, .inl (cI, 9, .inl fW)), (aA, .inr (2, [.long fd, .int ct, .ref aK, .ref aG, .ref aO]))]) (va_A [(a0, .inr (0, [.ref aM, .ref aR, .ref aW, .ref aF, .ref aS, .ref aKR])), (aW, .inl (cI, 9, .inl fW)), (aA, .inr (2, [.long fd, .int ct, .ref aK, .ref aG, .ref aO]))] sz)) 0 0 (va_A [(a0, .inr (0, [.ref aM, .ref aR, .ref aW, .ref aF, .ref aS, .ref aKR])), (aW, .inl (cI, 9, .inl fW)), (aA, .inr (2, [.long fd, .int ct, .ref aK, .ref aG, .ref aO]))] sz) := by
  refine Met.ofW (cc := b_SettingSearch_boundOf) (maxL := 4) (ret := (some .long)) (by decide) rfl ?_
  intro p e s m args below meth c s₁ B hml hv
  obtain ⟨rfl, hsz, hP, hKN, hD0⟩ := hv
  obtain ⟨hK, hN⟩ := id hKN
  have hx := B.exec
  have hb := B.bytes
  have hr := B.returns
  have hts0 := atoms_spec (ws := w_SettingSearch_boundOf) B.pre
  have hts : ∀ w ∈ lw_g, w.before _ s = true := fun w h => hts0 w (List.mem_cons_of_mem _ h)
  have hown : s.vm.findClass R_SettingSearch = some m.cls := findClass_of_methodNamed B.named
  have hlocks := B.notSynchronized
  subst hsz
  have hD := hD0.self (sz := s.heap.size)
  generalize hAe : va_A [(a0, .inr (0, [.ref aM, .ref aR, .ref aW, .ref aF, .ref aS, .ref aKR])), (aW, .inl (cI, 9, .inl fW)), (aA, .inr (2, [.long fd, .int ct, .ref aK, .ref aG, .ref aO]))] s.heap.size = A at hD ⊢
  have hA : ∀ q : Nat, s.heap.size ≤ q → A q := fun q h => by rw [← hAe]; exact Or.inr h
  have hP : va_P (dC, dI) vw_cls [(a0, .inr (0, [.ref aM, .ref aR, .ref aW, .ref aF, .ref aS, .ref aKR])), (aW, .inl (cI, 9, .inl fW)), (aA, .inr (2, [.long fd, .int ct, .ref aK, .ref aG, .ref aO]))] s.heap := hP
  have hl := lv_entry ([.ref a0, .ref aA]) (n := 4) (Nat.le_of_ble_eq_true rfl)
  rw [lg_entry_eq]
  generalize (lg_sl ([.ref a0, .ref aA]) ++ List.replicate (4 - (lg_sl ([.ref a0, .ref aA])).length) Slot.unset).toArray = ls at hl ⊢
  have hl : lv_has ls 4 [(0, .ref a0), (1, .ref aA)] := hl
  refine gw_start (fun H locs hH hlocs => ?_)
  rw [← hH] at hP
  have hS : va_S A s.heap H locs := by rw [hH, hlocs]; exact va_S.rf
  refine lv_iconst (v := 0) hx hb d_SettingSearch_boundOf_0 (by decide) ?_
  refine lv_istore_n (lv' := [(2, .int 0), (0, .ref a0), (1, .ref aA)]) hx hb d_SettingSearch_boundOf_1 rfl hl (by decide) rfl (fun ls hl => ?_)
  refine lv_iconst (v := 0) hx hb d_SettingSearch_boundOf_2 (by decide) ?_
  refine lv_istore_n (lv' := [(3, .int 0), (2, .int 0), (0, .ref a0), (1, .ref aA)]) hx hb d_SettingSearch_boundOf_3 rfl hl (by decide) rfl (fun ls hl => ?_)
  refine L_bo hx hb hml hown hts hA cI cZ cQ a0 aM aR aW aF aS aKR fW aA aK aG aO fd ct hKN ?_ (9 - 0 + 1) 0 0 0 (Nat.zero_le _) rfl rfl (Nat.lt_succ_self _) H locs (hP.sub [0, 1, 2] rfl) (hD.sub [0, 1, 2] (by decide) rfl) hS ls (lv_sub hl [2, 3, 1, 0] rfl)
  intro i xi acc hi exi eacc hendi H locs hP hD hS ls hl
  have hl : lv_has ls 4 [(0, .ref a0), (1, .ref aA), (2, .int acc), (3, .int xi)] := hl
  have hP : va_P (dC, dI) vw_cls [(a0, .inr (0, [.ref aM, .ref aR, .ref aW, .ref aF, .ref aS, .ref aKR])), (aW, .inl (cI, 9, .inl fW)), (aA, .inr (2, [.long fd, .int ct, .ref aK, .ref aG, .ref aO]))] H := hP
  have hD : va_D A [(a0, .inr (0, [.ref aM, .ref aR, .ref aW, .ref aF, .ref aS, .ref aKR])), (aW, .inl (cI, 9, .inl fW)), (aA, .inr (2, [.long fd, .int ct, .ref aK, .ref aG, .ref aO]))] := hD
  refine lv_aload_n hx hb d_SettingSearch_boundOf_27 rfl (lv_at hl 1 rfl) ?_
  refine va_getN (D := (dC, dI)) (ci := 2) (v := .long fd) (C := R_Answers) (T := T_Answers) (N := 5) hx hb hts in_Answers hown hK hP 2 rfl rfl 0 (by decide) (g_Nu hN (List.mem_of_getElem? (i := 5) rfl)) (fun _ h9 => h9) rfl d_SettingSearch_boundOf_28 ?_
  refine lv_iload_n hx hb d_SettingSearch_boundOf_31 rfl (lv_at hl 2 rfl) ?_
  refine lv_i2l hx hb d_SettingSearch_boundOf_32 rfl ?_
  refine lv_topl (fun v_1 ev_1 => ?_)
  refine lv_lmul hx hb d_SettingSearch_boundOf_33 ?_
  refine lv_topl (fun v_2 ev_2 => ?_)
  have hP9 := hP.sub (ws' := [(a0, .inr (0, [.ref aM, .ref aR, .ref aW, .ref aF, .ref aS, .ref aKR])), (aW, .inl (cI, 9, .inl fW)), (aA, .inr (2, [.long fd, .int ct, .ref aK, .ref aG, .ref aO]))]) [0, 1, 2] rfl
  have hD9 := hD.sub (ws' := [(a0, .inr (0, [.ref aM, .ref aR, .ref aW, .ref aF, .ref aS, .ref aKR])), (aW, .inl (cI, 9, .inl fW)), (aA, .inr (2, [.long fd, .int ct, .ref aK, .ref aG, .ref aO]))]) [0, 1, 2] (by decide) rfl
  have hpost_3 : (v_2 : Int64) = fd * (q_mx fW 9).toInt64 := by simp only [ev_1, ev_2, eacc, hendi]
  exact W.lret (v := v_2) hx hb hr (fun t ht hW => ⟨⟨v_2, (), rfl, hpost_3, by rw [ht]; exact hP9, hD9⟩, hS.F ht⟩) hS.2.2 d_SettingSearch_boundOf_34
set_option maxHeartbeats 4000000 in
set_option maxRecDepth 100000 in
/-- weigh -/
theorem k_wei (l : Launch) (dC : Nat → ClassId) (dI : Nat → Nat → Nat) (sz : Nat) (cI : ClassId) (cZ : ClassId) (cQ : ClassId) (a0 : Nat) (aM : Nat) (aR : Nat) (aW : Nat) (aF : Nat) (aS : Nat) (aKR : Nat) (aRp : Nat) (aRk : Nat) (aRa : Nat) (aRb : Nat) (aRl : Nat) (pu : Int32) (fPo : Nat → Int32) (fKi : Nat → Int32) (fAb : Nat → Int32) (fBe : Nat → Int32) (fM : Nat → Int32) (aA : Nat) (aK : Nat) (aG : Nat) (aO : Nat) (fd : Int64) (ct : Int32) (fG : Nat → Int32) (fO : Nat → Int32) (fW : Nat → Int32) (aSo : Nat) (sv : Value) (go : Int32) (ak : Int32) (be : Int32) (bw : Int64) (pt : Int32) (ln : Int32) (v1 : Int32) (jv : Nat) (np : Nat) (hv1 : v1 = nI jv) (hjv : jv < 64) (hpu : pu = nI np) (hnp : np ≤ 4) (hpk : q_okPK fPo fKi np) : Met l y_SettingSearch_weigh w_SettingSearch_weigh ({ frames := 4, cells := 0, slots := 0, locals := 94 } : Room) (va_Pc [.ref a0, .ref aA, .int v1] (fun U => U.heap.size = sz ∧ va_P (dC, dI) vw_cls [(a0, .inr (0, [.ref aM, .ref aR, .ref aW, .ref aF, .ref aS, .ref aKR])), (aR, .inr (5, [.int pu, .ref aRp, .ref aRk, .ref aRa, .ref aRb, .ref aRl])), (aRp, .inl (cI, 4, .inl fPo)), (aRk, .inl (cI, 4, .inl fKi)), (aRa, .inl (cI, 4, .inl fAb)), (aRb, .inl (cI, 4, .inl fBe)), (aRl, .inl (cI, 5, .inl fM)), (aA, .inr (2, [.long fd, .int ct, .ref aK, .ref aG, .ref aO])), (aG, .inl (cI, 576, .inl fG)), (aO, .inl (cI, 320, .inl fO)), (aW, .inl (cI, 9, .inl fW)), (aS, .inr (6, [sv, .int go, .int ak, .int be, .long bw, .int pt, .int ln, .ref aSo]))] U.heap ∧ g_K dC dI [(cI, .int), (cZ, .boolean), (cQ, (.object "SettingSearch$Answers"))] U ∧ va_D (fun _ => True) [(a0, .inr (0, [.ref aM, .ref aR, .ref aW, .ref aF, .ref aS, .ref aKR])), (aR, .inr (5, [.int pu, .ref aRp, .ref aRk, .ref aRa, .ref aRb, .ref aRl])), (aRp, .inl (cI, 4, .inl fPo)), (aRk, .inl (cI, 4, .inl fKi)), (aRa, .inl (cI, 4, .inl fAb)), (aRb, .inl (cI, 4, .inl fBe)), (aRl, .inl (cI, 5, .inl fM)), (aA, .inr (2, [.long fd, .int ct, .ref aK, .ref aG, .ref aO])), (aG, .inl (cI, 576, .inl fG)), (aO, .inl (cI, 320, .inl fO)), (aW, .inl (cI, 9, .inl fW)), (aS, .inr (6, [sv, .int go, .int ak, .int be, .long bw, .int pt, .int ln, .ref aSo]))])) (va_Qv (fun (u : Int32 × Int64) => u.1 = (q_wg (q_kept fG fO fPo fKi fAb fBe fM np jv) (q_told pu fM 5) (q_wo fG fW jv 9) v1 (be, bw)).1 ∧ u.2 = (q_wg (q_kept fG fO fPo fKi fAb fBe fM np jv) (q_told pu fM 5) (q_wo fG fW jv 9) v1 (be, bw)).2) (fun (u : Int32 × Int64) (t : State) => va_P (dC, dI) vw_cls [(a0, .inr (0, [.ref aM, .ref aR, .ref aW, .ref aF, .ref aS, .ref aKR])), (aR, .inr (5, [.int pu, .ref aRp, .ref aRk, .ref aRa, .ref aRb, .ref aRl])), (aRp, .inl (cI, 4, .inl fPo)), (aRk, .inl (cI, 4, .inl fKi)), (aRa, .inl (cI, 4, .inl fAb)), (aRb, .inl (cI, 4, .inl fBe)), (aRl, .inl (cI, 5, .inl fM)), (aA, .inr (2, [.long fd, .int ct, .ref aK, .ref aG, .ref aO])), (aG, .inl (cI, 576, .inl fG)), (aO, .inl (cI, 320, .inl fO)), (aW, .inl (cI, 9, .inl fW)), (aS, .inr (6, [sv, .int go, .int ak, .int u.1, .long u.2, .int pt, .int ln, .ref aSo]))] t.heap ∧ va_D (va_A [(a0, .inr (0, [.ref aM, .ref aR, .ref aW, .ref aF, .ref aS, .ref aKR])), (aR, .inr (5, [.int pu, .ref aRp, .ref aRk, .ref aRa, .ref aRb, .ref aRl])), (aRp, .inl (cI, 4, .inl fPo)), (aRk, .inl (cI, 4, .inl fKi)), (aRa, .inl (cI, 4, .inl fAb)), (aRb, .inl (cI, 4, .inl fBe)), (aRl, .inl (cI, 5, .inl fM)), (aA, .inr (2, [.long fd, .int ct, .ref aK, .ref aG, .ref aO])), (aG, .inl (cI, 576, .inl fG)), (aO, .inl (cI, 320, .inl fO)), (aW, .inl (cI, 9, .inl fW)), (aS, .inr (6, [sv, .int go, .int ak, .int be, .long bw, .int pt, .int ln, .ref aSo]))] sz) [(a0, .inr (0, [.ref aM, .ref aR, .ref aW, .ref aF, .ref aS, .ref aKR])), (aR, .inr (5, [.int pu, .ref aRp, .ref aRk, .ref aRa, .ref aRb, .ref aRl])), (aRp, .inl (cI, 4, .inl fPo)), (aRk, .inl (cI, 4, .inl fKi)), (aRa, .inl (cI, 4, .inl fAb)), (aRb, .inl (cI, 4, .inl fBe)), (aRl, .inl (cI, 5, .inl fM)), (aA, .inr (2, [.long fd, .int ct, .ref aK, .ref aG, .ref aO])), (aG, .inl (cI, 576, .inl fG)), (aO, .inl (cI, 320, .inl fO)), (aW, .inl (cI, 9, .inl fW)), (aS, .inr (6, [sv, .int go, .int ak, .int u.1, .long u.2, .int pt, .int ln, .ref aSo]))]) (va_A [(a0, .inr (0, [.ref aM, .ref aR, .ref aW, .ref aF, .ref aS, .ref aKR])), (aR, .inr (5, [.int pu, .ref aRp, .ref aRk, .ref aRa, .ref aRb, .ref aRl])), (aRp, .inl (cI, 4, .inl fPo)), (aRk, .inl (cI, 4, .inl fKi)), (aRa, .inl (cI, 4, .inl fAb)), (aRb, .inl (cI, 4, .inl fBe)), (aRl, .inl (cI, 5, .inl fM)), (aA, .inr (2, [.long fd, .int ct, .ref aK, .ref aG, .ref aO])), (aG, .inl (cI, 576, .inl fG)), (aO, .inl (cI, 320, .inl fO)), (aW, .inl (cI, 9, .inl fW)), (aS, .inr (6, [sv, .int go, .int ak, .int be, .long bw, .int pt, .int ln, .ref aSo]))] sz)) 0 0 (va_A [(a0, .inr (0, [.ref aM, .ref aR, .ref aW, .ref aF, .ref aS, .ref aKR])), (aR, .inr (5, [.int pu, .ref aRp, .ref aRk, .ref aRa, .ref aRb, .ref aRl])), (aRp, .inl (cI, 4, .inl fPo)), (aRk, .inl (cI, 4, .inl fKi)), (aRa, .inl (cI, 4, .inl fAb)), (aRb, .inl (cI, 4, .inl fBe)), (aRl, .inl (cI, 5, .inl fM)), (aA, .inr (2, [.long fd, .int ct, .ref aK, .ref aG, .ref aO])), (aG, .inl (cI, 576, .inl fG)), (aO, .inl (cI, 320, .inl fO)), (aW, .inl (cI, 9, .inl fW)), (aS, .inr (6, [sv, .int go, .int ak, .int be, .long bw, .int pt, .int ln, .ref aSo]))] sz) := by
  refine Met.ofW (cc := b_SettingSearch_weigh) (maxL := 5) (ret := none) (by decide) rfl ?_
  intro p e s m args below meth c s₁ B hml hv
  obtain ⟨rfl, hsz, hP, hKN, hD0⟩ := hv
  obtain ⟨hK, hN⟩ := id hKN
  have hx := B.exec
  have hb := B.bytes
  have hr := B.returns
  have hts0 := atoms_spec (ws := w_SettingSearch_weigh) B.pre
  have hts : ∀ w ∈ lw_g, w.before _ s = true := fun w h => hts0 w (List.mem_cons_of_mem _ h)
  have hown : s.vm.findClass R_SettingSearch = some m.cls := findClass_of_methodNamed B.named
  have hlocks := B.notSynchronized
  subst hsz
  have hD := hD0.self (sz := s.heap.size)
  generalize hAe : va_A [(a0, .inr (0, [.ref aM, .ref aR, .ref aW, .ref aF, .ref aS, .ref aKR])), (aR, .inr (5, [.int pu, .ref aRp, .ref aRk, .ref aRa, .ref aRb, .ref aRl])), (aRp, .inl (cI, 4, .inl fPo)), (aRk, .inl (cI, 4, .inl fKi)), (aRa, .inl (cI, 4, .inl fAb)), (aRb, .inl (cI, 4, .inl fBe)), (aRl, .inl (cI, 5, .inl fM)), (aA, .inr (2, [.long fd, .int ct, .ref aK, .ref aG, .ref aO])), (aG, .inl (cI, 576, .inl fG)), (aO, .inl (cI, 320, .inl fO)), (aW, .inl (cI, 9, .inl fW)), (aS, .inr (6, [sv, .int go, .int ak, .int be, .long bw, .int pt, .int ln, .ref aSo]))] s.heap.size = A at hD ⊢
  have hA : ∀ q : Nat, s.heap.size ≤ q → A q := fun q h => by rw [← hAe]; exact Or.inr h
  have hP : va_P (dC, dI) vw_cls [(a0, .inr (0, [.ref aM, .ref aR, .ref aW, .ref aF, .ref aS, .ref aKR])), (aR, .inr (5, [.int pu, .ref aRp, .ref aRk, .ref aRa, .ref aRb, .ref aRl])), (aRp, .inl (cI, 4, .inl fPo)), (aRk, .inl (cI, 4, .inl fKi)), (aRa, .inl (cI, 4, .inl fAb)), (aRb, .inl (cI, 4, .inl fBe)), (aRl, .inl (cI, 5, .inl fM)), (aA, .inr (2, [.long fd, .int ct, .ref aK, .ref aG, .ref aO])), (aG, .inl (cI, 576, .inl fG)), (aO, .inl (cI, 320, .inl fO)), (aW, .inl (cI, 9, .inl fW)), (aS, .inr (6, [sv, .int go, .int ak, .int be, .long bw, .int pt, .int ln, .ref aSo]))] s.heap := hP
  have hl := lv_entry ([.ref a0, .ref aA, .int v1]) (n := 5) (Nat.le_of_ble_eq_true rfl)
  rw [lg_entry_eq]
  generalize (lg_sl ([.ref a0, .ref aA, .int v1]) ++ List.replicate (5 - (lg_sl ([.ref a0, .ref aA, .int v1])).length) Slot.unset).toArray = ls at hl ⊢
  have hl : lv_has ls 5 [(0, .ref a0), (1, .ref aA), (2, .int v1)] := hl
  refine gw_start (fun H locs hH hlocs => ?_)
  rw [← hH] at hP
  have hS : va_S A s.heap H locs := by rw [hH, hlocs]; exact va_S.rf
  refine lv_aload_n hx hb d_SettingSearch_weigh_0 rfl (lv_at hl 0 rfl) ?_
  refine va_get (D := (dC, dI)) (ci := 0) (v := .ref aR) (C := R_SettingSearch) (T := T_SettingSearch) (N := 6) hx hb hts in_SettingSearch hown hK hP 0 rfl rfl 1 (by decide) (hts _ tw_180) (fun _ h9 => h9) rfl d_SettingSearch_weigh_1 ?_
  refine lv_aload_n hx hb d_SettingSearch_weigh_4 rfl (lv_at hl 1 rfl) ?_
  refine lv_iload_n hx hb d_SettingSearch_weigh_5 rfl (lv_at hl 2 rfl) ?_
  have hPc := hP.sub (ws' := [(aR, .inr (5, [.int pu, .ref aRp, .ref aRk, .ref aRa, .ref aRb, .ref aRl])), (aRp, .inl (cI, 4, .inl fPo)), (aRk, .inl (cI, 4, .inl fKi)), (aRa, .inl (cI, 4, .inl fAb)), (aRb, .inl (cI, 4, .inl fBe)), (aRl, .inl (cI, 5, .inl fM)), (aA, .inr (2, [.long fd, .int ct, .ref aK, .ref aG, .ref aO])), (aG, .inl (cI, 576, .inl fG)), (aO, .inl (cI, 320, .inl fO))]) [1, 2, 3, 4, 5, 6, 7, 8, 9] rfl
  have hDc := hD.sub (ws' := [(aR, .inr (5, [.int pu, .ref aRp, .ref aRk, .ref aRa, .ref aRb, .ref aRl])), (aRp, .inl (cI, 4, .inl fPo)), (aRk, .inl (cI, 4, .inl fKi)), (aRa, .inl (cI, 4, .inl fAb)), (aRb, .inl (cI, 4, .inl fBe)), (aRl, .inl (cI, 5, .inl fM)), (aA, .inr (2, [.long fd, .int ct, .ref aK, .ref aG, .ref aO])), (aG, .inl (cI, 576, .inl fG)), (aO, .inl (cI, 320, .inl fO))]) [1, 2, 3, 4, 5, 6, 7, 8, 9] (by decide) rfl
  have hFc := va_free (wc := [(aR, .inr (5, [.int pu, .ref aRp, .ref aRk, .ref aRa, .ref aRb, .ref aRl])), (aRp, .inl (cI, 4, .inl fPo)), (aRk, .inl (cI, 4, .inl fKi)), (aRa, .inl (cI, 4, .inl fAb)), (aRb, .inl (cI, 4, .inl fBe)), (aRl, .inl (cI, 5, .inl fM)), (aA, .inr (2, [.long fd, .int ct, .ref aK, .ref aG, .ref aO])), (aG, .inl (cI, 576, .inl fG)), (aO, .inl (cI, 320, .inl fO))]) hD hS hA [1, 2, 3, 4, 5, 6, 7, 8, 9] rfl
  refine va_calli (va_runV (As := [.ref aA, .int v1]) (rest := []) ⟨hx, hb, hml, hown, hts⟩ (k_kb l dC dI H.size cI cZ cQ aR aRp aRk aRa aRb aRl pu fPo fKi fAb fBe fM aA aK aG aO fd ct fG fO v1 jv np hv1 hjv hpu hnp hpk) ⟨(callB_of 2 hts (ga_all tw_306) rfl rfl rfl (hts _ tw_24) (hts _ tw_303) (by decide +kernel) ⟨Nat.le_of_ble_eq_true rfl, Nat.le_of_ble_eq_true rfl⟩), hts _ tw_304, hts _ tw_305⟩ ⟨fun a U g mk q => by obtain ⟨q0, q1, qP, qK, qD⟩ := q; exact ⟨q0, q1, qP, g_K.same (u := U) (U := U.calling g mk a) rfl qK, qD⟩, va_recv hK hPc (ci := 5) (q0 := 0) rfl rfl, fun U hU hW => ⟨rfl, by rw [hU], by rw [hU]; exact hPc, g_K.warm hW hKN, hDc.weaken (fun _ _ _ _ => trivial)⟩⟩ rfl rfl hl.1 rfl (lv_room (Nat.le_of_ble_eq_true rfl)) d_SettingSearch_weigh_6 ⟨Nat.le_of_ble_eq_true rfl, Nat.le_of_ble_eq_true rfl⟩) hS (fun q _ h => hFc q h) hFc (fun rk u t H1 locs htt hvm hw_1 hBB hzz hkk hS => ?_)
  have hw_1 : rk = q_kept fG fO fPo fKi fAb fBe fM np jv := hw_1
  obtain ⟨hPP, hDD⟩ := hBB
  rw [htt] at hPP
  have hPP : va_P (dC, dI) vw_cls [(aR, .inr (5, [.int pu, .ref aRp, .ref aRk, .ref aRa, .ref aRb, .ref aRl])), (aRp, .inl (cI, 4, .inl fPo)), (aRk, .inl (cI, 4, .inl fKi)), (aRa, .inl (cI, 4, .inl fAb)), (aRb, .inl (cI, 4, .inl fBe)), (aRl, .inl (cI, 5, .inl fM)), (aA, .inr (2, [.long fd, .int ct, .ref aK, .ref aG, .ref aO])), (aG, .inl (cI, 576, .inl fG)), (aO, .inl (cI, 320, .inl fO))] H1 := hPP
  have hDD : va_D (va_A [(aR, .inr (5, [.int pu, .ref aRp, .ref aRk, .ref aRa, .ref aRb, .ref aRl])), (aRp, .inl (cI, 4, .inl fPo)), (aRk, .inl (cI, 4, .inl fKi)), (aRa, .inl (cI, 4, .inl fAb)), (aRb, .inl (cI, 4, .inl fBe)), (aRl, .inl (cI, 5, .inl fM)), (aA, .inr (2, [.long fd, .int ct, .ref aK, .ref aG, .ref aO])), (aG, .inl (cI, 576, .inl fG)), (aO, .inl (cI, 320, .inl fO))] H.size) [(aR, .inr (5, [.int pu, .ref aRp, .ref aRk, .ref aRa, .ref aRb, .ref aRl])), (aRp, .inl (cI, 4, .inl fPo)), (aRk, .inl (cI, 4, .inl fKi)), (aRa, .inl (cI, 4, .inl fAb)), (aRb, .inl (cI, 4, .inl fBe)), (aRl, .inl (cI, 5, .inl fM)), (aA, .inr (2, [.long fd, .int ct, .ref aK, .ref aG, .ref aO])), (aG, .inl (cI, 576, .inl fG)), (aO, .inl (cI, 320, .inl fO))] := hDD
  obtain ⟨hP, hD⟩ := va_join (wr := [(a0, .inr (0, [.ref aM, .ref aR, .ref aW, .ref aF, .ref aS, .ref aKR])), (aW, .inl (cI, 9, .inl fW)), (aS, .inr (6, [sv, .int go, .int ak, .int be, .long bw, .int pt, .int ln, .ref aSo]))]) (w1 := [(aR, .inr (5, [.int pu, .ref aRp, .ref aRk, .ref aRa, .ref aRb, .ref aRl])), (aRp, .inl (cI, 4, .inl fPo)), (aRk, .inl (cI, 4, .inl fKi)), (aRa, .inl (cI, 4, .inl fAb)), (aRb, .inl (cI, 4, .inl fBe)), (aRl, .inl (cI, 5, .inl fM)), (aA, .inr (2, [.long fd, .int ct, .ref aK, .ref aG, .ref aO])), (aG, .inl (cI, 576, .inl fG)), (aO, .inl (cI, 320, .inl fO))]) hP hD [1, 2, 3, 4, 5, 6, 7, 8, 9] [0, 10, 11] rfl rfl (by decide) (by decide) hkk hFc hPP hDD
  generalize H1 = H at hP hS ⊢
  have hP : va_P (dC, dI) vw_cls [(a0, .inr (0, [.ref aM, .ref aR, .ref aW, .ref aF, .ref aS, .ref aKR])), (aW, .inl (cI, 9, .inl fW)), (aS, .inr (6, [sv, .int go, .int ak, .int be, .long bw, .int pt, .int ln, .ref aSo])), (aR, .inr (5, [.int pu, .ref aRp, .ref aRk, .ref aRa, .ref aRb, .ref aRl])), (aRp, .inl (cI, 4, .inl fPo)), (aRk, .inl (cI, 4, .inl fKi)), (aRa, .inl (cI, 4, .inl fAb)), (aRb, .inl (cI, 4, .inl fBe)), (aRl, .inl (cI, 5, .inl fM)), (aA, .inr (2, [.long fd, .int ct, .ref aK, .ref aG, .ref aO])), (aG, .inl (cI, 576, .inl fG)), (aO, .inl (cI, 320, .inl fO))] H := hP
  have hD : va_D A [(a0, .inr (0, [.ref aM, .ref aR, .ref aW, .ref aF, .ref aS, .ref aKR])), (aW, .inl (cI, 9, .inl fW)), (aS, .inr (6, [sv, .int go, .int ak, .int be, .long bw, .int pt, .int ln, .ref aSo])), (aR, .inr (5, [.int pu, .ref aRp, .ref aRk, .ref aRa, .ref aRb, .ref aRl])), (aRp, .inl (cI, 4, .inl fPo)), (aRk, .inl (cI, 4, .inl fKi)), (aRa, .inl (cI, 4, .inl fAb)), (aRb, .inl (cI, 4, .inl fBe)), (aRl, .inl (cI, 5, .inl fM)), (aA, .inr (2, [.long fd, .int ct, .ref aK, .ref aG, .ref aO])), (aG, .inl (cI, 576, .inl fG)), (aO, .inl (cI, 320, .inl fO))] := hD
  refine lv_aload_n hx hb d_SettingSearch_weigh_9 rfl (lv_at hl 0 rfl) ?_
  refine va_get (D := (dC, dI)) (ci := 0) (v := .ref aR) (C := R_SettingSearch) (T := T_SettingSearch) (N := 6) hx hb hts in_SettingSearch hown hK hP 0 rfl rfl 1 (by decide) (hts _ tw_180) (fun _ h9 => h9) rfl d_SettingSearch_weigh_10 ?_
  have hPc := hP.sub (ws' := [(aR, .inr (5, [.int pu, .ref aRp, .ref aRk, .ref aRa, .ref aRb, .ref aRl])), (aRl, .inl (cI, 5, .inl fM))]) [3, 8] rfl
  have hDc := hD.sub (ws' := [(aR, .inr (5, [.int pu, .ref aRp, .ref aRk, .ref aRa, .ref aRb, .ref aRl])), (aRl, .inl (cI, 5, .inl fM))]) [3, 8] (by decide) rfl
  have hFc := va_free (wc := [(aR, .inr (5, [.int pu, .ref aRp, .ref aRk, .ref aRa, .ref aRb, .ref aRl])), (aRl, .inl (cI, 5, .inl fM))]) hD hS hA [3, 8] rfl
  refine va_calli (va_runV (As := []) (rest := [.int rk]) ⟨hx, hb, hml, hown, hts⟩ (k_told l dC dI H.size cI cZ cQ aR aRp aRk aRa aRb aRl pu fM ) ⟨(callB_of 0 hts (ga_all tw_323) rfl rfl rfl (hts _ tw_24) (hts _ tw_320) (by decide +kernel) ⟨Nat.le_of_ble_eq_true rfl, Nat.le_of_ble_eq_true rfl⟩), hts _ tw_321, hts _ tw_322⟩ ⟨fun a U g mk q => by obtain ⟨q0, q1, qP, qK, qD⟩ := q; exact ⟨q0, q1, qP, g_K.same (u := U) (U := U.calling g mk a) rfl qK, qD⟩, va_recv hK hPc (ci := 5) (q0 := 0) rfl rfl, fun U hU hW => ⟨rfl, by rw [hU], by rw [hU]; exact hPc, g_K.warm hW hKN, hDc.weaken (fun _ _ _ _ => trivial)⟩⟩ rfl rfl hl.1 rfl (lv_room (Nat.le_of_ble_eq_true rfl)) d_SettingSearch_weigh_13 ⟨Nat.le_of_ble_eq_true rfl, Nat.le_of_ble_eq_true rfl⟩) hS (fun q _ h => hFc q h) hFc (fun r_2 u t H1 locs htt hvm hw_3 hBB hzz hkk hS => ?_)
  have hw_3 : r_2 = q_told pu fM 5 := hw_3
  obtain ⟨hPP, hDD⟩ := hBB
  rw [htt] at hPP
  have hPP : va_P (dC, dI) vw_cls [(aR, .inr (5, [.int pu, .ref aRp, .ref aRk, .ref aRa, .ref aRb, .ref aRl])), (aRl, .inl (cI, 5, .inl fM))] H1 := hPP
  have hDD : va_D (va_A [(aR, .inr (5, [.int pu, .ref aRp, .ref aRk, .ref aRa, .ref aRb, .ref aRl])), (aRl, .inl (cI, 5, .inl fM))] H.size) [(aR, .inr (5, [.int pu, .ref aRp, .ref aRk, .ref aRa, .ref aRb, .ref aRl])), (aRl, .inl (cI, 5, .inl fM))] := hDD
  obtain ⟨hP, hD⟩ := va_join (wr := [(a0, .inr (0, [.ref aM, .ref aR, .ref aW, .ref aF, .ref aS, .ref aKR])), (aW, .inl (cI, 9, .inl fW)), (aS, .inr (6, [sv, .int go, .int ak, .int be, .long bw, .int pt, .int ln, .ref aSo])), (aRp, .inl (cI, 4, .inl fPo)), (aRk, .inl (cI, 4, .inl fKi)), (aRa, .inl (cI, 4, .inl fAb)), (aRb, .inl (cI, 4, .inl fBe)), (aA, .inr (2, [.long fd, .int ct, .ref aK, .ref aG, .ref aO])), (aG, .inl (cI, 576, .inl fG)), (aO, .inl (cI, 320, .inl fO))]) (w1 := [(aR, .inr (5, [.int pu, .ref aRp, .ref aRk, .ref aRa, .ref aRb, .ref aRl])), (aRl, .inl (cI, 5, .inl fM))]) hP hD [3, 8] [0, 1, 2, 4, 5, 6, 7, 9, 10, 11] rfl rfl (by decide) (by decide) hkk hFc hPP hDD
  generalize H1 = H at hP hS ⊢
  have hP : va_P (dC, dI) vw_cls [(a0, .inr (0, [.ref aM, .ref aR, .ref aW, .ref aF, .ref aS, .ref aKR])), (aW, .inl (cI, 9, .inl fW)), (aS, .inr (6, [sv, .int go, .int ak, .int be, .long bw, .int pt, .int ln, .ref aSo])), (aRp, .inl (cI, 4, .inl fPo)), (aRk, .inl (cI, 4, .inl fKi)), (aRa, .inl (cI, 4, .inl fAb)), (aRb, .inl (cI, 4, .inl fBe)), (aA, .inr (2, [.long fd, .int ct, .ref aK, .ref aG, .ref aO])), (aG, .inl (cI, 576, .inl fG)), (aO, .inl (cI, 320, .inl fO)), (aR, .inr (5, [.int pu, .ref aRp, .ref aRk, .ref aRa, .ref aRb, .ref aRl])), (aRl, .inl (cI, 5, .inl fM))] H := hP
  have hD : va_D A [(a0, .inr (0, [.ref aM, .ref aR, .ref aW, .ref aF, .ref aS, .ref aKR])), (aW, .inl (cI, 9, .inl fW)), (aS, .inr (6, [sv, .int go, .int ak, .int be, .long bw, .int pt, .int ln, .ref aSo])), (aRp, .inl (cI, 4, .inl fPo)), (aRk, .inl (cI, 4, .inl fKi)), (aRa, .inl (cI, 4, .inl fAb)), (aRb, .inl (cI, 4, .inl fBe)), (aA, .inr (2, [.long fd, .int ct, .ref aK, .ref aG, .ref aO])), (aG, .inl (cI, 576, .inl fG)), (aO, .inl (cI, 320, .inl fO)), (aR, .inr (5, [.int pu, .ref aRp, .ref aRk, .ref aRa, .ref aRb, .ref aRl])), (aRl, .inl (cI, 5, .inl fM))] := hD
  refine lv_icmp_eq (tgt := 20) hx hb d_SettingSearch_weigh_16 (by decide) (fun c_4 => ?_) (fun c_4 => ?_)
  · skip
    have cq : q_kept fG fO fPo fKi fAb fBe fM np jv = q_told pu fM 5 := by rw [← hw_1, ← hw_3]; exact c_4
    refine lv_aload_n hx hb d_SettingSearch_weigh_20 rfl (lv_at hl 1 rfl) ?_
    refine lv_iload_n hx hb d_SettingSearch_weigh_21 rfl (lv_at hl 2 rfl) ?_
    refine lv_aload_n hx hb d_SettingSearch_weigh_22 rfl (lv_at hl 0 rfl) ?_
    refine va_get (D := (dC, dI)) (ci := 0) (v := .ref aW) (C := R_SettingSearch) (T := T_SettingSearch) (N := 6) hx hb hts in_SettingSearch hown hK hP 0 rfl rfl 2 (by decide) (hts _ tw_181) (fun _ h9 => h9) rfl d_SettingSearch_weigh_23 ?_
    have hPc := hP.sub (ws' := [(aA, .inr (2, [.long fd, .int ct, .ref aK, .ref aG, .ref aO])), (aG, .inl (cI, 576, .inl fG)), (aW, .inl (cI, 9, .inl fW))]) [7, 8, 1] rfl
    have hDc := hD.sub (ws' := [(aA, .inr (2, [.long fd, .int ct, .ref aK, .ref aG, .ref aO])), (aG, .inl (cI, 576, .inl fG)), (aW, .inl (cI, 9, .inl fW))]) [7, 8, 1] (by decide) rfl
    have hFc := va_free (wc := [(aA, .inr (2, [.long fd, .int ct, .ref aK, .ref aG, .ref aO])), (aG, .inl (cI, 576, .inl fG)), (aW, .inl (cI, 9, .inl fW))]) hD hS hA [7, 8, 1] rfl
    refine va_calll (va_runV (As := [.int v1, .ref aW]) (rest := []) ⟨hx, hb, hml, hown, hts⟩ (k_wo l dC dI H.size cI cZ cQ aA aK aG aO fd ct aW fG fW v1 jv hv1 hjv) ⟨(callB_of 2 hts (ga_all tw_327) rfl rfl rfl (hts _ tw_27) (hts _ tw_324) (by decide +kernel) ⟨Nat.le_of_ble_eq_true rfl, Nat.le_of_ble_eq_true rfl⟩), hts _ tw_325, hts _ tw_326⟩ ⟨fun a U g mk q => by obtain ⟨q0, q1, qP, qK, qD⟩ := q; exact ⟨q0, q1, qP, g_K.same (u := U) (U := U.calling g mk a) rfl qK, qD⟩, va_recv hK hPc (ci := 2) (q0 := 0) rfl rfl, fun U hU hW => ⟨rfl, by rw [hU], by rw [hU]; exact hPc, g_K.warm hW hKN, hDc.weaken (fun _ _ _ _ => trivial)⟩⟩ rfl rfl hl.1 rfl (lv_room (Nat.le_of_ble_eq_true rfl)) d_SettingSearch_weigh_26 ⟨Nat.le_of_ble_eq_true rfl, Nat.le_of_ble_eq_true rfl⟩) hS (fun q _ h => hFc q h) hFc (fun r_5 u t H1 locs htt hvm hw_6 hBB hzz hkk hS => ?_)
    have hw_6 : r_5 = q_wo fG fW jv 9 := hw_6
    obtain ⟨hPP, hDD⟩ := hBB
    rw [htt] at hPP
    have hPP : va_P (dC, dI) vw_cls [(aA, .inr (2, [.long fd, .int ct, .ref aK, .ref aG, .ref aO])), (aG, .inl (cI, 576, .inl fG)), (aW, .inl (cI, 9, .inl fW))] H1 := hPP
    have hDD : va_D (va_A [(aA, .inr (2, [.long fd, .int ct, .ref aK, .ref aG, .ref aO])), (aG, .inl (cI, 576, .inl fG)), (aW, .inl (cI, 9, .inl fW))] H.size) [(aA, .inr (2, [.long fd, .int ct, .ref aK, .ref aG, .ref aO])), (aG, .inl (cI, 576, .inl fG)), (aW, .inl (cI, 9, .inl fW))] := hDD
    obtain ⟨hP, hD⟩ := va_join (wr := [(a0, .inr (0, [.ref aM, .ref aR, .ref aW, .ref aF, .ref aS, .ref aKR])), (aS, .inr (6, [sv, .int go, .int ak, .int be, .long bw, .int pt, .int ln, .ref aSo])), (aRp, .inl (cI, 4, .inl fPo)), (aRk, .inl (cI, 4, .inl fKi)), (aRa, .inl (cI, 4, .inl fAb)), (aRb, .inl (cI, 4, .inl fBe)), (aO, .inl (cI, 320, .inl fO)), (aR, .inr (5, [.int pu, .ref aRp, .ref aRk, .ref aRa, .ref aRb, .ref aRl])), (aRl, .inl (cI, 5, .inl fM))]) (w1 := [(aA, .inr (2, [.long fd, .int ct, .ref aK, .ref aG, .ref aO])), (aG, .inl (cI, 576, .inl fG)), (aW, .inl (cI, 9, .inl fW))]) hP hD [7, 8, 1] [0, 2, 3, 4, 5, 6, 9, 10, 11] rfl rfl (by decide) (by decide) hkk hFc hPP hDD
    generalize H1 = H at hP hS ⊢
    have hP : va_P (dC, dI) vw_cls [(a0, .inr (0, [.ref aM, .ref aR, .ref aW, .ref aF, .ref aS, .ref aKR])), (aS, .inr (6, [sv, .int go, .int ak, .int be, .long bw, .int pt, .int ln, .ref aSo])), (aRp, .inl (cI, 4, .inl fPo)), (aRk, .inl (cI, 4, .inl fKi)), (aRa, .inl (cI, 4, .inl fAb)), (aRb, .inl (cI, 4, .inl fBe)), (aO, .inl (cI, 320, .inl fO)), (aR, .inr (5, [.int pu, .ref aRp, .ref aRk, .ref aRa, .ref aRb, .ref aRl])), (aRl, .inl (cI, 5, .inl fM)), (aA, .inr (2, [.long fd, .int ct, .ref aK, .ref aG, .ref aO])), (aG, .inl (cI, 576, .inl fG)), (aW, .inl (cI, 9, .inl fW))] H := hP
    have hD : va_D A [(a0, .inr (0, [.ref aM, .ref aR, .ref aW, .ref aF, .ref aS, .ref aKR])), (aS, .inr (6, [sv, .int go, .int ak, .int be, .long bw, .int pt, .int ln, .ref aSo])), (aRp, .inl (cI, 4, .inl fPo)), (aRk, .inl (cI, 4, .inl fKi)), (aRa, .inl (cI, 4, .inl fAb)), (aRb, .inl (cI, 4, .inl fBe)), (aO, .inl (cI, 320, .inl fO)), (aR, .inr (5, [.int pu, .ref aRp, .ref aRk, .ref aRa, .ref aRb, .ref aRl])), (aRl, .inl (cI, 5, .inl fM)), (aA, .inr (2, [.long fd, .int ct, .ref aK, .ref aG, .ref aO])), (aG, .inl (cI, 576, .inl fG)), (aW, .inl (cI, 9, .inl fW))] := hD
    refine lv_lstore_n (lv' := [(3, .long r_5), (0, .ref a0), (1, .ref aA), (2, .int v1)]) hx hb d_SettingSearch_weigh_29 rfl hl (by decide) rfl (fun ls hl => ?_)
    refine lv_aload_n hx hb d_SettingSearch_weigh_30 rfl (lv_at hl 1 rfl) ?_
    refine va_get (D := (dC, dI)) (ci := 0) (v := .ref aS) (C := R_SettingSearch) (T := T_SettingSearch) (N := 6) hx hb hts in_SettingSearch hown hK hP 0 rfl rfl 4 (by decide) (hts _ tw_183) (fun _ h9 => h9) rfl d_SettingSearch_weigh_31 ?_
    refine va_getN (D := (dC, dI)) (ci := 6) (v := .int be) (C := R_Search) (T := T_Search) (N := 8) hx hb hts in_Search hown hK hP 1 rfl rfl 3 (by decide) (g_Nu hN (List.mem_of_getElem? (i := 10) rfl)) (fun _ h9 => h9) rfl d_SettingSearch_weigh_34 ?_
    refine lv_iconst (v := (-1)) hx hb d_SettingSearch_weigh_37 (by decide) ?_
    refine lv_icmp_eq (tgt := 53) hx hb d_SettingSearch_weigh_38 (by decide) (fun c_7 => ?_) (fun c_7 => ?_)
    · skip
      have cb : be = -1 := c_7
      refine lv_aload_n hx hb d_SettingSearch_weigh_53 rfl (lv_at hl 1 rfl) ?_
      refine va_get (D := (dC, dI)) (ci := 0) (v := .ref aS) (C := R_SettingSearch) (T := T_SettingSearch) (N := 6) hx hb hts in_SettingSearch hown hK hP 0 rfl rfl 4 (by decide) (hts _ tw_183) (fun _ h9 => h9) rfl d_SettingSearch_weigh_54 ?_
      refine lv_iload_n hx hb d_SettingSearch_weigh_57 rfl (lv_at hl 3 rfl) ?_
      refine va_putN (D := (dC, dI)) (ci := 6) (v := .int v1) (ty := .int) (C := R_Search) (T := T_Search) (N := 8) hx hb hts in_Search ty_Search ty_Search_ok nm_Search hown hK hP hD hS 1 rfl rfl 3 (by decide) (g_Nu hN (List.mem_of_getElem? (i := 10) rfl)) (fun _ h9 => h9) rfl (by decide +kernel) rfl rfl (Nat.le_of_ble_eq_true rfl) d_SettingSearch_weigh_58 (fun H locs hP hD hS => ?_)
      have hP : va_P (dC, dI) vw_cls [(a0, .inr (0, [.ref aM, .ref aR, .ref aW, .ref aF, .ref aS, .ref aKR])), (aS, .inr (6, [sv, .int go, .int ak, .int v1, .long bw, .int pt, .int ln, .ref aSo])), (aRp, .inl (cI, 4, .inl fPo)), (aRk, .inl (cI, 4, .inl fKi)), (aRa, .inl (cI, 4, .inl fAb)), (aRb, .inl (cI, 4, .inl fBe)), (aO, .inl (cI, 320, .inl fO)), (aR, .inr (5, [.int pu, .ref aRp, .ref aRk, .ref aRa, .ref aRb, .ref aRl])), (aRl, .inl (cI, 5, .inl fM)), (aA, .inr (2, [.long fd, .int ct, .ref aK, .ref aG, .ref aO])), (aG, .inl (cI, 576, .inl fG)), (aW, .inl (cI, 9, .inl fW))] H := hP
      have hD : va_D A [(a0, .inr (0, [.ref aM, .ref aR, .ref aW, .ref aF, .ref aS, .ref aKR])), (aS, .inr (6, [sv, .int go, .int ak, .int v1, .long bw, .int pt, .int ln, .ref aSo])), (aRp, .inl (cI, 4, .inl fPo)), (aRk, .inl (cI, 4, .inl fKi)), (aRa, .inl (cI, 4, .inl fAb)), (aRb, .inl (cI, 4, .inl fBe)), (aO, .inl (cI, 320, .inl fO)), (aR, .inr (5, [.int pu, .ref aRp, .ref aRk, .ref aRa, .ref aRb, .ref aRl])), (aRl, .inl (cI, 5, .inl fM)), (aA, .inr (2, [.long fd, .int ct, .ref aK, .ref aG, .ref aO])), (aG, .inl (cI, 576, .inl fG)), (aW, .inl (cI, 9, .inl fW))] := hD
      refine lv_aload_n hx hb d_SettingSearch_weigh_61 rfl (lv_at hl 1 rfl) ?_
      refine va_get (D := (dC, dI)) (ci := 0) (v := .ref aS) (C := R_SettingSearch) (T := T_SettingSearch) (N := 6) hx hb hts in_SettingSearch hown hK hP 0 rfl rfl 4 (by decide) (hts _ tw_183) (fun _ h9 => h9) rfl d_SettingSearch_weigh_62 ?_
      refine lv_lload_n hx hb d_SettingSearch_weigh_65 rfl (lv_at hl 0 rfl) ?_
      refine va_putN (D := (dC, dI)) (ci := 6) (v := .long r_5) (ty := .long) (C := R_Search) (T := T_Search) (N := 8) hx hb hts in_Search ty_Search ty_Search_ok nm_Search hown hK hP hD hS 1 rfl rfl 4 (by decide) (g_Nu hN (List.mem_of_getElem? (i := 11) rfl)) (fun _ h9 => h9) rfl (by decide +kernel) rfl rfl (Nat.le_of_ble_eq_true rfl) d_SettingSearch_weigh_66 (fun H locs hP hD hS => ?_)
      have hP : va_P (dC, dI) vw_cls [(a0, .inr (0, [.ref aM, .ref aR, .ref aW, .ref aF, .ref aS, .ref aKR])), (aS, .inr (6, [sv, .int go, .int ak, .int v1, .long r_5, .int pt, .int ln, .ref aSo])), (aRp, .inl (cI, 4, .inl fPo)), (aRk, .inl (cI, 4, .inl fKi)), (aRa, .inl (cI, 4, .inl fAb)), (aRb, .inl (cI, 4, .inl fBe)), (aO, .inl (cI, 320, .inl fO)), (aR, .inr (5, [.int pu, .ref aRp, .ref aRk, .ref aRa, .ref aRb, .ref aRl])), (aRl, .inl (cI, 5, .inl fM)), (aA, .inr (2, [.long fd, .int ct, .ref aK, .ref aG, .ref aO])), (aG, .inl (cI, 576, .inl fG)), (aW, .inl (cI, 9, .inl fW))] H := hP
      have hD : va_D A [(a0, .inr (0, [.ref aM, .ref aR, .ref aW, .ref aF, .ref aS, .ref aKR])), (aS, .inr (6, [sv, .int go, .int ak, .int v1, .long r_5, .int pt, .int ln, .ref aSo])), (aRp, .inl (cI, 4, .inl fPo)), (aRk, .inl (cI, 4, .inl fKi)), (aRa, .inl (cI, 4, .inl fAb)), (aRb, .inl (cI, 4, .inl fBe)), (aO, .inl (cI, 320, .inl fO)), (aR, .inr (5, [.int pu, .ref aRp, .ref aRk, .ref aRa, .ref aRb, .ref aRl])), (aRl, .inl (cI, 5, .inl fM)), (aA, .inr (2, [.long fd, .int ct, .ref aK, .ref aG, .ref aO])), (aG, .inl (cI, 576, .inl fG)), (aW, .inl (cI, 9, .inl fW))] := hD
      have hP9 := hP.sub (ws' := [(a0, .inr (0, [.ref aM, .ref aR, .ref aW, .ref aF, .ref aS, .ref aKR])), (aR, .inr (5, [.int pu, .ref aRp, .ref aRk, .ref aRa, .ref aRb, .ref aRl])), (aRp, .inl (cI, 4, .inl fPo)), (aRk, .inl (cI, 4, .inl fKi)), (aRa, .inl (cI, 4, .inl fAb)), (aRb, .inl (cI, 4, .inl fBe)), (aRl, .inl (cI, 5, .inl fM)), (aA, .inr (2, [.long fd, .int ct, .ref aK, .ref aG, .ref aO])), (aG, .inl (cI, 576, .inl fG)), (aO, .inl (cI, 320, .inl fO)), (aW, .inl (cI, 9, .inl fW)), (aS, .inr (6, [sv, .int go, .int ak, .int v1, .long r_5, .int pt, .int ln, .ref aSo]))]) [0, 7, 2, 3, 4, 5, 8, 9, 10, 6, 11, 1] rfl
      have hD9 := hD.sub (ws' := [(a0, .inr (0, [.ref aM, .ref aR, .ref aW, .ref aF, .ref aS, .ref aKR])), (aR, .inr (5, [.int pu, .ref aRp, .ref aRk, .ref aRa, .ref aRb, .ref aRl])), (aRp, .inl (cI, 4, .inl fPo)), (aRk, .inl (cI, 4, .inl fKi)), (aRa, .inl (cI, 4, .inl fAb)), (aRb, .inl (cI, 4, .inl fBe)), (aRl, .inl (cI, 5, .inl fM)), (aA, .inr (2, [.long fd, .int ct, .ref aK, .ref aG, .ref aO])), (aG, .inl (cI, 576, .inl fG)), (aO, .inl (cI, 320, .inl fO)), (aW, .inl (cI, 9, .inl fW)), (aS, .inr (6, [sv, .int go, .int ak, .int v1, .long r_5, .int pt, .int ln, .ref aSo]))]) [0, 7, 2, 3, 4, 5, 8, 9, 10, 6, 11, 1] (by decide) rfl
      have hpost_8 : v1 = (q_wg (q_kept fG fO fPo fKi fAb fBe fM np jv) (q_told pu fM 5) (q_wo fG fW jv 9) v1 (be, bw)).1 ∧ r_5 = (q_wg (q_kept fG fO fPo fKi fAb fBe fM np jv) (q_told pu fM 5) (q_wo fG fW jv 9) v1 (be, bw)).2 := by unfold q_wg; rw [if_pos cq]; first | (rw [if_pos cb, ← hw_6]; exact ⟨rfl, rfl⟩) | (rw [if_neg cb, if_pos cw]; exact ⟨rfl, rfl⟩) | (rw [if_neg cb, if_neg cw, ← hw_6]; exact ⟨rfl, rfl⟩)
      exact W.vret hx hb hr (fun t ht hW => ⟨⟨(v1, r_5), rfl, hpost_8, by rw [ht]; exact hP9, hD9⟩, hS.F ht⟩) hS.2.2 d_SettingSearch_weigh_69
    · skip
      have cb : ¬ be = -1 := c_7
      refine lv_lload_n hx hb d_SettingSearch_weigh_41 rfl (lv_at hl 0 rfl) ?_
      refine lv_aload_n hx hb d_SettingSearch_weigh_42 rfl (lv_at hl 1 rfl) ?_
      refine va_get (D := (dC, dI)) (ci := 0) (v := .ref aS) (C := R_SettingSearch) (T := T_SettingSearch) (N := 6) hx hb hts in_SettingSearch hown hK hP 0 rfl rfl 4 (by decide) (hts _ tw_183) (fun _ h9 => h9) rfl d_SettingSearch_weigh_43 ?_
      refine va_getN (D := (dC, dI)) (ci := 6) (v := .long bw) (C := R_Search) (T := T_Search) (N := 8) hx hb hts in_Search hown hK hP 1 rfl rfl 4 (by decide) (g_Nu hN (List.mem_of_getElem? (i := 11) rfl)) (fun _ h9 => h9) rfl d_SettingSearch_weigh_46 ?_
      refine W.lcmp hx hb d_SettingSearch_weigh_49 ?_
      refine lv_if_le (tgt := 69) hx hb d_SettingSearch_weigh_50 (by decide) (fun c_9 => ?_) (fun c_9 => ?_)
      · skip
        have c_9 : r_5 ≤ bw := (lg_cmp_le _ _).mp c_9
        have cw : q_wo fG fW jv 9 ≤ bw := by rw [← hw_6]; exact c_9
        have hP9 := hP.sub (ws' := [(a0, .inr (0, [.ref aM, .ref aR, .ref aW, .ref aF, .ref aS, .ref aKR])), (aR, .inr (5, [.int pu, .ref aRp, .ref aRk, .ref aRa, .ref aRb, .ref aRl])), (aRp, .inl (cI, 4, .inl fPo)), (aRk, .inl (cI, 4, .inl fKi)), (aRa, .inl (cI, 4, .inl fAb)), (aRb, .inl (cI, 4, .inl fBe)), (aRl, .inl (cI, 5, .inl fM)), (aA, .inr (2, [.long fd, .int ct, .ref aK, .ref aG, .ref aO])), (aG, .inl (cI, 576, .inl fG)), (aO, .inl (cI, 320, .inl fO)), (aW, .inl (cI, 9, .inl fW)), (aS, .inr (6, [sv, .int go, .int ak, .int be, .long bw, .int pt, .int ln, .ref aSo]))]) [0, 7, 2, 3, 4, 5, 8, 9, 10, 6, 11, 1] rfl
        have hD9 := hD.sub (ws' := [(a0, .inr (0, [.ref aM, .ref aR, .ref aW, .ref aF, .ref aS, .ref aKR])), (aR, .inr (5, [.int pu, .ref aRp, .ref aRk, .ref aRa, .ref aRb, .ref aRl])), (aRp, .inl (cI, 4, .inl fPo)), (aRk, .inl (cI, 4, .inl fKi)), (aRa, .inl (cI, 4, .inl fAb)), (aRb, .inl (cI, 4, .inl fBe)), (aRl, .inl (cI, 5, .inl fM)), (aA, .inr (2, [.long fd, .int ct, .ref aK, .ref aG, .ref aO])), (aG, .inl (cI, 576, .inl fG)), (aO, .inl (cI, 320, .inl fO)), (aW, .inl (cI, 9, .inl fW)), (aS, .inr (6, [sv, .int go, .int ak, .int be, .long bw, .int pt, .int ln, .ref aSo]))]) [0, 7, 2, 3, 4, 5, 8, 9, 10, 6, 11, 1] (by decide) rfl
        have hpost_10 : be = (q_wg (q_kept fG fO fPo fKi fAb fBe fM np jv) (q_told pu fM 5) (q_wo fG fW jv 9) v1 (be, bw)).1 ∧ bw = (q_wg (q_kept fG fO fPo fKi fAb fBe fM np jv) (q_told pu fM 5) (q_wo fG fW jv 9) v1 (be, bw)).2 := by unfold q_wg; rw [if_pos cq]; first | (rw [if_pos cb, ← hw_6]; exact ⟨rfl, rfl⟩) | (rw [if_neg cb, if_pos cw]; exact ⟨rfl, rfl⟩) | (rw [if_neg cb, if_neg cw, ← hw_6]; exact ⟨rfl, rfl⟩)
        exact W.vret hx hb hr (fun t ht hW => ⟨⟨(be, bw), rfl, hpost_10, by rw [ht]; exact hP9, hD9⟩, hS.F ht⟩) hS.2.2 d_SettingSearch_weigh_69
      · skip
        have c_9 : ¬ r_5 ≤ bw := fun h => c_9 ((lg_cmp_le _ _).mpr h)
        have cw : ¬ q_wo fG fW jv 9 ≤ bw := by rw [← hw_6]; exact c_9
        refine lv_aload_n hx hb d_SettingSearch_weigh_53 rfl (lv_at hl 1 rfl) ?_
        refine va_get (D := (dC, dI)) (ci := 0) (v := .ref aS) (C := R_SettingSearch) (T := T_SettingSearch) (N := 6) hx hb hts in_SettingSearch hown hK hP 0 rfl rfl 4 (by decide) (hts _ tw_183) (fun _ h9 => h9) rfl d_SettingSearch_weigh_54 ?_
        refine lv_iload_n hx hb d_SettingSearch_weigh_57 rfl (lv_at hl 3 rfl) ?_
        refine va_putN (D := (dC, dI)) (ci := 6) (v := .int v1) (ty := .int) (C := R_Search) (T := T_Search) (N := 8) hx hb hts in_Search ty_Search ty_Search_ok nm_Search hown hK hP hD hS 1 rfl rfl 3 (by decide) (g_Nu hN (List.mem_of_getElem? (i := 10) rfl)) (fun _ h9 => h9) rfl (by decide +kernel) rfl rfl (Nat.le_of_ble_eq_true rfl) d_SettingSearch_weigh_58 (fun H locs hP hD hS => ?_)
        have hP : va_P (dC, dI) vw_cls [(a0, .inr (0, [.ref aM, .ref aR, .ref aW, .ref aF, .ref aS, .ref aKR])), (aS, .inr (6, [sv, .int go, .int ak, .int v1, .long bw, .int pt, .int ln, .ref aSo])), (aRp, .inl (cI, 4, .inl fPo)), (aRk, .inl (cI, 4, .inl fKi)), (aRa, .inl (cI, 4, .inl fAb)), (aRb, .inl (cI, 4, .inl fBe)), (aO, .inl (cI, 320, .inl fO)), (aR, .inr (5, [.int pu, .ref aRp, .ref aRk, .ref aRa, .ref aRb, .ref aRl])), (aRl, .inl (cI, 5, .inl fM)), (aA, .inr (2, [.long fd, .int ct, .ref aK, .ref aG, .ref aO])), (aG, .inl (cI, 576, .inl fG)), (aW, .inl (cI, 9, .inl fW))] H := hP
        have hD : va_D A [(a0, .inr (0, [.ref aM, .ref aR, .ref aW, .ref aF, .ref aS, .ref aKR])), (aS, .inr (6, [sv, .int go, .int ak, .int v1, .long bw, .int pt, .int ln, .ref aSo])), (aRp, .inl (cI, 4, .inl fPo)), (aRk, .inl (cI, 4, .inl fKi)), (aRa, .inl (cI, 4, .inl fAb)), (aRb, .inl (cI, 4, .inl fBe)), (aO, .inl (cI, 320, .inl fO)), (aR, .inr (5, [.int pu, .ref aRp, .ref aRk, .ref aRa, .ref aRb, .ref aRl])), (aRl, .inl (cI, 5, .inl fM)), (aA, .inr (2, [.long fd, .int ct, .ref aK, .ref aG, .ref aO])), (aG, .inl (cI, 576, .inl fG)), (aW, .inl (cI, 9, .inl fW))] := hD
        refine lv_aload_n hx hb d_SettingSearch_weigh_61 rfl (lv_at hl 1 rfl) ?_
        refine va_get (D := (dC, dI)) (ci := 0) (v := .ref aS) (C := R_SettingSearch) (T := T_SettingSearch) (N := 6) hx hb hts in_SettingSearch hown hK hP 0 rfl rfl 4 (by decide) (hts _ tw_183) (fun _ h9 => h9) rfl d_SettingSearch_weigh_62 ?_
        refine lv_lload_n hx hb d_SettingSearch_weigh_65 rfl (lv_at hl 0 rfl) ?_
        refine va_putN (D := (dC, dI)) (ci := 6) (v := .long r_5) (ty := .long) (C := R_Search) (T := T_Search) (N := 8) hx hb hts in_Search ty_Search ty_Search_ok nm_Search hown hK hP hD hS 1 rfl rfl 4 (by decide) (g_Nu hN (List.mem_of_getElem? (i := 11) rfl)) (fun _ h9 => h9) rfl (by decide +kernel) rfl rfl (Nat.le_of_ble_eq_true rfl) d_SettingSearch_weigh_66 (fun H locs hP hD hS => ?_)
        have hP : va_P (dC, dI) vw_cls [(a0, .inr (0, [.ref aM, .ref aR, .ref aW, .ref aF, .ref aS, .ref aKR])), (aS, .inr (6, [sv, .int go, .int ak, .int v1, .long r_5, .int pt, .int ln, .ref aSo])), (aRp, .inl (cI, 4, .inl fPo)), (aRk, .inl (cI, 4, .inl fKi)), (aRa, .inl (cI, 4, .inl fAb)), (aRb, .inl (cI, 4, .inl fBe)), (aO, .inl (cI, 320, .inl fO)), (aR, .inr (5, [.int pu, .ref aRp, .ref aRk, .ref aRa, .ref aRb, .ref aRl])), (aRl, .inl (cI, 5, .inl fM)), (aA, .inr (2, [.long fd, .int ct, .ref aK, .ref aG, .ref aO])), (aG, .inl (cI, 576, .inl fG)), (aW, .inl (cI, 9, .inl fW))] H := hP
        have hD : va_D A [(a0, .inr (0, [.ref aM, .ref aR, .ref aW, .ref aF, .ref aS, .ref aKR])), (aS, .inr (6, [sv, .int go, .int ak, .int v1, .long r_5, .int pt, .int ln, .ref aSo])), (aRp, .inl (cI, 4, .inl fPo)), (aRk, .inl (cI, 4, .inl fKi)), (aRa, .inl (cI, 4, .inl fAb)), (aRb, .inl (cI, 4, .inl fBe)), (aO, .inl (cI, 320, .inl fO)), (aR, .inr (5, [.int pu, .ref aRp, .ref aRk, .ref aRa, .ref aRb, .ref aRl])), (aRl, .inl (cI, 5, .inl fM)), (aA, .inr (2, [.long fd, .int ct, .ref aK, .ref aG, .ref aO])), (aG, .inl (cI, 576, .inl fG)), (aW, .inl (cI, 9, .inl fW))] := hD
        have hP9 := hP.sub (ws' := [(a0, .inr (0, [.ref aM, .ref aR, .ref aW, .ref aF, .ref aS, .ref aKR])), (aR, .inr (5, [.int pu, .ref aRp, .ref aRk, .ref aRa, .ref aRb, .ref aRl])), (aRp, .inl (cI, 4, .inl fPo)), (aRk, .inl (cI, 4, .inl fKi)), (aRa, .inl (cI, 4, .inl fAb)), (aRb, .inl (cI, 4, .inl fBe)), (aRl, .inl (cI, 5, .inl fM)), (aA, .inr (2, [.long fd, .int ct, .ref aK, .ref aG, .ref aO])), (aG, .inl (cI, 576, .inl fG)), (aO, .inl (cI, 320, .inl fO)), (aW, .inl (cI, 9, .inl fW)), (aS, .inr (6, [sv, .int go, .int ak, .int v1, .long r_5, .int pt, .int ln, .ref aSo]))]) [0, 7, 2, 3, 4, 5, 8, 9, 10, 6, 11, 1] rfl
        have hD9 := hD.sub (ws' := [(a0, .inr (0, [.ref aM, .ref aR, .ref aW, .ref aF, .ref aS, .ref aKR])), (aR, .inr (5, [.int pu, .ref aRp, .ref aRk, .ref aRa, .ref aRb, .ref aRl])), (aRp, .inl (cI, 4, .inl fPo)), (aRk, .inl (cI, 4, .inl fKi)), (aRa, .inl (cI, 4, .inl fAb)), (aRb, .inl (cI, 4, .inl fBe)), (aRl, .inl (cI, 5, .inl fM)), (aA, .inr (2, [.long fd, .int ct, .ref aK, .ref aG, .ref aO])), (aG, .inl (cI, 576, .inl fG)), (aO, .inl (cI, 320, .inl fO)), (aW, .inl (cI, 9, .inl fW)), (aS, .inr (6, [sv, .int go, .int ak, .int v1, .long r_5, .int pt, .int ln, .ref aSo]))]) [0, 7, 2, 3, 4, 5, 8, 9, 10, 6, 11, 1] (by decide) rfl
        have hpost_11 : v1 = (q_wg (q_kept fG fO fPo fKi fAb fBe fM np jv) (q_told pu fM 5) (q_wo fG fW jv 9) v1 (be, bw)).1 ∧ r_5 = (q_wg (q_kept fG fO fPo fKi fAb fBe fM np jv) (q_told pu fM 5) (q_wo fG fW jv 9) v1 (be, bw)).2 := by unfold q_wg; rw [if_pos cq]; first | (rw [if_pos cb, ← hw_6]; exact ⟨rfl, rfl⟩) | (rw [if_neg cb, if_pos cw]; exact ⟨rfl, rfl⟩) | (rw [if_neg cb, if_neg cw, ← hw_6]; exact ⟨rfl, rfl⟩)
        exact W.vret hx hb hr (fun t ht hW => ⟨⟨(v1, r_5), rfl, hpost_11, by rw [ht]; exact hP9, hD9⟩, hS.F ht⟩) hS.2.2 d_SettingSearch_weigh_69
  · skip
    have cq : ¬ q_kept fG fO fPo fKi fAb fBe fM np jv = q_told pu fM 5 := by rw [← hw_1, ← hw_3]; exact c_4
    have hP9 := hP.sub (ws' := [(a0, .inr (0, [.ref aM, .ref aR, .ref aW, .ref aF, .ref aS, .ref aKR])), (aR, .inr (5, [.int pu, .ref aRp, .ref aRk, .ref aRa, .ref aRb, .ref aRl])), (aRp, .inl (cI, 4, .inl fPo)), (aRk, .inl (cI, 4, .inl fKi)), (aRa, .inl (cI, 4, .inl fAb)), (aRb, .inl (cI, 4, .inl fBe)), (aRl, .inl (cI, 5, .inl fM)), (aA, .inr (2, [.long fd, .int ct, .ref aK, .ref aG, .ref aO])), (aG, .inl (cI, 576, .inl fG)), (aO, .inl (cI, 320, .inl fO)), (aW, .inl (cI, 9, .inl fW)), (aS, .inr (6, [sv, .int go, .int ak, .int be, .long bw, .int pt, .int ln, .ref aSo]))]) [0, 10, 3, 4, 5, 6, 11, 7, 8, 9, 1, 2] rfl
    have hD9 := hD.sub (ws' := [(a0, .inr (0, [.ref aM, .ref aR, .ref aW, .ref aF, .ref aS, .ref aKR])), (aR, .inr (5, [.int pu, .ref aRp, .ref aRk, .ref aRa, .ref aRb, .ref aRl])), (aRp, .inl (cI, 4, .inl fPo)), (aRk, .inl (cI, 4, .inl fKi)), (aRa, .inl (cI, 4, .inl fAb)), (aRb, .inl (cI, 4, .inl fBe)), (aRl, .inl (cI, 5, .inl fM)), (aA, .inr (2, [.long fd, .int ct, .ref aK, .ref aG, .ref aO])), (aG, .inl (cI, 576, .inl fG)), (aO, .inl (cI, 320, .inl fO)), (aW, .inl (cI, 9, .inl fW)), (aS, .inr (6, [sv, .int go, .int ak, .int be, .long bw, .int pt, .int ln, .ref aSo]))]) [0, 10, 3, 4, 5, 6, 11, 7, 8, 9, 1, 2] (by decide) rfl
    have hpost_12 : be = (q_wg (q_kept fG fO fPo fKi fAb fBe fM np jv) (q_told pu fM 5) (q_wo fG fW jv 9) v1 (be, bw)).1 ∧ bw = (q_wg (q_kept fG fO fPo fKi fAb fBe fM np jv) (q_told pu fM 5) (q_wo fG fW jv 9) v1 (be, bw)).2 := by unfold q_wg; rw [if_neg cq]; exact ⟨rfl, rfl⟩
    exact W.vret hx hb hr (fun t ht hW => ⟨⟨(be, bw), rfl, hpost_12, by rw [ht]; exact hP9, hD9⟩, hS.F ht⟩) hS.2.2 d_SettingSearch_weigh_19
