def q_told (pu : Int32) (fM : Nat → Int32) : Nat → Int32
  | 0 => (1 <<< (pu &&& 31)) - 1
  | k + 1 => if fM k = -1 then q_told pu fM k else q_told pu fM k ||| (1 <<< ((4 + nI k) &&& 31))
def q_all (fG : Nat → Int32) (jv po : Nat) : Nat → Int64
  | 0 => 0
  | k + 1 => q_all fG jv po k + (fG (jv * 9 + (po * 3 + k))).toInt64
def q_pure (fG fAb fBe : Nat → Int32) (jv jr po ki : Nat) : Int32 :=
  if (fG (jv * 9 + (po * 3 + ki))).toInt64 * (fBe jr).toInt64 < q_all fG jv po 3 * (fAb jr).toInt64 then 0 else 1
def q_kp (fG fPo fKi fAb fBe : Nat → Int32) (jv : Nat) : Nat → Int32
  | 0 => 0
  | k + 1 => if q_pure fG fAb fBe jv k (fPo k).toNatClampNeg (fKi k).toNatClampNeg = 0 then q_kp fG fPo fKi fAb fBe jv k else q_kp fG fPo fKi fAb fBe jv k ||| (1 <<< (nI k &&& 31))
def q_km (fO fM : Nat → Int32) (jv : Nat) (a : Int32) : Nat → Int32
  | 0 => a
  | k + 1 => if fM k = -1 then q_km fO fM jv a k else if fM k < fO (jv * 5 + k) then q_km fO fM jv a k else q_km fO fM jv a k ||| (1 <<< ((4 + nI k) &&& 31))
def q_kept (fG fO fPo fKi fAb fBe fM : Nat → Int32) (np jv : Nat) : Int32 := q_km fO fM jv (q_kp fG fPo fKi fAb fBe jv np) 5
abbrev q_okPK (fPo fKi : Nat → Int32) (np : Nat) : Prop := ∀ j, j < np → (fPo j = nI (fPo j).toNatClampNeg ∧ (fPo j).toNatClampNeg < 3) ∧ (fKi j = nI (fKi j).toNatClampNeg ∧ (fKi j).toNatClampNeg < 3)
abbrev q_puOk (pu over under : Int32) : Prop := ¬ 4 ≤ pu ∧ ¬ over < 0 ∧ ¬ 1000 < over ∧ ¬ under < 1 ∧ under ≤ 1000
set_option maxHeartbeats 4000000 in
set_option maxRecDepth 100000 in
/-- placeOf -/
theorem k_pl (l : Launch) (dC : Nat → ClassId) (dI : Nat → Nat → Nat) (sz : Nat) (cI : ClassId) (cZ : ClassId) (cQ : ClassId) (a1 : Int32) (b1 : Int32)  : Met l y_SettingSearch_placeOf w_SettingSearch_placeOf ({ frames := 0, cells := 0, slots := 0, locals := 0 } : Room) (va_Pc [.int a1, .int b1] (fun U => U.heap.size = sz ∧ va_P (dC, dI) vw_cls [] U.heap ∧ g_K dC dI [(cI, .int), (cZ, .boolean), (cQ, (.object "SettingSearch$Answers"))] U ∧ va_D (fun _ => True) [])) (va_Qi (fun (r : Int32) (u : Unit) => r = q_pl a1 b1) (fun (u : Unit) (t : State) => va_P (dC, dI) vw_cls [] t.heap ∧ va_D (va_A [] sz) []) (va_A [] sz)) 0 0 (va_A [] sz) := by
  refine Met.ofW (cc := b_SettingSearch_placeOf) (maxL := 2) (ret := (some .int)) (by decide) rfl ?_
  intro p e s m args below meth c s₁ B hml hv
  obtain ⟨rfl, hsz, hP, hKN, hD0⟩ := hv
  obtain ⟨hK, hN⟩ := id hKN
  have hx := B.exec
  have hb := B.bytes
  have hr := B.returns
  have hts0 := atoms_spec (ws := w_SettingSearch_placeOf) B.pre
  have hts : ∀ w ∈ lw_g, w.before _ s = true := fun w h => hts0 w (List.mem_cons_of_mem _ h)
  have hown : s.vm.findClass R_SettingSearch = some m.cls := findClass_of_methodNamed B.named
  have hlocks := B.notSynchronized
  subst hsz
  have hD := hD0.self (sz := s.heap.size)
  generalize hAe : va_A [] s.heap.size = A at hD ⊢
  have hA : ∀ q : Nat, s.heap.size ≤ q → A q := fun q h => by rw [← hAe]; exact Or.inr h
  have hP : va_P (dC, dI) vw_cls [] s.heap := hP
  have hl := lv_entry ([.int a1, .int b1]) (n := 2) (Nat.le_of_ble_eq_true rfl)
  rw [lg_entry_eq]
  generalize (lg_sl ([.int a1, .int b1]) ++ List.replicate (2 - (lg_sl ([.int a1, .int b1])).length) Slot.unset).toArray = ls at hl ⊢
  have hl : lv_has ls 2 [(0, .int a1), (1, .int b1)] := hl
  refine gw_start (fun H locs hH hlocs => ?_)
  rw [← hH] at hP
  have hS : va_S A s.heap H locs := by rw [hH, hlocs]; exact va_S.rf
  refine lv_iload_n hx hb d_SettingSearch_placeOf_0 rfl (lv_at hl 0 rfl) ?_
  refine lv_if_lt (tgt := 18) hx hb d_SettingSearch_placeOf_1 (by decide) (fun c_1 => ?_) (fun c_1 => ?_)
  · skip
    refine lv_iconst (v := (-1)) hx hb d_SettingSearch_placeOf_18 (by decide) ?_
    have hP9 := hP.sub (ws' := []) [] rfl
    have hD9 := hD.sub (ws' := []) [] (by decide) rfl
    have hpost_2 : ((-1) : Int32) = q_pl a1 b1 := by first | simp [q_pl, cx, c_1] | simp [q_pl, c_1]
    exact W.iret (v := (-1)) hx hb hr (fun t ht hW => ⟨⟨(-1), (), rfl, hpost_2, by rw [ht]; exact hP9, hD9⟩, hS.F ht⟩) hS.2.2 d_SettingSearch_placeOf_19
  · skip
    refine lv_iload_n hx hb d_SettingSearch_placeOf_4 rfl (lv_at hl 0 rfl) ?_
    refine lv_iconst (v := 3) hx hb d_SettingSearch_placeOf_5 (by decide) ?_
    refine lv_icmp_ge (tgt := 18) hx hb d_SettingSearch_placeOf_6 (by decide) (fun c_3 => ?_) (fun c_3 => ?_)
    · skip
      refine lv_iconst (v := (-1)) hx hb d_SettingSearch_placeOf_18 (by decide) ?_
      have hP9 := hP.sub (ws' := []) [] rfl
      have hD9 := hD.sub (ws' := []) [] (by decide) rfl
      have hpost_4 : ((-1) : Int32) = q_pl a1 b1 := by first | simp [q_pl, cx, c_1, c_3] | simp [q_pl, c_1, c_3]
      exact W.iret (v := (-1)) hx hb hr (fun t ht hW => ⟨⟨(-1), (), rfl, hpost_4, by rw [ht]; exact hP9, hD9⟩, hS.F ht⟩) hS.2.2 d_SettingSearch_placeOf_19
    · skip
      refine lv_iload_n hx hb d_SettingSearch_placeOf_9 rfl (lv_at hl 1 rfl) ?_
      refine lv_if_lt (tgt := 18) hx hb d_SettingSearch_placeOf_10 (by decide) (fun c_5 => ?_) (fun c_5 => ?_)
      · skip
        refine lv_iconst (v := (-1)) hx hb d_SettingSearch_placeOf_18 (by decide) ?_
        have hP9 := hP.sub (ws' := []) [] rfl
        have hD9 := hD.sub (ws' := []) [] (by decide) rfl
        have hpost_6 : ((-1) : Int32) = q_pl a1 b1 := by first | simp [q_pl, cx, c_1, c_3, c_5] | simp [q_pl, c_1, c_3, c_5]
        exact W.iret (v := (-1)) hx hb hr (fun t ht hW => ⟨⟨(-1), (), rfl, hpost_6, by rw [ht]; exact hP9, hD9⟩, hS.F ht⟩) hS.2.2 d_SettingSearch_placeOf_19
      · skip
        refine lv_iload_n hx hb d_SettingSearch_placeOf_13 rfl (lv_at hl 1 rfl) ?_
        refine lv_iconst (v := 3) hx hb d_SettingSearch_placeOf_14 (by decide) ?_
        refine lv_icmp_lt (tgt := 20) hx hb d_SettingSearch_placeOf_15 (by decide) (fun c_7 => ?_) (fun c_7 => ?_)
        · skip
          have cx : ¬ 3 ≤ b1 := Int32.not_le.mpr c_7
          refine lv_iload_n hx hb d_SettingSearch_placeOf_20 rfl (lv_at hl 0 rfl) ?_
          refine lv_iconst (v := 3) hx hb d_SettingSearch_placeOf_21 (by decide) ?_
          refine lv_imul hx hb d_SettingSearch_placeOf_22 ?_
          refine lv_topi (fun v_8 ev_8 => ?_)
          refine lv_iload_n hx hb d_SettingSearch_placeOf_23 rfl (lv_at hl 1 rfl) ?_
          refine lv_iadd hx hb d_SettingSearch_placeOf_24 ?_
          refine lv_topi (fun v_9 ev_9 => ?_)
          have hP9 := hP.sub (ws' := []) [] rfl
          have hD9 := hD.sub (ws' := []) [] (by decide) rfl
          have hpost_10 : (v_9 : Int32) = q_pl a1 b1 := by first | simp [q_pl, cx, c_1, c_3, c_5, c_7, ev_8, ev_9] | simp [q_pl, c_1, c_3, c_5, c_7, ev_8, ev_9]
          exact W.iret (v := v_9) hx hb hr (fun t ht hW => ⟨⟨v_9, (), rfl, hpost_10, by rw [ht]; exact hP9, hD9⟩, hS.F ht⟩) hS.2.2 d_SettingSearch_placeOf_25
        · skip
          have cx : 3 ≤ b1 := Int32.not_lt.mp c_7
          refine lv_iconst (v := (-1)) hx hb d_SettingSearch_placeOf_18 (by decide) ?_
          have hP9 := hP.sub (ws' := []) [] rfl
          have hD9 := hD.sub (ws' := []) [] (by decide) rfl
          have hpost_11 : ((-1) : Int32) = q_pl a1 b1 := by first | simp [q_pl, cx, c_1, c_3, c_5, c_7] | simp [q_pl, c_1, c_3, c_5, c_7]
          exact W.iret (v := (-1)) hx hb hr (fun t ht hW => ⟨⟨(-1), (), rfl, hpost_11, by rw [ht]; exact hP9, hD9⟩, hS.F ht⟩) hS.2.2 d_SettingSearch_placeOf_19
set_option maxHeartbeats 4000000 in
set_option maxRecDepth 100000 in
theorem L_told {p : Program} {l : Launch} {e : Env} {s : State} {m : MethodId} {args : Array Value} {below : List Frame} {meth : Method} {c : Code} {Q : State → Prop} {A : Nat → Prop} (hx : p.tables.exec = Jvm.exec) (hb : c.code = b_Rules_told) (hml : c.maxLocals = 3) (hown : s.vm.findClass R_Rules = some m.cls) (hts : ∀ w ∈ lw_g, w.before args s = true) (hA : ∀ q, s.heap.size ≤ q → A q) {dC : Nat → ClassId} {dI : Nat → Nat → Nat} (cI : ClassId) (cZ : ClassId) (cQ : ClassId) (aR : Nat) (aRp : Nat) (aRk : Nat) (aRa : Nat) (aRb : Nat) (aRl : Nat) (pu : Int32) (fM : Nat → Int32)    (hKN : g_K dC dI [(cI, .int), (cZ, .boolean), (cQ, (.object "SettingSearch$Answers"))] s)
    (kx_40 : ∀ (i : Nat) (xi : Int32) (acc : Int32) (_ : i ≤ 5) (_ : xi = nI i) (_ : acc = q_told pu fM i) (_ : i = 5) (H : Heap) (locs : List Loc), va_P (dC, dI) vw_cls [(aR, .inr (5, [.int pu, .ref aRp, .ref aRk, .ref aRa, .ref aRb, .ref aRl])), (aRl, .inl (cI, 5, .inl fM))] H → va_D A [(aR, .inr (5, [.int pu, .ref aRp, .ref aRk, .ref aRa, .ref aRb, .ref aRl])), (aRl, .inl (cI, 5, .inl fM))] → va_S A s.heap H locs → ∀ (ls : Array Slot), lv_has ls 3 [(0, .ref aR), (1, .int acc), (2, .int xi)] → W p l e ({ frames := 0, cells := 0, slots := 0, locals := 0 } : Room) s m args below meth c H locs 0 0 Q (F0 m 40 ls [])) :
    ∀ (n : Nat) (i : Nat) (xi : Int32) (acc : Int32) (_ : i ≤ 5) (_ : xi = nI i) (_ : acc = q_told pu fM i) (_ : 5 - i < n) (H : Heap) (locs : List Loc), va_P (dC, dI) vw_cls [(aR, .inr (5, [.int pu, .ref aRp, .ref aRk, .ref aRa, .ref aRb, .ref aRl])), (aRl, .inl (cI, 5, .inl fM))] H → va_D A [(aR, .inr (5, [.int pu, .ref aRp, .ref aRk, .ref aRa, .ref aRb, .ref aRl])), (aRl, .inl (cI, 5, .inl fM))] → va_S A s.heap H locs → ∀ (ls : Array Slot), lv_has ls 3 [(0, .ref aR), (1, .int acc), (2, .int xi)] → W p l e ({ frames := 0, cells := 0, slots := 0, locals := 0 } : Room) s m args below meth c H locs 0 0 Q (F0 m 11 ls []) := by
  obtain ⟨hK, hN⟩ := id hKN
  intro n
  induction n with
  | zero =>
    intro i xi acc hi exi eacc hm
    exact absurd hm (Nat.not_lt_zero _)
  | succ n ih =>
    intro i xi acc hi exi eacc hm H locs hP hD hS ls hl
    refine lv_iload_n hx hb d_Rules_told_11 rfl (lv_at hl 2 rfl) ?_
    refine lv_iconst (v := 5) hx hb d_Rules_told_12 (by decide) ?_
    refine lv_icmp_ge (tgt := 40) hx hb d_Rules_told_13 (by decide) (fun c_1 => ?_) (fun c_1 => ?_)
    · skip
      have hendi := lp_ge (N := 5) c_1 exi rfl hi (by omega)
      exact kx_40 i xi acc hi exi eacc hendi H locs (hP.sub [0, 1] rfl) (hD.sub [0, 1] (by decide) rfl) hS ls (lv_sub hl [0, 1, 2] rfl)
    · skip
      have hlti := lp_lt (N := 5) c_1 exi rfl (by omega)
      refine lv_aload_n hx hb d_Rules_told_16 rfl (lv_at hl 0 rfl) ?_
      refine va_get (D := (dC, dI)) (ci := 5) (v := .ref aRl) (C := R_Rules) (T := T_Rules) (N := 6) hx hb hts in_Rules hown hK hP 0 rfl rfl 5 (by decide) (hts _ tw_80) (fun _ h9 => h9) rfl d_Rules_told_17 ?_
      refine lv_iload_n hx hb d_Rules_told_20 rfl (lv_at hl 2 rfl) ?_
      have eh_2 : xi = nI (i) := exi
      have bh_2 : i < 5 := by omega
      have h_2 : vp_in xi 5 := by rw [eh_2]; exact vp_in_nI bh_2 (by decide)
      have kh_2 : xi.toNatClampNeg = i := by rw [eh_2]; exact nI_clamp (by omega)
      refine va_iald hx hb hK hP 1 0 rfl rfl h_2 d_Rules_told_21 ?_
      rw [kh_2]
      refine lv_topi (fun v_3 ev_3 => ?_)
      refine lv_iconst (v := (-1)) hx hb d_Rules_told_22 (by decide) ?_
      refine lv_icmp_eq (tgt := 34) hx hb d_Rules_told_23 (by decide) (fun c_4 => ?_) (fun c_4 => ?_)
      · skip
        have cq : fM i = -1 := by rw [← ev_3]; exact c_4
        obtain ⟨v_5, ev_5⟩ : ∃ y : Int32, y = xi + 1 := ⟨_, rfl⟩
        refine lv_iinc (v := v_5) (lv' := [(2, .int v_5), (0, .ref aR), (1, .int acc)]) hx hb d_Rules_told_34 hl (k := 2) rfl (by rw [ev_5]; rfl) (by decide) rfl (fun ls hl => ?_)
        refine lv_goto (tgt := 11) hx hb d_Rules_told_37 (by decide) ?_
        exact ih (i + 1) v_5 acc hlti (by rw [ev_5, exi]; exact nI_1 i) (by first | (rw [q_told, if_pos cq, eacc]; done) | (rw [q_told, if_neg cq]; simp only [ev_3, ev_5, eacc, exi])) (by omega) H locs (hP.sub [0, 1] rfl) (hD.sub [0, 1] (by decide) rfl) hS ls (lv_sub hl [1, 2, 0] rfl)
      · skip
        have cq : ¬ fM i = -1 := by rw [← ev_3]; exact c_4
        refine lv_iload_n hx hb d_Rules_told_26 rfl (lv_at hl 1 rfl) ?_
        refine lv_iconst (v := 1) hx hb d_Rules_told_27 (by decide) ?_
        refine lv_iconst (v := 4) hx hb d_Rules_told_28 (by decide) ?_
        refine lv_iload_n hx hb d_Rules_told_29 rfl (lv_at hl 2 rfl) ?_
        refine lv_iadd hx hb d_Rules_told_30 ?_
        refine lv_topi (fun v_6 ev_6 => ?_)
        refine lv_ishl hx hb d_Rules_told_31 ?_
        refine lv_topi (fun v_7 ev_7 => ?_)
        refine lv_ior hx hb d_Rules_told_32 ?_
        refine lv_topi (fun v_8 ev_8 => ?_)
        refine lv_istore_n (lv' := [(1, .int v_8), (0, .ref aR), (2, .int xi)]) hx hb d_Rules_told_33 rfl hl (by decide) rfl (fun ls hl => ?_)
        obtain ⟨v_9, ev_9⟩ : ∃ y : Int32, y = xi + 1 := ⟨_, rfl⟩
        refine lv_iinc (v := v_9) (lv' := [(2, .int v_9), (1, .int v_8), (0, .ref aR)]) hx hb d_Rules_told_34 hl (k := 2) rfl (by rw [ev_9]; rfl) (by decide) rfl (fun ls hl => ?_)
        refine lv_goto (tgt := 11) hx hb d_Rules_told_37 (by decide) ?_
        exact ih (i + 1) v_9 v_8 hlti (by rw [ev_9, exi]; exact nI_1 i) (by first | (rw [q_told, if_pos cq, eacc]; done) | (rw [q_told, if_neg cq]; simp only [ev_3, ev_6, ev_7, ev_8, ev_9, eacc, exi])) (by omega) H locs (hP.sub [0, 1] rfl) (hD.sub [0, 1] (by decide) rfl) hS ls (lv_sub hl [2, 1, 0] rfl)
set_option maxHeartbeats 4000000 in
set_option maxRecDepth 100000 in
/-- told -/
theorem k_told (l : Launch) (dC : Nat → ClassId) (dI : Nat → Nat → Nat) (sz : Nat) (cI : ClassId) (cZ : ClassId) (cQ : ClassId) (aR : Nat) (aRp : Nat) (aRk : Nat) (aRa : Nat) (aRb : Nat) (aRl : Nat) (pu : Int32) (fM : Nat → Int32)  : Met l y_Rules_told w_Rules_told ({ frames := 0, cells := 0, slots := 0, locals := 0 } : Room) (va_Pc [.ref aR] (fun U => U.heap.size = sz ∧ va_P (dC, dI) vw_cls [(aR, .inr (5, [.int pu, .ref aRp, .ref aRk, .ref aRa, .ref aRb, .ref aRl])), (aRl, .inl (cI, 5, .inl fM))] U.heap ∧ g_K dC dI [(cI, .int), (cZ, .boolean), (cQ, (.object "SettingSearch$Answers"))] U ∧ va_D (fun _ => True) [(aR, .inr (5, [.int pu, .ref aRp, .ref aRk, .ref aRa, .ref aRb, .ref aRl])), (aRl, .inl (cI, 5, .inl fM))])) (va_Qi (fun (r : Int32) (u : Unit) => r = q_told pu fM 5) (fun (u : Unit) (t : State) => va_P (dC, dI) vw_cls [(aR, .inr (5, [.int pu, .ref aRp, .ref aRk, .ref aRa, .ref aRb, .ref aRl])), (aRl, .inl (cI, 5, .inl fM))] t.heap ∧ va_D (va_A [(aR, .inr (5, [.int pu, .ref aRp, .ref aRk, .ref aRa, .ref aRb, .ref aRl])), (aRl, .inl (cI, 5, .inl fM))] sz) [(aR, .inr (5, [.int pu, .ref aRp, .ref aRk, .ref aRa, .ref aRb, .ref aRl])), (aRl, .inl (cI, 5, .inl fM))]) (va_A [(aR, .inr (5, [.int pu, .ref aRp, .ref aRk, .ref aRa, .ref aRb, .ref aRl])), (aRl, .inl (cI, 5, .inl fM))] sz)) 0 0 (va_A [(aR, .inr (5, [.int pu, .ref aRp, .ref aRk, .ref aRa, .ref aRb, .ref aRl])), (aRl, .inl (cI, 5, .inl fM))] sz) := by
  refine Met.ofW (cc := b_Rules_told) (maxL := 3) (ret := (some .int)) (by decide) rfl ?_
  intro p e s m args below meth c s₁ B hml hv
  obtain ⟨rfl, hsz, hP, hKN, hD0⟩ := hv
  obtain ⟨hK, hN⟩ := id hKN
  have hx := B.exec
  have hb := B.bytes
  have hr := B.returns
  have hts0 := atoms_spec (ws := w_Rules_told) B.pre
  have hts : ∀ w ∈ lw_g, w.before _ s = true := fun w h => hts0 w (List.mem_cons_of_mem _ h)
  have hown : s.vm.findClass R_Rules = some m.cls := findClass_of_methodNamed B.named
  have hlocks := B.notSynchronized
  subst hsz
  have hD := hD0.self (sz := s.heap.size)
  generalize hAe : va_A [(aR, .inr (5, [.int pu, .ref aRp, .ref aRk, .ref aRa, .ref aRb, .ref aRl])), (aRl, .inl (cI, 5, .inl fM))] s.heap.size = A at hD ⊢
  have hA : ∀ q : Nat, s.heap.size ≤ q → A q := fun q h => by rw [← hAe]; exact Or.inr h
  have hP : va_P (dC, dI) vw_cls [(aR, .inr (5, [.int pu, .ref aRp, .ref aRk, .ref aRa, .ref aRb, .ref aRl])), (aRl, .inl (cI, 5, .inl fM))] s.heap := hP
  have hl := lv_entry ([.ref aR]) (n := 3) (Nat.le_of_ble_eq_true rfl)
  rw [lg_entry_eq]
  generalize (lg_sl ([.ref aR]) ++ List.replicate (3 - (lg_sl ([.ref aR])).length) Slot.unset).toArray = ls at hl ⊢
  have hl : lv_has ls 3 [(0, .ref aR)] := hl
  refine gw_start (fun H locs hH hlocs => ?_)
  rw [← hH] at hP
  have hS : va_S A s.heap H locs := by rw [hH, hlocs]; exact va_S.rf
  refine lv_iconst (v := 1) hx hb d_Rules_told_0 (by decide) ?_
  refine lv_aload_n hx hb d_Rules_told_1 rfl (lv_at hl 0 rfl) ?_
  refine va_get (D := (dC, dI)) (ci := 5) (v := .int pu) (C := R_Rules) (T := T_Rules) (N := 6) hx hb hts in_Rules hown hK hP 0 rfl rfl 0 (by decide) (hts _ tw_75) (fun _ h9 => h9) rfl d_Rules_told_2 ?_
  refine lv_ishl hx hb d_Rules_told_5 ?_
  refine lv_topi (fun v_1 ev_1 => ?_)
  refine lv_iconst (v := 1) hx hb d_Rules_told_6 (by decide) ?_
  refine lv_isub hx hb d_Rules_told_7 ?_
  refine lv_topi (fun v_2 ev_2 => ?_)
  refine lv_istore_n (lv' := [(1, .int v_2), (0, .ref aR)]) hx hb d_Rules_told_8 rfl hl (by decide) rfl (fun ls hl => ?_)
  refine lv_iconst (v := 0) hx hb d_Rules_told_9 (by decide) ?_
  refine lv_istore_n (lv' := [(2, .int 0), (1, .int v_2), (0, .ref aR)]) hx hb d_Rules_told_10 rfl hl (by decide) rfl (fun ls hl => ?_)
  refine L_told hx hb hml hown hts hA cI cZ cQ aR aRp aRk aRa aRb aRl pu fM hKN ?_ (5 - 0 + 1) 0 0 v_2 (Nat.zero_le _) rfl (by simp only [ev_1, ev_2]; rfl) (Nat.lt_succ_self _) H locs (hP.sub [0, 1] rfl) (hD.sub [0, 1] (by decide) rfl) hS ls (lv_sub hl [2, 1, 0] rfl)
  intro i xi acc hi exi eacc hendi H locs hP hD hS ls hl
  have hl : lv_has ls 3 [(0, .ref aR), (1, .int acc), (2, .int xi)] := hl
  have hP : va_P (dC, dI) vw_cls [(aR, .inr (5, [.int pu, .ref aRp, .ref aRk, .ref aRa, .ref aRb, .ref aRl])), (aRl, .inl (cI, 5, .inl fM))] H := hP
  have hD : va_D A [(aR, .inr (5, [.int pu, .ref aRp, .ref aRk, .ref aRa, .ref aRb, .ref aRl])), (aRl, .inl (cI, 5, .inl fM))] := hD
  refine lv_iload_n hx hb d_Rules_told_40 rfl (lv_at hl 1 rfl) ?_
  have hP9 := hP.sub (ws' := [(aR, .inr (5, [.int pu, .ref aRp, .ref aRk, .ref aRa, .ref aRb, .ref aRl])), (aRl, .inl (cI, 5, .inl fM))]) [0, 1] rfl
  have hD9 := hD.sub (ws' := [(aR, .inr (5, [.int pu, .ref aRp, .ref aRk, .ref aRa, .ref aRb, .ref aRl])), (aRl, .inl (cI, 5, .inl fM))]) [0, 1] (by decide) rfl
  have hpost_3 : (acc : Int32) = q_told pu fM 5 := by rw [eacc, hendi]
  exact W.iret (v := acc) hx hb hr (fun t ht hW => ⟨⟨acc, (), rfl, hpost_3, by rw [ht]; exact hP9, hD9⟩, hS.F ht⟩) hS.2.2 d_Rules_told_41
set_option maxHeartbeats 4000000 in
set_option maxRecDepth 100000 in
/-- addPurity -/
theorem k_ap (l : Launch) (dC : Nat → ClassId) (dI : Nat → Nat → Nat) (sz : Nat) (cI : ClassId) (cZ : ClassId) (cQ : ClassId) (aR : Nat) (aRp : Nat) (aRk : Nat) (aRa : Nat) (aRb : Nat) (aRl : Nat) (pu : Int32) (fPo : Nat → Int32) (fKi : Nat → Int32) (fAb : Nat → Int32) (fBe : Nat → Int32) (p1 : Int32) (k1 : Int32) (o1 : Int32) (u1 : Int32) (np : Nat) (hpu : pu = nI np) (hnp : np ≤ 4) : Met l y_Rules_addPurity w_Rules_addPurity ({ frames := 0, cells := 0, slots := 0, locals := 0 } : Room) (va_Pc [.ref aR, .int p1, .int k1, .int o1, .int u1] (fun U => U.heap.size = sz ∧ va_P (dC, dI) vw_cls [(aR, .inr (5, [.int pu, .ref aRp, .ref aRk, .ref aRa, .ref aRb, .ref aRl])), (aRp, .inl (cI, 4, .inl fPo)), (aRk, .inl (cI, 4, .inl fKi)), (aRa, .inl (cI, 4, .inl fAb)), (aRb, .inl (cI, 4, .inl fBe))] U.heap ∧ g_K dC dI [(cI, .int), (cZ, .boolean), (cQ, (.object "SettingSearch$Answers"))] U ∧ va_D (fun _ => True) [(aR, .inr (5, [.int pu, .ref aRp, .ref aRk, .ref aRa, .ref aRb, .ref aRl])), (aRp, .inl (cI, 4, .inl fPo)), (aRk, .inl (cI, 4, .inl fKi)), (aRa, .inl (cI, 4, .inl fAb)), (aRb, .inl (cI, 4, .inl fBe))])) (va_Qi (fun (r : Int32) (u : Int32 × (Nat → Int32) × (Nat → Int32) × (Nat → Int32) × (Nat → Int32)) => (q_puOk pu o1 u1 ∧ r = pu ∧ u.1 = pu + 1 ∧ u.2.1 = upd fPo np p1 ∧ u.2.2.1 = upd fKi np k1 ∧ u.2.2.2.1 = upd fAb np o1 ∧ u.2.2.2.2 = upd fBe np u1) ∨ (¬ q_puOk pu o1 u1 ∧ r = -1 ∧ u.1 = pu ∧ u.2.1 = fPo ∧ u.2.2.1 = fKi ∧ u.2.2.2.1 = fAb ∧ u.2.2.2.2 = fBe)) (fun (u : Int32 × (Nat → Int32) × (Nat → Int32) × (Nat → Int32) × (Nat → Int32)) (t : State) => va_P (dC, dI) vw_cls [(aR, .inr (5, [.int u.1, .ref aRp, .ref aRk, .ref aRa, .ref aRb, .ref aRl])), (aRp, .inl (cI, 4, .inl u.2.1)), (aRk, .inl (cI, 4, .inl u.2.2.1)), (aRa, .inl (cI, 4, .inl u.2.2.2.1)), (aRb, .inl (cI, 4, .inl u.2.2.2.2))] t.heap ∧ va_D (va_A [(aR, .inr (5, [.int pu, .ref aRp, .ref aRk, .ref aRa, .ref aRb, .ref aRl])), (aRp, .inl (cI, 4, .inl fPo)), (aRk, .inl (cI, 4, .inl fKi)), (aRa, .inl (cI, 4, .inl fAb)), (aRb, .inl (cI, 4, .inl fBe))] sz) [(aR, .inr (5, [.int u.1, .ref aRp, .ref aRk, .ref aRa, .ref aRb, .ref aRl])), (aRp, .inl (cI, 4, .inl u.2.1)), (aRk, .inl (cI, 4, .inl u.2.2.1)), (aRa, .inl (cI, 4, .inl u.2.2.2.1)), (aRb, .inl (cI, 4, .inl u.2.2.2.2))]) (va_A [(aR, .inr (5, [.int pu, .ref aRp, .ref aRk, .ref aRa, .ref aRb, .ref aRl])), (aRp, .inl (cI, 4, .inl fPo)), (aRk, .inl (cI, 4, .inl fKi)), (aRa, .inl (cI, 4, .inl fAb)), (aRb, .inl (cI, 4, .inl fBe))] sz)) 0 0 (va_A [(aR, .inr (5, [.int pu, .ref aRp, .ref aRk, .ref aRa, .ref aRb, .ref aRl])), (aRp, .inl (cI, 4, .inl fPo)), (aRk, .inl (cI, 4, .inl fKi)), (aRa, .inl (cI, 4, .inl fAb)), (aRb, .inl (cI, 4, .inl fBe))] sz) := by
  refine Met.ofW (cc := b_Rules_addPurity) (maxL := 5) (ret := (some .int)) (by decide) rfl ?_
  intro p e s m args below meth c s₁ B hml hv
  obtain ⟨rfl, hsz, hP, hKN, hD0⟩ := hv
  obtain ⟨hK, hN⟩ := id hKN
  have hx := B.exec
  have hb := B.bytes
  have hr := B.returns
  have hts0 := atoms_spec (ws := w_Rules_addPurity) B.pre
  have hts : ∀ w ∈ lw_g, w.before _ s = true := fun w h => hts0 w (List.mem_cons_of_mem _ h)
  have hown : s.vm.findClass R_Rules = some m.cls := findClass_of_methodNamed B.named
  have hlocks := B.notSynchronized
  subst hsz
  have hD := hD0.self (sz := s.heap.size)
  generalize hAe : va_A [(aR, .inr (5, [.int pu, .ref aRp, .ref aRk, .ref aRa, .ref aRb, .ref aRl])), (aRp, .inl (cI, 4, .inl fPo)), (aRk, .inl (cI, 4, .inl fKi)), (aRa, .inl (cI, 4, .inl fAb)), (aRb, .inl (cI, 4, .inl fBe))] s.heap.size = A at hD ⊢
  have hA : ∀ q : Nat, s.heap.size ≤ q → A q := fun q h => by rw [← hAe]; exact Or.inr h
  have hP : va_P (dC, dI) vw_cls [(aR, .inr (5, [.int pu, .ref aRp, .ref aRk, .ref aRa, .ref aRb, .ref aRl])), (aRp, .inl (cI, 4, .inl fPo)), (aRk, .inl (cI, 4, .inl fKi)), (aRa, .inl (cI, 4, .inl fAb)), (aRb, .inl (cI, 4, .inl fBe))] s.heap := hP
  have hl := lv_entry ([.ref aR, .int p1, .int k1, .int o1, .int u1]) (n := 5) (Nat.le_of_ble_eq_true rfl)
  rw [lg_entry_eq]
  generalize (lg_sl ([.ref aR, .int p1, .int k1, .int o1, .int u1]) ++ List.replicate (5 - (lg_sl ([.ref aR, .int p1, .int k1, .int o1, .int u1])).length) Slot.unset).toArray = ls at hl ⊢
  have hl : lv_has ls 5 [(0, .ref aR), (1, .int p1), (2, .int k1), (3, .int o1), (4, .int u1)] := hl
  refine gw_start (fun H locs hH hlocs => ?_)
  rw [← hH] at hP
  have hS : va_S A s.heap H locs := by rw [hH, hlocs]; exact va_S.rf
  refine lv_aload_n hx hb d_Rules_addPurity_0 rfl (lv_at hl 0 rfl) ?_
  refine va_get (D := (dC, dI)) (ci := 5) (v := .int pu) (C := R_Rules) (T := T_Rules) (N := 6) hx hb hts in_Rules hown hK hP 0 rfl rfl 0 (by decide) (hts _ tw_75) (fun _ h9 => h9) rfl d_Rules_addPurity_1 ?_
  refine lv_iconst (v := 4) hx hb d_Rules_addPurity_4 (by decide) ?_
  refine lv_icmp_ge (tgt := 33) hx hb d_Rules_addPurity_5 (by decide) (fun c_1 => ?_) (fun c_1 => ?_)
  · skip
    have hbad : ¬ q_puOk pu o1 u1 := fun q => q.1 c_1
    refine lv_iconst (v := (-1)) hx hb d_Rules_addPurity_33 (by decide) ?_
    have hP9 := hP.sub (ws' := [(aR, .inr (5, [.int pu, .ref aRp, .ref aRk, .ref aRa, .ref aRb, .ref aRl])), (aRp, .inl (cI, 4, .inl fPo)), (aRk, .inl (cI, 4, .inl fKi)), (aRa, .inl (cI, 4, .inl fAb)), (aRb, .inl (cI, 4, .inl fBe))]) [0, 1, 2, 3, 4] rfl
    have hD9 := hD.sub (ws' := [(aR, .inr (5, [.int pu, .ref aRp, .ref aRk, .ref aRa, .ref aRb, .ref aRl])), (aRp, .inl (cI, 4, .inl fPo)), (aRk, .inl (cI, 4, .inl fKi)), (aRa, .inl (cI, 4, .inl fAb)), (aRb, .inl (cI, 4, .inl fBe))]) [0, 1, 2, 3, 4] (by decide) rfl
    have hpost_2 : (q_puOk pu o1 u1 ∧ ((-1) : Int32) = pu ∧ pu = pu + 1 ∧ fPo = upd fPo np p1 ∧ fKi = upd fKi np k1 ∧ fAb = upd fAb np o1 ∧ fBe = upd fBe np u1) ∨ (¬ q_puOk pu o1 u1 ∧ ((-1) : Int32) = -1 ∧ pu = pu ∧ fPo = fPo ∧ fKi = fKi ∧ fAb = fAb ∧ fBe = fBe) := Or.inr ⟨hbad, rfl, rfl, rfl, rfl, rfl, rfl⟩
    exact W.iret (v := (-1)) hx hb hr (fun t ht hW => ⟨⟨(-1), (pu, fPo, fKi, fAb, fBe), rfl, hpost_2, by rw [ht]; exact hP9, hD9⟩, hS.F ht⟩) hS.2.2 d_Rules_addPurity_34
  · skip
    have c1 := c_1
    refine lv_iload_n hx hb d_Rules_addPurity_8 rfl (lv_at hl 3 rfl) ?_
    refine lv_if_lt (tgt := 33) hx hb d_Rules_addPurity_9 (by decide) (fun c_3 => ?_) (fun c_3 => ?_)
    · skip
      have hbad : ¬ q_puOk pu o1 u1 := fun q => q.2.1 c_3
      refine lv_iconst (v := (-1)) hx hb d_Rules_addPurity_33 (by decide) ?_
      have hP9 := hP.sub (ws' := [(aR, .inr (5, [.int pu, .ref aRp, .ref aRk, .ref aRa, .ref aRb, .ref aRl])), (aRp, .inl (cI, 4, .inl fPo)), (aRk, .inl (cI, 4, .inl fKi)), (aRa, .inl (cI, 4, .inl fAb)), (aRb, .inl (cI, 4, .inl fBe))]) [0, 1, 2, 3, 4] rfl
      have hD9 := hD.sub (ws' := [(aR, .inr (5, [.int pu, .ref aRp, .ref aRk, .ref aRa, .ref aRb, .ref aRl])), (aRp, .inl (cI, 4, .inl fPo)), (aRk, .inl (cI, 4, .inl fKi)), (aRa, .inl (cI, 4, .inl fAb)), (aRb, .inl (cI, 4, .inl fBe))]) [0, 1, 2, 3, 4] (by decide) rfl
      have hpost_4 : (q_puOk pu o1 u1 ∧ ((-1) : Int32) = pu ∧ pu = pu + 1 ∧ fPo = upd fPo np p1 ∧ fKi = upd fKi np k1 ∧ fAb = upd fAb np o1 ∧ fBe = upd fBe np u1) ∨ (¬ q_puOk pu o1 u1 ∧ ((-1) : Int32) = -1 ∧ pu = pu ∧ fPo = fPo ∧ fKi = fKi ∧ fAb = fAb ∧ fBe = fBe) := Or.inr ⟨hbad, rfl, rfl, rfl, rfl, rfl, rfl⟩
      exact W.iret (v := (-1)) hx hb hr (fun t ht hW => ⟨⟨(-1), (pu, fPo, fKi, fAb, fBe), rfl, hpost_4, by rw [ht]; exact hP9, hD9⟩, hS.F ht⟩) hS.2.2 d_Rules_addPurity_34
    · skip
      have c2 := c_3
      refine lv_iload_n hx hb d_Rules_addPurity_12 rfl (lv_at hl 3 rfl) ?_
      refine lv_sipush (v := 1000) hx hb d_Rules_addPurity_13 (by decide) ?_
      refine lv_icmp_gt (tgt := 33) hx hb d_Rules_addPurity_16 (by decide) (fun c_5 => ?_) (fun c_5 => ?_)
      · skip
        have hbad : ¬ q_puOk pu o1 u1 := fun q => q.2.2.1 c_5
        refine lv_iconst (v := (-1)) hx hb d_Rules_addPurity_33 (by decide) ?_
        have hP9 := hP.sub (ws' := [(aR, .inr (5, [.int pu, .ref aRp, .ref aRk, .ref aRa, .ref aRb, .ref aRl])), (aRp, .inl (cI, 4, .inl fPo)), (aRk, .inl (cI, 4, .inl fKi)), (aRa, .inl (cI, 4, .inl fAb)), (aRb, .inl (cI, 4, .inl fBe))]) [0, 1, 2, 3, 4] rfl
        have hD9 := hD.sub (ws' := [(aR, .inr (5, [.int pu, .ref aRp, .ref aRk, .ref aRa, .ref aRb, .ref aRl])), (aRp, .inl (cI, 4, .inl fPo)), (aRk, .inl (cI, 4, .inl fKi)), (aRa, .inl (cI, 4, .inl fAb)), (aRb, .inl (cI, 4, .inl fBe))]) [0, 1, 2, 3, 4] (by decide) rfl
        have hpost_6 : (q_puOk pu o1 u1 ∧ ((-1) : Int32) = pu ∧ pu = pu + 1 ∧ fPo = upd fPo np p1 ∧ fKi = upd fKi np k1 ∧ fAb = upd fAb np o1 ∧ fBe = upd fBe np u1) ∨ (¬ q_puOk pu o1 u1 ∧ ((-1) : Int32) = -1 ∧ pu = pu ∧ fPo = fPo ∧ fKi = fKi ∧ fAb = fAb ∧ fBe = fBe) := Or.inr ⟨hbad, rfl, rfl, rfl, rfl, rfl, rfl⟩
        exact W.iret (v := (-1)) hx hb hr (fun t ht hW => ⟨⟨(-1), (pu, fPo, fKi, fAb, fBe), rfl, hpost_6, by rw [ht]; exact hP9, hD9⟩, hS.F ht⟩) hS.2.2 d_Rules_addPurity_34
      · skip
        have c3 := c_5
        refine lv_iload hx hb d_Rules_addPurity_19 (lv_at hl 4 rfl) ?_
        refine lv_iconst (v := 1) hx hb d_Rules_addPurity_21 (by decide) ?_
        refine lv_icmp_lt (tgt := 33) hx hb d_Rules_addPurity_22 (by decide) (fun c_7 => ?_) (fun c_7 => ?_)
        · skip
          have hbad : ¬ q_puOk pu o1 u1 := fun q => q.2.2.2.1 c_7
          refine lv_iconst (v := (-1)) hx hb d_Rules_addPurity_33 (by decide) ?_
          have hP9 := hP.sub (ws' := [(aR, .inr (5, [.int pu, .ref aRp, .ref aRk, .ref aRa, .ref aRb, .ref aRl])), (aRp, .inl (cI, 4, .inl fPo)), (aRk, .inl (cI, 4, .inl fKi)), (aRa, .inl (cI, 4, .inl fAb)), (aRb, .inl (cI, 4, .inl fBe))]) [0, 1, 2, 3, 4] rfl
          have hD9 := hD.sub (ws' := [(aR, .inr (5, [.int pu, .ref aRp, .ref aRk, .ref aRa, .ref aRb, .ref aRl])), (aRp, .inl (cI, 4, .inl fPo)), (aRk, .inl (cI, 4, .inl fKi)), (aRa, .inl (cI, 4, .inl fAb)), (aRb, .inl (cI, 4, .inl fBe))]) [0, 1, 2, 3, 4] (by decide) rfl
          have hpost_8 : (q_puOk pu o1 u1 ∧ ((-1) : Int32) = pu ∧ pu = pu + 1 ∧ fPo = upd fPo np p1 ∧ fKi = upd fKi np k1 ∧ fAb = upd fAb np o1 ∧ fBe = upd fBe np u1) ∨ (¬ q_puOk pu o1 u1 ∧ ((-1) : Int32) = -1 ∧ pu = pu ∧ fPo = fPo ∧ fKi = fKi ∧ fAb = fAb ∧ fBe = fBe) := Or.inr ⟨hbad, rfl, rfl, rfl, rfl, rfl, rfl⟩
          exact W.iret (v := (-1)) hx hb hr (fun t ht hW => ⟨⟨(-1), (pu, fPo, fKi, fAb, fBe), rfl, hpost_8, by rw [ht]; exact hP9, hD9⟩, hS.F ht⟩) hS.2.2 d_Rules_addPurity_34
        · skip
          have c4 := c_7
          refine lv_iload hx hb d_Rules_addPurity_25 (lv_at hl 4 rfl) ?_
          refine lv_sipush (v := 1000) hx hb d_Rules_addPurity_27 (by decide) ?_
          refine lv_icmp_le (tgt := 35) hx hb d_Rules_addPurity_30 (by decide) (fun c_9 => ?_) (fun c_9 => ?_)
          · skip
            have hok : q_puOk pu o1 u1 := ⟨c1, c2, c3, c4, c_9⟩
            have hlt : np < 4 := lp_lt (N := 4) c1 hpu rfl (by omega)
            refine lv_aload_n hx hb d_Rules_addPurity_35 rfl (lv_at hl 0 rfl) ?_
            refine va_get (D := (dC, dI)) (ci := 5) (v := .ref aRp) (C := R_Rules) (T := T_Rules) (N := 6) hx hb hts in_Rules hown hK hP 0 rfl rfl 1 (by decide) (hts _ tw_76) (fun _ h9 => h9) rfl d_Rules_addPurity_36 ?_
            refine lv_aload_n hx hb d_Rules_addPurity_39 rfl (lv_at hl 0 rfl) ?_
            refine va_get (D := (dC, dI)) (ci := 5) (v := .int pu) (C := R_Rules) (T := T_Rules) (N := 6) hx hb hts in_Rules hown hK hP 0 rfl rfl 0 (by decide) (hts _ tw_75) (fun _ h9 => h9) rfl d_Rules_addPurity_40 ?_
            refine lv_iload_n hx hb d_Rules_addPurity_43 rfl (lv_at hl 1 rfl) ?_
            have eh_10 : pu = nI (np) := hpu
            have bh_10 : np < 4 := hlt
            have h_10 : vp_in pu 4 := by rw [eh_10]; exact vp_in_nI bh_10 (by decide)
            have kh_10 : pu.toNatClampNeg = np := by rw [eh_10]; exact nI_clamp (by omega)
            refine va_iast hx hb hK hP hD hS 1 0 rfl rfl h_10 d_Rules_addPurity_44 (fun H locs hP hD hS => ?_)
            rw [kh_10] at hP hD
            obtain ⟨fPo2, efPo2⟩ : ∃ y : Nat → Int32, y = upd fPo (np) p1 := ⟨_, rfl⟩
            rw [← efPo2] at hP hD
            have hP : va_P (dC, dI) vw_cls [(aR, .inr (5, [.int pu, .ref aRp, .ref aRk, .ref aRa, .ref aRb, .ref aRl])), (aRp, .inl (cI, 4, .inl fPo2)), (aRk, .inl (cI, 4, .inl fKi)), (aRa, .inl (cI, 4, .inl fAb)), (aRb, .inl (cI, 4, .inl fBe))] H := hP
            have hD : va_D A [(aR, .inr (5, [.int pu, .ref aRp, .ref aRk, .ref aRa, .ref aRb, .ref aRl])), (aRp, .inl (cI, 4, .inl fPo2)), (aRk, .inl (cI, 4, .inl fKi)), (aRa, .inl (cI, 4, .inl fAb)), (aRb, .inl (cI, 4, .inl fBe))] := hD
            refine lv_aload_n hx hb d_Rules_addPurity_45 rfl (lv_at hl 0 rfl) ?_
            refine va_get (D := (dC, dI)) (ci := 5) (v := .ref aRk) (C := R_Rules) (T := T_Rules) (N := 6) hx hb hts in_Rules hown hK hP 0 rfl rfl 2 (by decide) (hts _ tw_77) (fun _ h9 => h9) rfl d_Rules_addPurity_46 ?_
            refine lv_aload_n hx hb d_Rules_addPurity_49 rfl (lv_at hl 0 rfl) ?_
            refine va_get (D := (dC, dI)) (ci := 5) (v := .int pu) (C := R_Rules) (T := T_Rules) (N := 6) hx hb hts in_Rules hown hK hP 0 rfl rfl 0 (by decide) (hts _ tw_75) (fun _ h9 => h9) rfl d_Rules_addPurity_50 ?_
            refine lv_iload_n hx hb d_Rules_addPurity_53 rfl (lv_at hl 2 rfl) ?_
            have eh_11 : pu = nI (np) := hpu
            have bh_11 : np < 4 := hlt
            have h_11 : vp_in pu 4 := by rw [eh_11]; exact vp_in_nI bh_11 (by decide)
            have kh_11 : pu.toNatClampNeg = np := by rw [eh_11]; exact nI_clamp (by omega)
            refine va_iast hx hb hK hP hD hS 2 0 rfl rfl h_11 d_Rules_addPurity_54 (fun H locs hP hD hS => ?_)
            rw [kh_11] at hP hD
            obtain ⟨fKi2, efKi2⟩ : ∃ y : Nat → Int32, y = upd fKi (np) k1 := ⟨_, rfl⟩
            rw [← efKi2] at hP hD
            have hP : va_P (dC, dI) vw_cls [(aR, .inr (5, [.int pu, .ref aRp, .ref aRk, .ref aRa, .ref aRb, .ref aRl])), (aRp, .inl (cI, 4, .inl fPo2)), (aRk, .inl (cI, 4, .inl fKi2)), (aRa, .inl (cI, 4, .inl fAb)), (aRb, .inl (cI, 4, .inl fBe))] H := hP
            have hD : va_D A [(aR, .inr (5, [.int pu, .ref aRp, .ref aRk, .ref aRa, .ref aRb, .ref aRl])), (aRp, .inl (cI, 4, .inl fPo2)), (aRk, .inl (cI, 4, .inl fKi2)), (aRa, .inl (cI, 4, .inl fAb)), (aRb, .inl (cI, 4, .inl fBe))] := hD
            refine lv_aload_n hx hb d_Rules_addPurity_55 rfl (lv_at hl 0 rfl) ?_
            refine va_get (D := (dC, dI)) (ci := 5) (v := .ref aRa) (C := R_Rules) (T := T_Rules) (N := 6) hx hb hts in_Rules hown hK hP 0 rfl rfl 3 (by decide) (hts _ tw_78) (fun _ h9 => h9) rfl d_Rules_addPurity_56 ?_
            refine lv_aload_n hx hb d_Rules_addPurity_59 rfl (lv_at hl 0 rfl) ?_
            refine va_get (D := (dC, dI)) (ci := 5) (v := .int pu) (C := R_Rules) (T := T_Rules) (N := 6) hx hb hts in_Rules hown hK hP 0 rfl rfl 0 (by decide) (hts _ tw_75) (fun _ h9 => h9) rfl d_Rules_addPurity_60 ?_
            refine lv_iload_n hx hb d_Rules_addPurity_63 rfl (lv_at hl 3 rfl) ?_
            have eh_12 : pu = nI (np) := hpu
            have bh_12 : np < 4 := hlt
            have h_12 : vp_in pu 4 := by rw [eh_12]; exact vp_in_nI bh_12 (by decide)
            have kh_12 : pu.toNatClampNeg = np := by rw [eh_12]; exact nI_clamp (by omega)
            refine va_iast hx hb hK hP hD hS 3 0 rfl rfl h_12 d_Rules_addPurity_64 (fun H locs hP hD hS => ?_)
            rw [kh_12] at hP hD
            obtain ⟨fAb2, efAb2⟩ : ∃ y : Nat → Int32, y = upd fAb (np) o1 := ⟨_, rfl⟩
            rw [← efAb2] at hP hD
            have hP : va_P (dC, dI) vw_cls [(aR, .inr (5, [.int pu, .ref aRp, .ref aRk, .ref aRa, .ref aRb, .ref aRl])), (aRp, .inl (cI, 4, .inl fPo2)), (aRk, .inl (cI, 4, .inl fKi2)), (aRa, .inl (cI, 4, .inl fAb2)), (aRb, .inl (cI, 4, .inl fBe))] H := hP
            have hD : va_D A [(aR, .inr (5, [.int pu, .ref aRp, .ref aRk, .ref aRa, .ref aRb, .ref aRl])), (aRp, .inl (cI, 4, .inl fPo2)), (aRk, .inl (cI, 4, .inl fKi2)), (aRa, .inl (cI, 4, .inl fAb2)), (aRb, .inl (cI, 4, .inl fBe))] := hD
            refine lv_aload_n hx hb d_Rules_addPurity_65 rfl (lv_at hl 0 rfl) ?_
            refine va_get (D := (dC, dI)) (ci := 5) (v := .ref aRb) (C := R_Rules) (T := T_Rules) (N := 6) hx hb hts in_Rules hown hK hP 0 rfl rfl 4 (by decide) (hts _ tw_79) (fun _ h9 => h9) rfl d_Rules_addPurity_66 ?_
            refine lv_aload_n hx hb d_Rules_addPurity_69 rfl (lv_at hl 0 rfl) ?_
            refine va_get (D := (dC, dI)) (ci := 5) (v := .int pu) (C := R_Rules) (T := T_Rules) (N := 6) hx hb hts in_Rules hown hK hP 0 rfl rfl 0 (by decide) (hts _ tw_75) (fun _ h9 => h9) rfl d_Rules_addPurity_70 ?_
            refine lv_iload hx hb d_Rules_addPurity_73 (lv_at hl 4 rfl) ?_
            have eh_13 : pu = nI (np) := hpu
            have bh_13 : np < 4 := hlt
            have h_13 : vp_in pu 4 := by rw [eh_13]; exact vp_in_nI bh_13 (by decide)
            have kh_13 : pu.toNatClampNeg = np := by rw [eh_13]; exact nI_clamp (by omega)
            refine va_iast hx hb hK hP hD hS 4 0 rfl rfl h_13 d_Rules_addPurity_75 (fun H locs hP hD hS => ?_)
            rw [kh_13] at hP hD
            obtain ⟨fBe2, efBe2⟩ : ∃ y : Nat → Int32, y = upd fBe (np) u1 := ⟨_, rfl⟩
            rw [← efBe2] at hP hD
            have hP : va_P (dC, dI) vw_cls [(aR, .inr (5, [.int pu, .ref aRp, .ref aRk, .ref aRa, .ref aRb, .ref aRl])), (aRp, .inl (cI, 4, .inl fPo2)), (aRk, .inl (cI, 4, .inl fKi2)), (aRa, .inl (cI, 4, .inl fAb2)), (aRb, .inl (cI, 4, .inl fBe2))] H := hP
            have hD : va_D A [(aR, .inr (5, [.int pu, .ref aRp, .ref aRk, .ref aRa, .ref aRb, .ref aRl])), (aRp, .inl (cI, 4, .inl fPo2)), (aRk, .inl (cI, 4, .inl fKi2)), (aRa, .inl (cI, 4, .inl fAb2)), (aRb, .inl (cI, 4, .inl fBe2))] := hD
            refine lv_aload_n hx hb d_Rules_addPurity_76 rfl (lv_at hl 0 rfl) ?_
            refine lv_dup hx hb d_Rules_addPurity_77 rfl ?_
            refine va_get (D := (dC, dI)) (ci := 5) (v := .int pu) (C := R_Rules) (T := T_Rules) (N := 6) hx hb hts in_Rules hown hK hP 0 rfl rfl 0 (by decide) (hts _ tw_75) (fun _ h9 => h9) rfl d_Rules_addPurity_78 ?_
            refine lv_iconst (v := 1) hx hb d_Rules_addPurity_81 (by decide) ?_
            refine lv_iadd hx hb d_Rules_addPurity_82 ?_
            refine lv_topi (fun v_14 ev_14 => ?_)
            refine va_put (D := (dC, dI)) (ci := 5) (v := .int v_14) (ty := .int) (C := R_Rules) (T := T_Rules) (N := 6) hx hb hts in_Rules ty_Rules ty_Rules_ok nm_Rules hown hK hP hD hS 0 rfl rfl 0 (by decide) (hts _ tw_75) (fun _ h9 => h9) rfl (by decide +kernel) rfl rfl (Nat.le_of_ble_eq_true rfl) d_Rules_addPurity_83 (fun H locs hP hD hS => ?_)
            have hP : va_P (dC, dI) vw_cls [(aR, .inr (5, [.int v_14, .ref aRp, .ref aRk, .ref aRa, .ref aRb, .ref aRl])), (aRp, .inl (cI, 4, .inl fPo2)), (aRk, .inl (cI, 4, .inl fKi2)), (aRa, .inl (cI, 4, .inl fAb2)), (aRb, .inl (cI, 4, .inl fBe2))] H := hP
            have hD : va_D A [(aR, .inr (5, [.int v_14, .ref aRp, .ref aRk, .ref aRa, .ref aRb, .ref aRl])), (aRp, .inl (cI, 4, .inl fPo2)), (aRk, .inl (cI, 4, .inl fKi2)), (aRa, .inl (cI, 4, .inl fAb2)), (aRb, .inl (cI, 4, .inl fBe2))] := hD
            refine lv_aload_n hx hb d_Rules_addPurity_86 rfl (lv_at hl 0 rfl) ?_
            refine va_get (D := (dC, dI)) (ci := 5) (v := .int v_14) (C := R_Rules) (T := T_Rules) (N := 6) hx hb hts in_Rules hown hK hP 0 rfl rfl 0 (by decide) (hts _ tw_75) (fun _ h9 => h9) rfl d_Rules_addPurity_87 ?_
            refine lv_iconst (v := 1) hx hb d_Rules_addPurity_90 (by decide) ?_
            refine lv_isub hx hb d_Rules_addPurity_91 ?_
            refine lv_topi (fun v_15 ev_15 => ?_)
            have hP9 := hP.sub (ws' := [(aR, .inr (5, [.int v_14, .ref aRp, .ref aRk, .ref aRa, .ref aRb, .ref aRl])), (aRp, .inl (cI, 4, .inl fPo2)), (aRk, .inl (cI, 4, .inl fKi2)), (aRa, .inl (cI, 4, .inl fAb2)), (aRb, .inl (cI, 4, .inl fBe2))]) [0, 1, 2, 3, 4] rfl
            have hD9 := hD.sub (ws' := [(aR, .inr (5, [.int v_14, .ref aRp, .ref aRk, .ref aRa, .ref aRb, .ref aRl])), (aRp, .inl (cI, 4, .inl fPo2)), (aRk, .inl (cI, 4, .inl fKi2)), (aRa, .inl (cI, 4, .inl fAb2)), (aRb, .inl (cI, 4, .inl fBe2))]) [0, 1, 2, 3, 4] (by decide) rfl
            have hpost_16 : (q_puOk pu o1 u1 ∧ (v_15 : Int32) = pu ∧ v_14 = pu + 1 ∧ fPo2 = upd fPo np p1 ∧ fKi2 = upd fKi np k1 ∧ fAb2 = upd fAb np o1 ∧ fBe2 = upd fBe np u1) ∨ (¬ q_puOk pu o1 u1 ∧ (v_15 : Int32) = -1 ∧ v_14 = pu ∧ fPo2 = fPo ∧ fKi2 = fKi ∧ fAb2 = fAb ∧ fBe2 = fBe) := Or.inl ⟨hok, by simp only [ev_14, ev_15]; exact Int32.add_sub_cancel _ _, ev_14, efPo2, efKi2, efAb2, efBe2⟩
            exact W.iret (v := v_15) hx hb hr (fun t ht hW => ⟨⟨v_15, (v_14, fPo2, fKi2, fAb2, fBe2), rfl, hpost_16, by rw [ht]; exact hP9, hD9⟩, hS.F ht⟩) hS.2.2 d_Rules_addPurity_92
          · skip
            have hbad : ¬ q_puOk pu o1 u1 := fun q => c_9 q.2.2.2.2
            refine lv_iconst (v := (-1)) hx hb d_Rules_addPurity_33 (by decide) ?_
            have hP9 := hP.sub (ws' := [(aR, .inr (5, [.int pu, .ref aRp, .ref aRk, .ref aRa, .ref aRb, .ref aRl])), (aRp, .inl (cI, 4, .inl fPo)), (aRk, .inl (cI, 4, .inl fKi)), (aRa, .inl (cI, 4, .inl fAb)), (aRb, .inl (cI, 4, .inl fBe))]) [0, 1, 2, 3, 4] rfl
            have hD9 := hD.sub (ws' := [(aR, .inr (5, [.int pu, .ref aRp, .ref aRk, .ref aRa, .ref aRb, .ref aRl])), (aRp, .inl (cI, 4, .inl fPo)), (aRk, .inl (cI, 4, .inl fKi)), (aRa, .inl (cI, 4, .inl fAb)), (aRb, .inl (cI, 4, .inl fBe))]) [0, 1, 2, 3, 4] (by decide) rfl
            have hpost_17 : (q_puOk pu o1 u1 ∧ ((-1) : Int32) = pu ∧ pu = pu + 1 ∧ fPo = upd fPo np p1 ∧ fKi = upd fKi np k1 ∧ fAb = upd fAb np o1 ∧ fBe = upd fBe np u1) ∨ (¬ q_puOk pu o1 u1 ∧ ((-1) : Int32) = -1 ∧ pu = pu ∧ fPo = fPo ∧ fKi = fKi ∧ fAb = fAb ∧ fBe = fBe) := Or.inr ⟨hbad, rfl, rfl, rfl, rfl, rfl, rfl⟩
            exact W.iret (v := (-1)) hx hb hr (fun t ht hW => ⟨⟨(-1), (pu, fPo, fKi, fAb, fBe), rfl, hpost_17, by rw [ht]; exact hP9, hD9⟩, hS.F ht⟩) hS.2.2 d_Rules_addPurity_34
set_option maxHeartbeats 4000000 in
set_option maxRecDepth 100000 in
theorem L_pure {p : Program} {l : Launch} {e : Env} {s : State} {m : MethodId} {args : Array Value} {below : List Frame} {meth : Method} {c : Code} {Q : State → Prop} {A : Nat → Prop} (hx : p.tables.exec = Jvm.exec) (hb : c.code = b_Rules_isPure) (hml : c.maxLocals = 8) (hown : s.vm.findClass R_Rules = some m.cls) (hts : ∀ w ∈ lw_g, w.before args s = true) (hA : ∀ q, s.heap.size ≤ q → A q) {dC : Nat → ClassId} {dI : Nat → Nat → Nat} (cI : ClassId) (cZ : ClassId) (cQ : ClassId) (aR : Nat) (aRp : Nat) (aRk : Nat) (aRa : Nat) (aRb : Nat) (aRl : Nat) (pu : Int32) (fPo : Nat → Int32) (fKi : Nat → Int32) (fAb : Nat → Int32) (fBe : Nat → Int32) (aA : Nat) (aK : Nat) (aG : Nat) (aO : Nat) (fd : Int64) (ct : Int32) (fG : Nat → Int32) (v1 : Int32) (jv : Nat) (j1 : Int32) (jr : Nat) (po : Nat) (ki : Nat)  (hv1 : v1 = nI jv) (hjv : jv < 64) (hj1 : j1 = nI jr) (hjr : jr < 4) (epo : fPo jr = nI po) (hpo : po < 3) (eki : fKi jr = nI ki) (hki : ki < 3)  (hKN : g_K dC dI [(cI, .int), (cZ, .boolean), (cQ, (.object "SettingSearch$Answers"))] s)
    (kx_40 : ∀ (i : Nat) (xi : Int32) (acc : Int64) (_ : i ≤ 3) (_ : xi = nI i) (_ : acc = q_all fG jv po i) (_ : i = 3) (H : Heap) (locs : List Loc), va_P (dC, dI) vw_cls [(aR, .inr (5, [.int pu, .ref aRp, .ref aRk, .ref aRa, .ref aRb, .ref aRl])), (aRp, .inl (cI, 4, .inl fPo)), (aRk, .inl (cI, 4, .inl fKi)), (aRa, .inl (cI, 4, .inl fAb)), (aRb, .inl (cI, 4, .inl fBe)), (aA, .inr (2, [.long fd, .int ct, .ref aK, .ref aG, .ref aO])), (aG, .inl (cI, 576, .inl fG))] H → va_D A [(aR, .inr (5, [.int pu, .ref aRp, .ref aRk, .ref aRa, .ref aRb, .ref aRl])), (aRp, .inl (cI, 4, .inl fPo)), (aRk, .inl (cI, 4, .inl fKi)), (aRa, .inl (cI, 4, .inl fAb)), (aRb, .inl (cI, 4, .inl fBe)), (aA, .inr (2, [.long fd, .int ct, .ref aK, .ref aG, .ref aO])), (aG, .inl (cI, 576, .inl fG))] → va_S A s.heap H locs → ∀ (ls : Array Slot), lv_has ls 8 [(0, .ref aR), (1, .ref aA), (2, .int v1), (3, .int j1), (4, .long acc), (6, .int xi)] → W p l e ({ frames := 2, cells := 0, slots := 0, locals := 42 } : Room) s m args below meth c H locs 0 0 Q (F0 m 40 ls [])) :
    ∀ (n : Nat) (i : Nat) (xi : Int32) (acc : Int64) (_ : i ≤ 3) (_ : xi = nI i) (_ : acc = q_all fG jv po i) (_ : 3 - i < n) (H : Heap) (locs : List Loc), va_P (dC, dI) vw_cls [(aR, .inr (5, [.int pu, .ref aRp, .ref aRk, .ref aRa, .ref aRb, .ref aRl])), (aRp, .inl (cI, 4, .inl fPo)), (aRk, .inl (cI, 4, .inl fKi)), (aRa, .inl (cI, 4, .inl fAb)), (aRb, .inl (cI, 4, .inl fBe)), (aA, .inr (2, [.long fd, .int ct, .ref aK, .ref aG, .ref aO])), (aG, .inl (cI, 576, .inl fG))] H → va_D A [(aR, .inr (5, [.int pu, .ref aRp, .ref aRk, .ref aRa, .ref aRb, .ref aRl])), (aRp, .inl (cI, 4, .inl fPo)), (aRk, .inl (cI, 4, .inl fKi)), (aRa, .inl (cI, 4, .inl fAb)), (aRb, .inl (cI, 4, .inl fBe)), (aA, .inr (2, [.long fd, .int ct, .ref aK, .ref aG, .ref aO])), (aG, .inl (cI, 576, .inl fG))] → va_S A s.heap H locs → ∀ (ls : Array Slot), lv_has ls 8 [(0, .ref aR), (1, .ref aA), (2, .int v1), (3, .int j1), (4, .long acc), (6, .int xi)] → W p l e ({ frames := 2, cells := 0, slots := 0, locals := 42 } : Room) s m args below meth c H locs 0 0 Q (F0 m 6 ls []) := by
  obtain ⟨hK, hN⟩ := id hKN
  intro n
  induction n with
  | zero =>
    intro i xi acc hi exi eacc hm
    exact absurd hm (Nat.not_lt_zero _)
  | succ n ih =>
    intro i xi acc hi exi eacc hm H locs hP hD hS ls hl
    refine lv_iload hx hb d_Rules_isPure_6 (lv_at hl 5 rfl) ?_
    refine lv_iconst (v := 3) hx hb d_Rules_isPure_8 (by decide) ?_
    refine lv_icmp_ge (tgt := 40) hx hb d_Rules_isPure_9 (by decide) (fun c_1 => ?_) (fun c_1 => ?_)
    · skip
      have hendi := lp_ge (N := 3) c_1 exi rfl hi (by omega)
      exact kx_40 i xi acc hi exi eacc hendi H locs (hP.sub [0, 1, 2, 3, 4, 5, 6] rfl) (hD.sub [0, 1, 2, 3, 4, 5, 6] (by decide) rfl) hS ls (lv_sub hl [0, 1, 2, 3, 4, 5] rfl)
    · skip
      have hlti := lp_lt (N := 3) c_1 exi rfl (by omega)
      refine lv_lload hx hb d_Rules_isPure_12 (lv_at hl 4 rfl) ?_
      refine lv_aload_n hx hb d_Rules_isPure_14 rfl (lv_at hl 1 rfl) ?_
      refine lv_iload_n hx hb d_Rules_isPure_15 rfl (lv_at hl 2 rfl) ?_
      refine lv_aload_n hx hb d_Rules_isPure_16 rfl (lv_at hl 0 rfl) ?_
      refine va_get (D := (dC, dI)) (ci := 5) (v := .ref aRp) (C := R_Rules) (T := T_Rules) (N := 6) hx hb hts in_Rules hown hK hP 0 rfl rfl 1 (by decide) (hts _ tw_76) (fun _ h9 => h9) rfl d_Rules_isPure_17 ?_
      refine lv_iload_n hx hb d_Rules_isPure_20 rfl (lv_at hl 3 rfl) ?_
      have eh_2 : j1 = nI (jr) := hj1
      have bh_2 : jr < 4 := hjr
      have h_2 : vp_in j1 4 := by rw [eh_2]; exact vp_in_nI bh_2 (by decide)
      have kh_2 : j1.toNatClampNeg = jr := by rw [eh_2]; exact nI_clamp (by omega)
      refine va_iald hx hb hK hP 1 0 rfl rfl h_2 d_Rules_isPure_21 ?_
      rw [kh_2]
      refine lv_topi (fun v_3 ev_3 => ?_)
      refine lv_iload hx hb d_Rules_isPure_22 (lv_at hl 5 rfl) ?_
      have hPc := hP.sub (ws' := []) [] rfl
      have hDc := hD.sub (ws' := []) [] (by decide) rfl
      have hFc := va_free (wc := []) hD hS hA [] rfl
      refine va_calli (va_runSN (As := [.int v_3, .int xi]) (rest := [.int v1, .ref aA, .long acc]) ⟨hx, hb, hml, hown, hts⟩ (k_pl l dC dI H.size cI cZ cQ v_3 xi ) ⟨(va_cnB 2 hts (ga_all tw_221) rfl rfl rfl (hN.1 _ (List.mem_of_getElem? (i := 15) rfl)) (hts _ tw_22) (by decide +kernel) ⟨Nat.le_of_ble_eq_true rfl, Nat.le_of_ble_eq_true rfl⟩), hts _ tw_220, trivial⟩ ⟨fun a U g mk q => by obtain ⟨q0, q1, qP, qK, qD⟩ := q; exact ⟨q0, q1, qP, g_K.same (u := U) (U := U.calling g mk a) rfl qK, qD⟩, fun U hU hW => ⟨rfl, by rw [hU], by rw [hU]; exact hPc, g_K.warm hW hKN, hDc.weaken (fun _ _ _ _ => trivial)⟩⟩ rfl rfl hl.1 rfl (lv_room (Nat.le_of_ble_eq_true rfl)) d_Rules_isPure_24 ⟨Nat.le_of_ble_eq_true rfl, Nat.le_of_ble_eq_true rfl⟩) hS (fun q _ h => hFc q h) hFc (fun r_4 u t H1 locs htt hvm hw_5 hBB hzz hkk hS => ?_)
      have hw_5 : r_4 = q_pl v_3 xi := hw_5
      obtain ⟨hPP, hDD⟩ := hBB
      rw [htt] at hPP
      have hPP : va_P (dC, dI) vw_cls [] H1 := hPP
      have hDD : va_D (va_A [] H.size) [] := hDD
      obtain ⟨hP, hD⟩ := va_join (wr := [(aR, .inr (5, [.int pu, .ref aRp, .ref aRk, .ref aRa, .ref aRb, .ref aRl])), (aRp, .inl (cI, 4, .inl fPo)), (aRk, .inl (cI, 4, .inl fKi)), (aRa, .inl (cI, 4, .inl fAb)), (aRb, .inl (cI, 4, .inl fBe)), (aA, .inr (2, [.long fd, .int ct, .ref aK, .ref aG, .ref aO])), (aG, .inl (cI, 576, .inl fG))]) (w1 := []) hP hD [] [0, 1, 2, 3, 4, 5, 6] rfl rfl (by decide) (by decide) hkk hFc hPP hDD
      generalize H1 = H at hP hS ⊢
      have hP : va_P (dC, dI) vw_cls [(aR, .inr (5, [.int pu, .ref aRp, .ref aRk, .ref aRa, .ref aRb, .ref aRl])), (aRp, .inl (cI, 4, .inl fPo)), (aRk, .inl (cI, 4, .inl fKi)), (aRa, .inl (cI, 4, .inl fAb)), (aRb, .inl (cI, 4, .inl fBe)), (aA, .inr (2, [.long fd, .int ct, .ref aK, .ref aG, .ref aO])), (aG, .inl (cI, 576, .inl fG))] H := hP
      have hD : va_D A [(aR, .inr (5, [.int pu, .ref aRp, .ref aRk, .ref aRa, .ref aRb, .ref aRl])), (aRp, .inl (cI, 4, .inl fPo)), (aRk, .inl (cI, 4, .inl fKi)), (aRa, .inl (cI, 4, .inl fAb)), (aRb, .inl (cI, 4, .inl fBe)), (aA, .inr (2, [.long fd, .int ct, .ref aK, .ref aG, .ref aO])), (aG, .inl (cI, 576, .inl fG))] := hD
      have hPc := hP.sub (ws' := [(aA, .inr (2, [.long fd, .int ct, .ref aK, .ref aG, .ref aO])), (aG, .inl (cI, 576, .inl fG))]) [5, 6] rfl
      have hDc := hD.sub (ws' := [(aA, .inr (2, [.long fd, .int ct, .ref aK, .ref aG, .ref aO])), (aG, .inl (cI, 576, .inl fG))]) [5, 6] (by decide) rfl
      have hFc := va_free (wc := [(aA, .inr (2, [.long fd, .int ct, .ref aK, .ref aG, .ref aO])), (aG, .inl (cI, 576, .inl fG))]) hD hS hA [5, 6] rfl
      refine va_calli (va_runV (As := [.int v1, .int r_4]) (rest := [.long acc]) ⟨hx, hb, hml, hown, hts⟩ (k_ga l dC dI H.size cI cZ cQ aA aK aG aO fd ct fG v1 jv r_4 (po * 3 + i) hv1 hjv (by rw [hw_5]; simp only [ev_3, epo, exi]; exact q_pl_in hpo hlti) (by omega)) ⟨(callB_of 2 hts (ga_all tw_315) rfl rfl rfl (hts _ tw_27) (hts _ tw_312) (by decide +kernel) ⟨Nat.le_of_ble_eq_true rfl, Nat.le_of_ble_eq_true rfl⟩), hts _ tw_313, hts _ tw_314⟩ ⟨fun a U g mk q => by obtain ⟨q0, q1, qP, qK, qD⟩ := q; exact ⟨q0, q1, qP, g_K.same (u := U) (U := U.calling g mk a) rfl qK, qD⟩, va_recv hK hPc (ci := 2) (q0 := 0) rfl rfl, fun U hU hW => ⟨rfl, by rw [hU], by rw [hU]; exact hPc, g_K.warm hW hKN, hDc.weaken (fun _ _ _ _ => trivial)⟩⟩ rfl rfl hl.1 rfl (lv_room (Nat.le_of_ble_eq_true rfl)) d_Rules_isPure_27 ⟨Nat.le_of_ble_eq_true rfl, Nat.le_of_ble_eq_true rfl⟩) hS (fun q _ h => hFc q h) hFc (fun r_6 u t H1 locs htt hvm hw_7 hBB hzz hkk hS => ?_)
      have hw_7 : r_6 = fG (jv * 9 + (po * 3 + i)) := hw_7
      obtain ⟨hPP, hDD⟩ := hBB
      rw [htt] at hPP
      have hPP : va_P (dC, dI) vw_cls [(aA, .inr (2, [.long fd, .int ct, .ref aK, .ref aG, .ref aO])), (aG, .inl (cI, 576, .inl fG))] H1 := hPP
      have hDD : va_D (va_A [(aA, .inr (2, [.long fd, .int ct, .ref aK, .ref aG, .ref aO])), (aG, .inl (cI, 576, .inl fG))] H.size) [(aA, .inr (2, [.long fd, .int ct, .ref aK, .ref aG, .ref aO])), (aG, .inl (cI, 576, .inl fG))] := hDD
      obtain ⟨hP, hD⟩ := va_join (wr := [(aR, .inr (5, [.int pu, .ref aRp, .ref aRk, .ref aRa, .ref aRb, .ref aRl])), (aRp, .inl (cI, 4, .inl fPo)), (aRk, .inl (cI, 4, .inl fKi)), (aRa, .inl (cI, 4, .inl fAb)), (aRb, .inl (cI, 4, .inl fBe))]) (w1 := [(aA, .inr (2, [.long fd, .int ct, .ref aK, .ref aG, .ref aO])), (aG, .inl (cI, 576, .inl fG))]) hP hD [5, 6] [0, 1, 2, 3, 4] rfl rfl (by decide) (by decide) hkk hFc hPP hDD
      generalize H1 = H at hP hS ⊢
      have hP : va_P (dC, dI) vw_cls [(aR, .inr (5, [.int pu, .ref aRp, .ref aRk, .ref aRa, .ref aRb, .ref aRl])), (aRp, .inl (cI, 4, .inl fPo)), (aRk, .inl (cI, 4, .inl fKi)), (aRa, .inl (cI, 4, .inl fAb)), (aRb, .inl (cI, 4, .inl fBe)), (aA, .inr (2, [.long fd, .int ct, .ref aK, .ref aG, .ref aO])), (aG, .inl (cI, 576, .inl fG))] H := hP
      have hD : va_D A [(aR, .inr (5, [.int pu, .ref aRp, .ref aRk, .ref aRa, .ref aRb, .ref aRl])), (aRp, .inl (cI, 4, .inl fPo)), (aRk, .inl (cI, 4, .inl fKi)), (aRa, .inl (cI, 4, .inl fAb)), (aRb, .inl (cI, 4, .inl fBe)), (aA, .inr (2, [.long fd, .int ct, .ref aK, .ref aG, .ref aO])), (aG, .inl (cI, 576, .inl fG))] := hD
      refine lv_i2l hx hb d_Rules_isPure_30 rfl ?_
      refine lv_topl (fun v_8 ev_8 => ?_)
      refine lv_ladd hx hb d_Rules_isPure_31 ?_
      refine lv_topl (fun v_9 ev_9 => ?_)
      refine lv_lstore (lv' := [(4, .long v_9), (0, .ref aR), (1, .ref aA), (2, .int v1), (3, .int j1), (6, .int xi)]) hx hb d_Rules_isPure_32 hl (by decide) rfl (fun ls hl => ?_)
      obtain ⟨v_10, ev_10⟩ : ∃ y : Int32, y = xi + 1 := ⟨_, rfl⟩
      refine lv_iinc (v := v_10) (lv' := [(6, .int v_10), (4, .long v_9), (0, .ref aR), (1, .ref aA), (2, .int v1), (3, .int j1)]) hx hb d_Rules_isPure_34 hl (k := 5) rfl (by rw [ev_10]; rfl) (by decide) rfl (fun ls hl => ?_)
      refine lv_goto (tgt := 6) hx hb d_Rules_isPure_37 (by decide) ?_
      exact ih (i + 1) v_10 v_9 hlti (by rw [ev_10, exi]; exact nI_1 i) (by simp only [ev_3, ev_8, ev_9, ev_10, hw_7, eacc]; rfl) (by omega) H locs (hP.sub [0, 1, 2, 3, 4, 5, 6] rfl) (hD.sub [0, 1, 2, 3, 4, 5, 6] (by decide) rfl) hS ls (lv_sub hl [2, 3, 4, 5, 1, 0] rfl)
set_option maxHeartbeats 4000000 in
set_option maxRecDepth 100000 in
/-- isPure -/
theorem k_pure (l : Launch) (dC : Nat → ClassId) (dI : Nat → Nat → Nat) (sz : Nat) (cI : ClassId) (cZ : ClassId) (cQ : ClassId) (aR : Nat) (aRp : Nat) (aRk : Nat) (aRa : Nat) (aRb : Nat) (aRl : Nat) (pu : Int32) (fPo : Nat → Int32) (fKi : Nat → Int32) (fAb : Nat → Int32) (fBe : Nat → Int32) (aA : Nat) (aK : Nat) (aG : Nat) (aO : Nat) (fd : Int64) (ct : Int32) (fG : Nat → Int32) (v1 : Int32) (jv : Nat) (j1 : Int32) (jr : Nat) (po : Nat) (ki : Nat) (hv1 : v1 = nI jv) (hjv : jv < 64) (hj1 : j1 = nI jr) (hjr : jr < 4) (epo : fPo jr = nI po) (hpo : po < 3) (eki : fKi jr = nI ki) (hki : ki < 3) : Met l y_Rules_isPure w_Rules_isPure ({ frames := 2, cells := 0, slots := 0, locals := 42 } : Room) (va_Pc [.ref aR, .ref aA, .int v1, .int j1] (fun U => U.heap.size = sz ∧ va_P (dC, dI) vw_cls [(aR, .inr (5, [.int pu, .ref aRp, .ref aRk, .ref aRa, .ref aRb, .ref aRl])), (aRp, .inl (cI, 4, .inl fPo)), (aRk, .inl (cI, 4, .inl fKi)), (aRa, .inl (cI, 4, .inl fAb)), (aRb, .inl (cI, 4, .inl fBe)), (aA, .inr (2, [.long fd, .int ct, .ref aK, .ref aG, .ref aO])), (aG, .inl (cI, 576, .inl fG))] U.heap ∧ g_K dC dI [(cI, .int), (cZ, .boolean), (cQ, (.object "SettingSearch$Answers"))] U ∧ va_D (fun _ => True) [(aR, .inr (5, [.int pu, .ref aRp, .ref aRk, .ref aRa, .ref aRb, .ref aRl])), (aRp, .inl (cI, 4, .inl fPo)), (aRk, .inl (cI, 4, .inl fKi)), (aRa, .inl (cI, 4, .inl fAb)), (aRb, .inl (cI, 4, .inl fBe)), (aA, .inr (2, [.long fd, .int ct, .ref aK, .ref aG, .ref aO])), (aG, .inl (cI, 576, .inl fG))])) (va_Qi (fun (r : Int32) (u : Unit) => r = q_pure fG fAb fBe jv jr po ki) (fun (u : Unit) (t : State) => va_P (dC, dI) vw_cls [(aR, .inr (5, [.int pu, .ref aRp, .ref aRk, .ref aRa, .ref aRb, .ref aRl])), (aRp, .inl (cI, 4, .inl fPo)), (aRk, .inl (cI, 4, .inl fKi)), (aRa, .inl (cI, 4, .inl fAb)), (aRb, .inl (cI, 4, .inl fBe)), (aA, .inr (2, [.long fd, .int ct, .ref aK, .ref aG, .ref aO])), (aG, .inl (cI, 576, .inl fG))] t.heap ∧ va_D (va_A [(aR, .inr (5, [.int pu, .ref aRp, .ref aRk, .ref aRa, .ref aRb, .ref aRl])), (aRp, .inl (cI, 4, .inl fPo)), (aRk, .inl (cI, 4, .inl fKi)), (aRa, .inl (cI, 4, .inl fAb)), (aRb, .inl (cI, 4, .inl fBe)), (aA, .inr (2, [.long fd, .int ct, .ref aK, .ref aG, .ref aO])), (aG, .inl (cI, 576, .inl fG))] sz) [(aR, .inr (5, [.int pu, .ref aRp, .ref aRk, .ref aRa, .ref aRb, .ref aRl])), (aRp, .inl (cI, 4, .inl fPo)), (aRk, .inl (cI, 4, .inl fKi)), (aRa, .inl (cI, 4, .inl fAb)), (aRb, .inl (cI, 4, .inl fBe)), (aA, .inr (2, [.long fd, .int ct, .ref aK, .ref aG, .ref aO])), (aG, .inl (cI, 576, .inl fG))]) (va_A [(aR, .inr (5, [.int pu, .ref aRp, .ref aRk, .ref aRa, .ref aRb, .ref aRl])), (aRp, .inl (cI, 4, .inl fPo)), (aRk, .inl (cI, 4, .inl fKi)), (aRa, .inl (cI, 4, .inl fAb)), (aRb, .inl (cI, 4, .inl fBe)), (aA, .inr (2, [.long fd, .int ct, .ref aK, .ref aG, .ref aO])), (aG, .inl (cI, 576, .inl fG))] sz)) 0 0 (va_A [(aR, .inr (5, [.int pu, .ref aRp, .ref aRk, .ref aRa, .ref aRb, .ref aRl])), (aRp, .inl (cI, 4, .inl fPo)), (aRk, .inl (cI, 4, .inl fKi)), (aRa, .inl (cI, 4, .inl fAb)), (aRb, .inl (cI, 4, .inl fBe)), (aA, .inr (2, [.long fd, .int ct, .ref aK, .ref aG, .ref aO])), (aG, .inl (cI, 576, .inl fG))] sz) := by
  refine Met.ofW (cc := b_Rules_isPure) (maxL := 8) (ret := (some .boolean)) (by decide) rfl ?_
  intro p e s m args below meth c s₁ B hml hv
  obtain ⟨rfl, hsz, hP, hKN, hD0⟩ := hv
  obtain ⟨hK, hN⟩ := id hKN
  have hx := B.exec
  have hb := B.bytes
  have hr := B.returns
  have hts0 := atoms_spec (ws := w_Rules_isPure) B.pre
  have hts : ∀ w ∈ lw_g, w.before _ s = true := fun w h => hts0 w (List.mem_cons_of_mem _ h)
  have hown : s.vm.findClass R_Rules = some m.cls := findClass_of_methodNamed B.named
  have hlocks := B.notSynchronized
  subst hsz
  have hD := hD0.self (sz := s.heap.size)
  generalize hAe : va_A [(aR, .inr (5, [.int pu, .ref aRp, .ref aRk, .ref aRa, .ref aRb, .ref aRl])), (aRp, .inl (cI, 4, .inl fPo)), (aRk, .inl (cI, 4, .inl fKi)), (aRa, .inl (cI, 4, .inl fAb)), (aRb, .inl (cI, 4, .inl fBe)), (aA, .inr (2, [.long fd, .int ct, .ref aK, .ref aG, .ref aO])), (aG, .inl (cI, 576, .inl fG))] s.heap.size = A at hD ⊢
  have hA : ∀ q : Nat, s.heap.size ≤ q → A q := fun q h => by rw [← hAe]; exact Or.inr h
  have hP : va_P (dC, dI) vw_cls [(aR, .inr (5, [.int pu, .ref aRp, .ref aRk, .ref aRa, .ref aRb, .ref aRl])), (aRp, .inl (cI, 4, .inl fPo)), (aRk, .inl (cI, 4, .inl fKi)), (aRa, .inl (cI, 4, .inl fAb)), (aRb, .inl (cI, 4, .inl fBe)), (aA, .inr (2, [.long fd, .int ct, .ref aK, .ref aG, .ref aO])), (aG, .inl (cI, 576, .inl fG))] s.heap := hP
  have hl := lv_entry ([.ref aR, .ref aA, .int v1, .int j1]) (n := 8) (Nat.le_of_ble_eq_true rfl)
  rw [lg_entry_eq]
  generalize (lg_sl ([.ref aR, .ref aA, .int v1, .int j1]) ++ List.replicate (8 - (lg_sl ([.ref aR, .ref aA, .int v1, .int j1])).length) Slot.unset).toArray = ls at hl ⊢
  have hl : lv_has ls 8 [(0, .ref aR), (1, .ref aA), (2, .int v1), (3, .int j1)] := hl
  refine gw_start (fun H locs hH hlocs => ?_)
  rw [← hH] at hP
  have hS : va_S A s.heap H locs := by rw [hH, hlocs]; exact va_S.rf
  refine lv_lconst (v := 0) hx hb d_Rules_isPure_0 (by decide) ?_
  refine lv_lstore (lv' := [(4, .long 0), (0, .ref aR), (1, .ref aA), (2, .int v1), (3, .int j1)]) hx hb d_Rules_isPure_1 hl (by decide) rfl (fun ls hl => ?_)
  refine lv_iconst (v := 0) hx hb d_Rules_isPure_3 (by decide) ?_
  refine lv_istore (lv' := [(6, .int 0), (4, .long 0), (0, .ref aR), (1, .ref aA), (2, .int v1), (3, .int j1)]) hx hb d_Rules_isPure_4 hl (by decide) rfl (fun ls hl => ?_)
  refine L_pure hx hb hml hown hts hA cI cZ cQ aR aRp aRk aRa aRb aRl pu fPo fKi fAb fBe aA aK aG aO fd ct fG v1 jv j1 jr po ki hv1 hjv hj1 hjr epo hpo eki hki hKN ?_ (3 - 0 + 1) 0 0 0 (Nat.zero_le _) rfl rfl (Nat.lt_succ_self _) H locs (hP.sub [0, 1, 2, 3, 4, 5, 6] rfl) (hD.sub [0, 1, 2, 3, 4, 5, 6] (by decide) rfl) hS ls (lv_sub hl [2, 3, 4, 5, 1, 0] rfl)
  intro i xi acc hi exi eacc hendi H locs hP hD hS ls hl
  have hl : lv_has ls 8 [(0, .ref aR), (1, .ref aA), (2, .int v1), (3, .int j1), (4, .long acc), (6, .int xi)] := hl
  have hP : va_P (dC, dI) vw_cls [(aR, .inr (5, [.int pu, .ref aRp, .ref aRk, .ref aRa, .ref aRb, .ref aRl])), (aRp, .inl (cI, 4, .inl fPo)), (aRk, .inl (cI, 4, .inl fKi)), (aRa, .inl (cI, 4, .inl fAb)), (aRb, .inl (cI, 4, .inl fBe)), (aA, .inr (2, [.long fd, .int ct, .ref aK, .ref aG, .ref aO])), (aG, .inl (cI, 576, .inl fG))] H := hP
  have hD : va_D A [(aR, .inr (5, [.int pu, .ref aRp, .ref aRk, .ref aRa, .ref aRb, .ref aRl])), (aRp, .inl (cI, 4, .inl fPo)), (aRk, .inl (cI, 4, .inl fKi)), (aRa, .inl (cI, 4, .inl fAb)), (aRb, .inl (cI, 4, .inl fBe)), (aA, .inr (2, [.long fd, .int ct, .ref aK, .ref aG, .ref aO])), (aG, .inl (cI, 576, .inl fG))] := hD
  refine lv_aload_n hx hb d_Rules_isPure_40 rfl (lv_at hl 1 rfl) ?_
  refine lv_iload_n hx hb d_Rules_isPure_41 rfl (lv_at hl 2 rfl) ?_
  refine lv_aload_n hx hb d_Rules_isPure_42 rfl (lv_at hl 0 rfl) ?_
  refine va_get (D := (dC, dI)) (ci := 5) (v := .ref aRp) (C := R_Rules) (T := T_Rules) (N := 6) hx hb hts in_Rules hown hK hP 0 rfl rfl 1 (by decide) (hts _ tw_76) (fun _ h9 => h9) rfl d_Rules_isPure_43 ?_
  refine lv_iload_n hx hb d_Rules_isPure_46 rfl (lv_at hl 3 rfl) ?_
  have eh_1 : j1 = nI (jr) := hj1
  have bh_1 : jr < 4 := hjr
  have h_1 : vp_in j1 4 := by rw [eh_1]; exact vp_in_nI bh_1 (by decide)
  have kh_1 : j1.toNatClampNeg = jr := by rw [eh_1]; exact nI_clamp (by omega)
  refine va_iald hx hb hK hP 1 0 rfl rfl h_1 d_Rules_isPure_47 ?_
  rw [kh_1]
  refine lv_topi (fun v_2 ev_2 => ?_)
  refine lv_aload_n hx hb d_Rules_isPure_48 rfl (lv_at hl 0 rfl) ?_
  refine va_get (D := (dC, dI)) (ci := 5) (v := .ref aRk) (C := R_Rules) (T := T_Rules) (N := 6) hx hb hts in_Rules hown hK hP 0 rfl rfl 2 (by decide) (hts _ tw_77) (fun _ h9 => h9) rfl d_Rules_isPure_49 ?_
  refine lv_iload_n hx hb d_Rules_isPure_52 rfl (lv_at hl 3 rfl) ?_
  have eh_3 : j1 = nI (jr) := hj1
  have bh_3 : jr < 4 := hjr
  have h_3 : vp_in j1 4 := by rw [eh_3]; exact vp_in_nI bh_3 (by decide)
  have kh_3 : j1.toNatClampNeg = jr := by rw [eh_3]; exact nI_clamp (by omega)
  refine va_iald hx hb hK hP 2 0 rfl rfl h_3 d_Rules_isPure_53 ?_
  rw [kh_3]
  refine lv_topi (fun v_4 ev_4 => ?_)
  have hPc := hP.sub (ws' := []) [] rfl
  have hDc := hD.sub (ws' := []) [] (by decide) rfl
  have hFc := va_free (wc := []) hD hS hA [] rfl
  refine va_calli (va_runSN (As := [.int v_2, .int v_4]) (rest := [.int v1, .ref aA]) ⟨hx, hb, hml, hown, hts⟩ (k_pl l dC dI H.size cI cZ cQ v_2 v_4 ) ⟨(va_cnB 2 hts (ga_all tw_221) rfl rfl rfl (hN.1 _ (List.mem_of_getElem? (i := 15) rfl)) (hts _ tw_22) (by decide +kernel) ⟨Nat.le_of_ble_eq_true rfl, Nat.le_of_ble_eq_true rfl⟩), hts _ tw_220, trivial⟩ ⟨fun a U g mk q => by obtain ⟨q0, q1, qP, qK, qD⟩ := q; exact ⟨q0, q1, qP, g_K.same (u := U) (U := U.calling g mk a) rfl qK, qD⟩, fun U hU hW => ⟨rfl, by rw [hU], by rw [hU]; exact hPc, g_K.warm hW hKN, hDc.weaken (fun _ _ _ _ => trivial)⟩⟩ rfl rfl hl.1 rfl (lv_room (Nat.le_of_ble_eq_true rfl)) d_Rules_isPure_54 ⟨Nat.le_of_ble_eq_true rfl, Nat.le_of_ble_eq_true rfl⟩) hS (fun q _ h => hFc q h) hFc (fun r_5 u t H1 locs htt hvm hw_6 hBB hzz hkk hS => ?_)
  have hw_6 : r_5 = q_pl v_2 v_4 := hw_6
  obtain ⟨hPP, hDD⟩ := hBB
  rw [htt] at hPP
  have hPP : va_P (dC, dI) vw_cls [] H1 := hPP
  have hDD : va_D (va_A [] H.size) [] := hDD
  obtain ⟨hP, hD⟩ := va_join (wr := [(aR, .inr (5, [.int pu, .ref aRp, .ref aRk, .ref aRa, .ref aRb, .ref aRl])), (aRp, .inl (cI, 4, .inl fPo)), (aRk, .inl (cI, 4, .inl fKi)), (aRa, .inl (cI, 4, .inl fAb)), (aRb, .inl (cI, 4, .inl fBe)), (aA, .inr (2, [.long fd, .int ct, .ref aK, .ref aG, .ref aO])), (aG, .inl (cI, 576, .inl fG))]) (w1 := []) hP hD [] [0, 1, 2, 3, 4, 5, 6] rfl rfl (by decide) (by decide) hkk hFc hPP hDD
  generalize H1 = H at hP hS ⊢
  have hP : va_P (dC, dI) vw_cls [(aR, .inr (5, [.int pu, .ref aRp, .ref aRk, .ref aRa, .ref aRb, .ref aRl])), (aRp, .inl (cI, 4, .inl fPo)), (aRk, .inl (cI, 4, .inl fKi)), (aRa, .inl (cI, 4, .inl fAb)), (aRb, .inl (cI, 4, .inl fBe)), (aA, .inr (2, [.long fd, .int ct, .ref aK, .ref aG, .ref aO])), (aG, .inl (cI, 576, .inl fG))] H := hP
  have hD : va_D A [(aR, .inr (5, [.int pu, .ref aRp, .ref aRk, .ref aRa, .ref aRb, .ref aRl])), (aRp, .inl (cI, 4, .inl fPo)), (aRk, .inl (cI, 4, .inl fKi)), (aRa, .inl (cI, 4, .inl fAb)), (aRb, .inl (cI, 4, .inl fBe)), (aA, .inr (2, [.long fd, .int ct, .ref aK, .ref aG, .ref aO])), (aG, .inl (cI, 576, .inl fG))] := hD
  have hPc := hP.sub (ws' := [(aA, .inr (2, [.long fd, .int ct, .ref aK, .ref aG, .ref aO])), (aG, .inl (cI, 576, .inl fG))]) [5, 6] rfl
  have hDc := hD.sub (ws' := [(aA, .inr (2, [.long fd, .int ct, .ref aK, .ref aG, .ref aO])), (aG, .inl (cI, 576, .inl fG))]) [5, 6] (by decide) rfl
  have hFc := va_free (wc := [(aA, .inr (2, [.long fd, .int ct, .ref aK, .ref aG, .ref aO])), (aG, .inl (cI, 576, .inl fG))]) hD hS hA [5, 6] rfl
  refine va_calli (va_runV (As := [.int v1, .int r_5]) (rest := []) ⟨hx, hb, hml, hown, hts⟩ (k_ga l dC dI H.size cI cZ cQ aA aK aG aO fd ct fG v1 jv r_5 (po * 3 + ki) hv1 hjv (by rw [hw_6]; simp only [ev_2, ev_4, epo, eki]; exact q_pl_in hpo hki) (by omega)) ⟨(callB_of 2 hts (ga_all tw_315) rfl rfl rfl (hts _ tw_27) (hts _ tw_312) (by decide +kernel) ⟨Nat.le_of_ble_eq_true rfl, Nat.le_of_ble_eq_true rfl⟩), hts _ tw_313, hts _ tw_314⟩ ⟨fun a U g mk q => by obtain ⟨q0, q1, qP, qK, qD⟩ := q; exact ⟨q0, q1, qP, g_K.same (u := U) (U := U.calling g mk a) rfl qK, qD⟩, va_recv hK hPc (ci := 2) (q0 := 0) rfl rfl, fun U hU hW => ⟨rfl, by rw [hU], by rw [hU]; exact hPc, g_K.warm hW hKN, hDc.weaken (fun _ _ _ _ => trivial)⟩⟩ rfl rfl hl.1 rfl (lv_room (Nat.le_of_ble_eq_true rfl)) d_Rules_isPure_57 ⟨Nat.le_of_ble_eq_true rfl, Nat.le_of_ble_eq_true rfl⟩) hS (fun q _ h => hFc q h) hFc (fun r_7 u t H1 locs htt hvm hw_8 hBB hzz hkk hS => ?_)
  have hw_8 : r_7 = fG (jv * 9 + (po * 3 + ki)) := hw_8
  obtain ⟨hPP, hDD⟩ := hBB
  rw [htt] at hPP
  have hPP : va_P (dC, dI) vw_cls [(aA, .inr (2, [.long fd, .int ct, .ref aK, .ref aG, .ref aO])), (aG, .inl (cI, 576, .inl fG))] H1 := hPP
  have hDD : va_D (va_A [(aA, .inr (2, [.long fd, .int ct, .ref aK, .ref aG, .ref aO])), (aG, .inl (cI, 576, .inl fG))] H.size) [(aA, .inr (2, [.long fd, .int ct, .ref aK, .ref aG, .ref aO])), (aG, .inl (cI, 576, .inl fG))] := hDD
  obtain ⟨hP, hD⟩ := va_join (wr := [(aR, .inr (5, [.int pu, .ref aRp, .ref aRk, .ref aRa, .ref aRb, .ref aRl])), (aRp, .inl (cI, 4, .inl fPo)), (aRk, .inl (cI, 4, .inl fKi)), (aRa, .inl (cI, 4, .inl fAb)), (aRb, .inl (cI, 4, .inl fBe))]) (w1 := [(aA, .inr (2, [.long fd, .int ct, .ref aK, .ref aG, .ref aO])), (aG, .inl (cI, 576, .inl fG))]) hP hD [5, 6] [0, 1, 2, 3, 4] rfl rfl (by decide) (by decide) hkk hFc hPP hDD
  generalize H1 = H at hP hS ⊢
  have hP : va_P (dC, dI) vw_cls [(aR, .inr (5, [.int pu, .ref aRp, .ref aRk, .ref aRa, .ref aRb, .ref aRl])), (aRp, .inl (cI, 4, .inl fPo)), (aRk, .inl (cI, 4, .inl fKi)), (aRa, .inl (cI, 4, .inl fAb)), (aRb, .inl (cI, 4, .inl fBe)), (aA, .inr (2, [.long fd, .int ct, .ref aK, .ref aG, .ref aO])), (aG, .inl (cI, 576, .inl fG))] H := hP
  have hD : va_D A [(aR, .inr (5, [.int pu, .ref aRp, .ref aRk, .ref aRa, .ref aRb, .ref aRl])), (aRp, .inl (cI, 4, .inl fPo)), (aRk, .inl (cI, 4, .inl fKi)), (aRa, .inl (cI, 4, .inl fAb)), (aRb, .inl (cI, 4, .inl fBe)), (aA, .inr (2, [.long fd, .int ct, .ref aK, .ref aG, .ref aO])), (aG, .inl (cI, 576, .inl fG))] := hD
  refine lv_i2l hx hb d_Rules_isPure_60 rfl ?_
  refine lv_topl (fun v_9 ev_9 => ?_)
  refine lv_lstore (lv' := [(6, .long v_9), (0, .ref aR), (1, .ref aA), (2, .int v1), (3, .int j1), (4, .long acc)]) hx hb d_Rules_isPure_61 hl (by decide) rfl (fun ls hl => ?_)
  refine lv_lload hx hb d_Rules_isPure_63 (lv_at hl 0 rfl) ?_
  refine lv_aload_n hx hb d_Rules_isPure_65 rfl (lv_at hl 1 rfl) ?_
  refine va_get (D := (dC, dI)) (ci := 5) (v := .ref aRb) (C := R_Rules) (T := T_Rules) (N := 6) hx hb hts in_Rules hown hK hP 0 rfl rfl 4 (by decide) (hts _ tw_79) (fun _ h9 => h9) rfl d_Rules_isPure_66 ?_
  refine lv_iload_n hx hb d_Rules_isPure_69 rfl (lv_at hl 4 rfl) ?_
  have eh_10 : j1 = nI (jr) := hj1
  have bh_10 : jr < 4 := hjr
  have h_10 : vp_in j1 4 := by rw [eh_10]; exact vp_in_nI bh_10 (by decide)
  have kh_10 : j1.toNatClampNeg = jr := by rw [eh_10]; exact nI_clamp (by omega)
  refine va_iald hx hb hK hP 4 0 rfl rfl h_10 d_Rules_isPure_70 ?_
  rw [kh_10]
  refine lv_topi (fun v_11 ev_11 => ?_)
  refine lv_i2l hx hb d_Rules_isPure_71 rfl ?_
  refine lv_topl (fun v_12 ev_12 => ?_)
  refine lv_lmul hx hb d_Rules_isPure_72 ?_
  refine lv_topl (fun v_13 ev_13 => ?_)
  refine lv_lload hx hb d_Rules_isPure_73 (lv_at hl 5 rfl) ?_
  refine lv_aload_n hx hb d_Rules_isPure_75 rfl (lv_at hl 1 rfl) ?_
  refine va_get (D := (dC, dI)) (ci := 5) (v := .ref aRa) (C := R_Rules) (T := T_Rules) (N := 6) hx hb hts in_Rules hown hK hP 0 rfl rfl 3 (by decide) (hts _ tw_78) (fun _ h9 => h9) rfl d_Rules_isPure_76 ?_
  refine lv_iload_n hx hb d_Rules_isPure_79 rfl (lv_at hl 4 rfl) ?_
  have eh_14 : j1 = nI (jr) := hj1
  have bh_14 : jr < 4 := hjr
  have h_14 : vp_in j1 4 := by rw [eh_14]; exact vp_in_nI bh_14 (by decide)
  have kh_14 : j1.toNatClampNeg = jr := by rw [eh_14]; exact nI_clamp (by omega)
  refine va_iald hx hb hK hP 3 0 rfl rfl h_14 d_Rules_isPure_80 ?_
  rw [kh_14]
  refine lv_topi (fun v_15 ev_15 => ?_)
  refine lv_i2l hx hb d_Rules_isPure_81 rfl ?_
  refine lv_topl (fun v_16 ev_16 => ?_)
  refine lv_lmul hx hb d_Rules_isPure_82 ?_
  refine lv_topl (fun v_17 ev_17 => ?_)
  refine W.lcmp hx hb d_Rules_isPure_83 ?_
  refine lv_if_lt (tgt := 91) hx hb d_Rules_isPure_84 (by decide) (fun c_18 => ?_) (fun c_18 => ?_)
  · skip
    have c_18 : v_13 < v_17 := (lg_cmp_lt _ _).mp c_18
    have q := c_18
    simp only [ev_2, ev_4, ev_9, ev_11, ev_12, ev_13, ev_15, ev_16, ev_17, hw_6, hw_8, eacc, hendi] at q
    refine lv_iconst (v := 0) hx hb d_Rules_isPure_91 (by decide) ?_
    have hP9 := hP.sub (ws' := [(aR, .inr (5, [.int pu, .ref aRp, .ref aRk, .ref aRa, .ref aRb, .ref aRl])), (aRp, .inl (cI, 4, .inl fPo)), (aRk, .inl (cI, 4, .inl fKi)), (aRa, .inl (cI, 4, .inl fAb)), (aRb, .inl (cI, 4, .inl fBe)), (aA, .inr (2, [.long fd, .int ct, .ref aK, .ref aG, .ref aO])), (aG, .inl (cI, 576, .inl fG))]) [0, 1, 2, 3, 4, 5, 6] rfl
    have hD9 := hD.sub (ws' := [(aR, .inr (5, [.int pu, .ref aRp, .ref aRk, .ref aRa, .ref aRb, .ref aRl])), (aRp, .inl (cI, 4, .inl fPo)), (aRk, .inl (cI, 4, .inl fKi)), (aRa, .inl (cI, 4, .inl fAb)), (aRb, .inl (cI, 4, .inl fBe)), (aA, .inr (2, [.long fd, .int ct, .ref aK, .ref aG, .ref aO])), (aG, .inl (cI, 576, .inl fG))]) [0, 1, 2, 3, 4, 5, 6] (by decide) rfl
    have hpost_19 : (0 : Int32) = q_pure fG fAb fBe jv jr po ki := by first | (rw [q_pure, if_pos q]; done) | (rw [q_pure, if_neg q]; done)
    exact W.zret (v := 0) hx hb hr (rfl) (fun t ht hW => ⟨⟨0, (), rfl, hpost_19, by rw [ht]; exact hP9, hD9⟩, hS.F ht⟩) hS.2.2 d_Rules_isPure_92
  · skip
    have c_18 : ¬ v_13 < v_17 := fun h => c_18 ((lg_cmp_lt _ _).mpr h)
    have q := c_18
    simp only [ev_2, ev_4, ev_9, ev_11, ev_12, ev_13, ev_15, ev_16, ev_17, hw_6, hw_8, eacc, hendi] at q
    refine lv_iconst (v := 1) hx hb d_Rules_isPure_87 (by decide) ?_
    refine lv_goto (tgt := 92) hx hb d_Rules_isPure_88 (by decide) ?_
    have hP9 := hP.sub (ws' := [(aR, .inr (5, [.int pu, .ref aRp, .ref aRk, .ref aRa, .ref aRb, .ref aRl])), (aRp, .inl (cI, 4, .inl fPo)), (aRk, .inl (cI, 4, .inl fKi)), (aRa, .inl (cI, 4, .inl fAb)), (aRb, .inl (cI, 4, .inl fBe)), (aA, .inr (2, [.long fd, .int ct, .ref aK, .ref aG, .ref aO])), (aG, .inl (cI, 576, .inl fG))]) [0, 1, 2, 3, 4, 5, 6] rfl
    have hD9 := hD.sub (ws' := [(aR, .inr (5, [.int pu, .ref aRp, .ref aRk, .ref aRa, .ref aRb, .ref aRl])), (aRp, .inl (cI, 4, .inl fPo)), (aRk, .inl (cI, 4, .inl fKi)), (aRa, .inl (cI, 4, .inl fAb)), (aRb, .inl (cI, 4, .inl fBe)), (aA, .inr (2, [.long fd, .int ct, .ref aK, .ref aG, .ref aO])), (aG, .inl (cI, 576, .inl fG))]) [0, 1, 2, 3, 4, 5, 6] (by decide) rfl
    have hpost_20 : (1 : Int32) = q_pure fG fAb fBe jv jr po ki := by first | (rw [q_pure, if_pos q]; done) | (rw [q_pure, if_neg q]; done)
    exact W.zret (v := 1) hx hb hr (rfl) (fun t ht hW => ⟨⟨1, (), rfl, hpost_20, by rw [ht]; exact hP9, hD9⟩, hS.F ht⟩) hS.2.2 d_Rules_isPure_92
set_option maxHeartbeats 4000000 in
set_option maxRecDepth 100000 in
theorem L_kp {p : Program} {l : Launch} {e : Env} {s : State} {m : MethodId} {args : Array Value} {below : List Frame} {meth : Method} {c : Code} {Q : State → Prop} {A : Nat → Prop} (hx : p.tables.exec = Jvm.exec) (hb : c.code = b_Rules_keptBy) (hml : c.maxLocals = 6) (hown : s.vm.findClass R_Rules = some m.cls) (hts : ∀ w ∈ lw_g, w.before args s = true) (hA : ∀ q, s.heap.size ≤ q → A q) {dC : Nat → ClassId} {dI : Nat → Nat → Nat} (cI : ClassId) (cZ : ClassId) (cQ : ClassId) (aR : Nat) (aRp : Nat) (aRk : Nat) (aRa : Nat) (aRb : Nat) (aRl : Nat) (pu : Int32) (fPo : Nat → Int32) (fKi : Nat → Int32) (fAb : Nat → Int32) (fBe : Nat → Int32) (fM : Nat → Int32) (aA : Nat) (aK : Nat) (aG : Nat) (aO : Nat) (fd : Int64) (ct : Int32) (fG : Nat → Int32) (fO : Nat → Int32) (v1 : Int32) (jv : Nat) (np : Nat)  (hv1 : v1 = nI jv) (hjv : jv < 64) (hpu : pu = nI np) (hnp : np ≤ 4) (hpk : q_okPK fPo fKi np)  (hKN : g_K dC dI [(cI, .int), (cZ, .boolean), (cQ, (.object "SettingSearch$Answers"))] s)
    (kx_38 : ∀ (i : Nat) (xi : Int32) (set : Int32) (_ : i ≤ np) (_ : xi = nI i) (_ : set = q_kp fG fPo fKi fAb fBe jv i) (_ : i = np) (H : Heap) (locs : List Loc), va_P (dC, dI) vw_cls [(aR, .inr (5, [.int pu, .ref aRp, .ref aRk, .ref aRa, .ref aRb, .ref aRl])), (aRp, .inl (cI, 4, .inl fPo)), (aRk, .inl (cI, 4, .inl fKi)), (aRa, .inl (cI, 4, .inl fAb)), (aRb, .inl (cI, 4, .inl fBe)), (aRl, .inl (cI, 5, .inl fM)), (aA, .inr (2, [.long fd, .int ct, .ref aK, .ref aG, .ref aO])), (aG, .inl (cI, 576, .inl fG)), (aO, .inl (cI, 320, .inl fO))] H → va_D A [(aR, .inr (5, [.int pu, .ref aRp, .ref aRk, .ref aRa, .ref aRb, .ref aRl])), (aRp, .inl (cI, 4, .inl fPo)), (aRk, .inl (cI, 4, .inl fKi)), (aRa, .inl (cI, 4, .inl fAb)), (aRb, .inl (cI, 4, .inl fBe)), (aRl, .inl (cI, 5, .inl fM)), (aA, .inr (2, [.long fd, .int ct, .ref aK, .ref aG, .ref aO])), (aG, .inl (cI, 576, .inl fG)), (aO, .inl (cI, 320, .inl fO))] → va_S A s.heap H locs → ∀ (ls : Array Slot), lv_has ls 6 [(0, .ref aR), (1, .ref aA), (2, .int v1), (3, .int set), (4, .int xi)] → W p l e ({ frames := 3, cells := 0, slots := 0, locals := 69 } : Room) s m args below meth c H locs 0 0 Q (F0 m 38 ls [])) :
    ∀ (n : Nat) (i : Nat) (xi : Int32) (set : Int32) (_ : i ≤ np) (_ : xi = nI i) (_ : set = q_kp fG fPo fKi fAb fBe jv i) (_ : np - i < n) (H : Heap) (locs : List Loc), va_P (dC, dI) vw_cls [(aR, .inr (5, [.int pu, .ref aRp, .ref aRk, .ref aRa, .ref aRb, .ref aRl])), (aRp, .inl (cI, 4, .inl fPo)), (aRk, .inl (cI, 4, .inl fKi)), (aRa, .inl (cI, 4, .inl fAb)), (aRb, .inl (cI, 4, .inl fBe)), (aRl, .inl (cI, 5, .inl fM)), (aA, .inr (2, [.long fd, .int ct, .ref aK, .ref aG, .ref aO])), (aG, .inl (cI, 576, .inl fG)), (aO, .inl (cI, 320, .inl fO))] H → va_D A [(aR, .inr (5, [.int pu, .ref aRp, .ref aRk, .ref aRa, .ref aRb, .ref aRl])), (aRp, .inl (cI, 4, .inl fPo)), (aRk, .inl (cI, 4, .inl fKi)), (aRa, .inl (cI, 4, .inl fAb)), (aRb, .inl (cI, 4, .inl fBe)), (aRl, .inl (cI, 5, .inl fM)), (aA, .inr (2, [.long fd, .int ct, .ref aK, .ref aG, .ref aO])), (aG, .inl (cI, 576, .inl fG)), (aO, .inl (cI, 320, .inl fO))] → va_S A s.heap H locs → ∀ (ls : Array Slot), lv_has ls 6 [(0, .ref aR), (1, .ref aA), (2, .int v1), (3, .int set), (4, .int xi)] → W p l e ({ frames := 3, cells := 0, slots := 0, locals := 69 } : Room) s m args below meth c H locs 0 0 Q (F0 m 5 ls []) := by
  obtain ⟨hK, hN⟩ := id hKN
  intro n
  induction n with
  | zero =>
    intro i xi set hi exi eacc hm
    exact absurd hm (Nat.not_lt_zero _)
  | succ n ih =>
    intro i xi set hi exi eacc hm H locs hP hD hS ls hl
    refine lv_iload hx hb d_Rules_keptBy_5 (lv_at hl 4 rfl) ?_
    refine lv_aload_n hx hb d_Rules_keptBy_7 rfl (lv_at hl 0 rfl) ?_
    refine va_get (D := (dC, dI)) (ci := 5) (v := .int pu) (C := R_Rules) (T := T_Rules) (N := 6) hx hb hts in_Rules hown hK hP 0 rfl rfl 0 (by decide) (hts _ tw_75) (fun _ h9 => h9) rfl d_Rules_keptBy_8 ?_
    refine lv_icmp_ge (tgt := 38) hx hb d_Rules_keptBy_11 (by decide) (fun c_1 => ?_) (fun c_1 => ?_)
    · skip
      have hendi := lp_ge (N := np) c_1 exi hpu hi (by omega)
      exact kx_38 i xi set hi exi eacc hendi H locs (hP.sub [0, 1, 2, 3, 4, 5, 6, 7, 8] rfl) (hD.sub [0, 1, 2, 3, 4, 5, 6, 7, 8] (by decide) rfl) hS ls (lv_sub hl [0, 1, 2, 3, 4] rfl)
    · skip
      have hlti := lp_lt (N := np) c_1 exi hpu (by omega)
      refine lv_aload_n hx hb d_Rules_keptBy_14 rfl (lv_at hl 0 rfl) ?_
      refine lv_aload_n hx hb d_Rules_keptBy_15 rfl (lv_at hl 1 rfl) ?_
      refine lv_iload_n hx hb d_Rules_keptBy_16 rfl (lv_at hl 2 rfl) ?_
      refine lv_iload hx hb d_Rules_keptBy_17 (lv_at hl 4 rfl) ?_
      have hPc := hP.sub (ws' := [(aR, .inr (5, [.int pu, .ref aRp, .ref aRk, .ref aRa, .ref aRb, .ref aRl])), (aRp, .inl (cI, 4, .inl fPo)), (aRk, .inl (cI, 4, .inl fKi)), (aRa, .inl (cI, 4, .inl fAb)), (aRb, .inl (cI, 4, .inl fBe)), (aA, .inr (2, [.long fd, .int ct, .ref aK, .ref aG, .ref aO])), (aG, .inl (cI, 576, .inl fG))]) [0, 1, 2, 3, 4, 6, 7] rfl
      have hDc := hD.sub (ws' := [(aR, .inr (5, [.int pu, .ref aRp, .ref aRk, .ref aRa, .ref aRb, .ref aRl])), (aRp, .inl (cI, 4, .inl fPo)), (aRk, .inl (cI, 4, .inl fKi)), (aRa, .inl (cI, 4, .inl fAb)), (aRb, .inl (cI, 4, .inl fBe)), (aA, .inr (2, [.long fd, .int ct, .ref aK, .ref aG, .ref aO])), (aG, .inl (cI, 576, .inl fG))]) [0, 1, 2, 3, 4, 6, 7] (by decide) rfl
      have hFc := va_free (wc := [(aR, .inr (5, [.int pu, .ref aRp, .ref aRk, .ref aRa, .ref aRb, .ref aRl])), (aRp, .inl (cI, 4, .inl fPo)), (aRk, .inl (cI, 4, .inl fKi)), (aRa, .inl (cI, 4, .inl fAb)), (aRb, .inl (cI, 4, .inl fBe)), (aA, .inr (2, [.long fd, .int ct, .ref aK, .ref aG, .ref aO])), (aG, .inl (cI, 576, .inl fG))]) hD hS hA [0, 1, 2, 3, 4, 6, 7] rfl
      refine va_calli (va_runV (As := [.ref aA, .int v1, .int xi]) (rest := []) ⟨hx, hb, hml, hown, hts⟩ (k_pure l dC dI H.size cI cZ cQ aR aRp aRk aRa aRb aRl pu fPo fKi fAb fBe aA aK aG aO fd ct fG v1 jv xi i ((fPo i).toNatClampNeg) ((fKi i).toNatClampNeg) hv1 hjv exi (by omega) ((hpk i hlti).1.1) ((hpk i hlti).1.2) ((hpk i hlti).2.1) ((hpk i hlti).2.2)) ⟨(callB_of 3 hts (ga_all tw_310) rfl rfl rfl (hts _ tw_24) (hts _ tw_307) (by decide +kernel) ⟨Nat.le_of_ble_eq_true rfl, Nat.le_of_ble_eq_true rfl⟩), hts _ tw_309, hts _ tw_4⟩ ⟨fun a U g mk q => by obtain ⟨q0, q1, qP, qK, qD⟩ := q; exact ⟨q0, q1, qP, g_K.same (u := U) (U := U.calling g mk a) rfl qK, qD⟩, va_recv hK hPc (ci := 5) (q0 := 0) rfl rfl, fun U hU hW => ⟨rfl, by rw [hU], by rw [hU]; exact hPc, g_K.warm hW hKN, hDc.weaken (fun _ _ _ _ => trivial)⟩⟩ rfl rfl hl.1 rfl (lv_room (Nat.le_of_ble_eq_true rfl)) d_Rules_keptBy_19 ⟨Nat.le_of_ble_eq_true rfl, Nat.le_of_ble_eq_true rfl⟩) hS (fun q _ h => hFc q h) hFc (fun r_2 u t H1 locs htt hvm hw_3 hBB hzz hkk hS => ?_)
      have hw_3 : r_2 = q_pure fG fAb fBe jv i ((fPo i).toNatClampNeg) ((fKi i).toNatClampNeg) := hw_3
      obtain ⟨hPP, hDD⟩ := hBB
      rw [htt] at hPP
      have hPP : va_P (dC, dI) vw_cls [(aR, .inr (5, [.int pu, .ref aRp, .ref aRk, .ref aRa, .ref aRb, .ref aRl])), (aRp, .inl (cI, 4, .inl fPo)), (aRk, .inl (cI, 4, .inl fKi)), (aRa, .inl (cI, 4, .inl fAb)), (aRb, .inl (cI, 4, .inl fBe)), (aA, .inr (2, [.long fd, .int ct, .ref aK, .ref aG, .ref aO])), (aG, .inl (cI, 576, .inl fG))] H1 := hPP
      have hDD : va_D (va_A [(aR, .inr (5, [.int pu, .ref aRp, .ref aRk, .ref aRa, .ref aRb, .ref aRl])), (aRp, .inl (cI, 4, .inl fPo)), (aRk, .inl (cI, 4, .inl fKi)), (aRa, .inl (cI, 4, .inl fAb)), (aRb, .inl (cI, 4, .inl fBe)), (aA, .inr (2, [.long fd, .int ct, .ref aK, .ref aG, .ref aO])), (aG, .inl (cI, 576, .inl fG))] H.size) [(aR, .inr (5, [.int pu, .ref aRp, .ref aRk, .ref aRa, .ref aRb, .ref aRl])), (aRp, .inl (cI, 4, .inl fPo)), (aRk, .inl (cI, 4, .inl fKi)), (aRa, .inl (cI, 4, .inl fAb)), (aRb, .inl (cI, 4, .inl fBe)), (aA, .inr (2, [.long fd, .int ct, .ref aK, .ref aG, .ref aO])), (aG, .inl (cI, 576, .inl fG))] := hDD
      obtain ⟨hP, hD⟩ := va_join (wr := [(aRl, .inl (cI, 5, .inl fM)), (aO, .inl (cI, 320, .inl fO))]) (w1 := [(aR, .inr (5, [.int pu, .ref aRp, .ref aRk, .ref aRa, .ref aRb, .ref aRl])), (aRp, .inl (cI, 4, .inl fPo)), (aRk, .inl (cI, 4, .inl fKi)), (aRa, .inl (cI, 4, .inl fAb)), (aRb, .inl (cI, 4, .inl fBe)), (aA, .inr (2, [.long fd, .int ct, .ref aK, .ref aG, .ref aO])), (aG, .inl (cI, 576, .inl fG))]) hP hD [0, 1, 2, 3, 4, 6, 7] [5, 8] rfl rfl (by decide) (by decide) hkk hFc hPP hDD
      generalize H1 = H at hP hS ⊢
      have hP : va_P (dC, dI) vw_cls [(aRl, .inl (cI, 5, .inl fM)), (aO, .inl (cI, 320, .inl fO)), (aR, .inr (5, [.int pu, .ref aRp, .ref aRk, .ref aRa, .ref aRb, .ref aRl])), (aRp, .inl (cI, 4, .inl fPo)), (aRk, .inl (cI, 4, .inl fKi)), (aRa, .inl (cI, 4, .inl fAb)), (aRb, .inl (cI, 4, .inl fBe)), (aA, .inr (2, [.long fd, .int ct, .ref aK, .ref aG, .ref aO])), (aG, .inl (cI, 576, .inl fG))] H := hP
      have hD : va_D A [(aRl, .inl (cI, 5, .inl fM)), (aO, .inl (cI, 320, .inl fO)), (aR, .inr (5, [.int pu, .ref aRp, .ref aRk, .ref aRa, .ref aRb, .ref aRl])), (aRp, .inl (cI, 4, .inl fPo)), (aRk, .inl (cI, 4, .inl fKi)), (aRa, .inl (cI, 4, .inl fAb)), (aRb, .inl (cI, 4, .inl fBe)), (aA, .inr (2, [.long fd, .int ct, .ref aK, .ref aG, .ref aO])), (aG, .inl (cI, 576, .inl fG))] := hD
      refine lv_if_eq (tgt := 32) hx hb d_Rules_keptBy_22 (by decide) (fun c_4 => ?_) (fun c_4 => ?_)
      · skip
        have cq : q_pure fG fAb fBe jv i (fPo i).toNatClampNeg (fKi i).toNatClampNeg = 0 := by rw [← hw_3]; exact c_4
        obtain ⟨v_5, ev_5⟩ : ∃ y : Int32, y = xi + 1 := ⟨_, rfl⟩
        refine lv_iinc (v := v_5) (lv' := [(4, .int v_5), (0, .ref aR), (1, .ref aA), (2, .int v1), (3, .int set)]) hx hb d_Rules_keptBy_32 hl (k := 4) rfl (by rw [ev_5]; rfl) (by decide) rfl (fun ls hl => ?_)
        refine lv_goto (tgt := 5) hx hb d_Rules_keptBy_35 (by decide) ?_
        exact ih (i + 1) v_5 set hlti (by rw [ev_5, exi]; exact nI_1 i) (by first | (rw [q_kp, if_pos cq, eacc]; done) | (rw [q_kp, if_neg cq]; simp only [ev_5, eacc, exi])) (by omega) H locs (hP.sub [2, 3, 4, 5, 6, 0, 7, 8, 1] rfl) (hD.sub [2, 3, 4, 5, 6, 0, 7, 8, 1] (by decide) rfl) hS ls (lv_sub hl [1, 2, 3, 4, 0] rfl)
      · skip
        have cq : ¬ q_pure fG fAb fBe jv i (fPo i).toNatClampNeg (fKi i).toNatClampNeg = 0 := by rw [← hw_3]; exact c_4
        refine lv_iload_n hx hb d_Rules_keptBy_25 rfl (lv_at hl 3 rfl) ?_
        refine lv_iconst (v := 1) hx hb d_Rules_keptBy_26 (by decide) ?_
        refine lv_iload hx hb d_Rules_keptBy_27 (lv_at hl 4 rfl) ?_
        refine lv_ishl hx hb d_Rules_keptBy_29 ?_
        refine lv_topi (fun v_6 ev_6 => ?_)
        refine lv_ior hx hb d_Rules_keptBy_30 ?_
        refine lv_topi (fun v_7 ev_7 => ?_)
        refine lv_istore_n (lv' := [(3, .int v_7), (0, .ref aR), (1, .ref aA), (2, .int v1), (4, .int xi)]) hx hb d_Rules_keptBy_31 rfl hl (by decide) rfl (fun ls hl => ?_)
        obtain ⟨v_8, ev_8⟩ : ∃ y : Int32, y = xi + 1 := ⟨_, rfl⟩
        refine lv_iinc (v := v_8) (lv' := [(4, .int v_8), (3, .int v_7), (0, .ref aR), (1, .ref aA), (2, .int v1)]) hx hb d_Rules_keptBy_32 hl (k := 4) rfl (by rw [ev_8]; rfl) (by decide) rfl (fun ls hl => ?_)
        refine lv_goto (tgt := 5) hx hb d_Rules_keptBy_35 (by decide) ?_
        exact ih (i + 1) v_8 v_7 hlti (by rw [ev_8, exi]; exact nI_1 i) (by first | (rw [q_kp, if_pos cq, eacc]; done) | (rw [q_kp, if_neg cq]; simp only [ev_6, ev_7, ev_8, eacc, exi])) (by omega) H locs (hP.sub [2, 3, 4, 5, 6, 0, 7, 8, 1] rfl) (hD.sub [2, 3, 4, 5, 6, 0, 7, 8, 1] (by decide) rfl) hS ls (lv_sub hl [2, 3, 4, 1, 0] rfl)
set_option maxHeartbeats 4000000 in
set_option maxRecDepth 100000 in
theorem L_km {p : Program} {l : Launch} {e : Env} {s : State} {m : MethodId} {args : Array Value} {below : List Frame} {meth : Method} {c : Code} {Q : State → Prop} {A : Nat → Prop} (hx : p.tables.exec = Jvm.exec) (hb : c.code = b_Rules_keptBy) (hml : c.maxLocals = 6) (hown : s.vm.findClass R_Rules = some m.cls) (hts : ∀ w ∈ lw_g, w.before args s = true) (hA : ∀ q, s.heap.size ≤ q → A q) {dC : Nat → ClassId} {dI : Nat → Nat → Nat} (cI : ClassId) (cZ : ClassId) (cQ : ClassId) (aR : Nat) (aRp : Nat) (aRk : Nat) (aRa : Nat) (aRb : Nat) (aRl : Nat) (pu : Int32) (fPo : Nat → Int32) (fKi : Nat → Int32) (fAb : Nat → Int32) (fBe : Nat → Int32) (fM : Nat → Int32) (aA : Nat) (aK : Nat) (aG : Nat) (aO : Nat) (fd : Int64) (ct : Int32) (fG : Nat → Int32) (fO : Nat → Int32) (v1 : Int32) (jv : Nat) (np : Nat)  (hv1 : v1 = nI jv) (hjv : jv < 64) (hpu : pu = nI np) (hnp : np ≤ 4) (hpk : q_okPK fPo fKi np)  (hKN : g_K dC dI [(cI, .int), (cZ, .boolean), (cQ, (.object "SettingSearch$Answers"))] s)
    (kx_89 : ∀ (i : Nat) (xi : Int32) (acc : Int32) (_ : i ≤ 5) (_ : xi = nI i) (_ : acc = q_km fO fM jv (q_kp fG fPo fKi fAb fBe jv np) i) (_ : i = 5) (H : Heap) (locs : List Loc), va_P (dC, dI) vw_cls [(aR, .inr (5, [.int pu, .ref aRp, .ref aRk, .ref aRa, .ref aRb, .ref aRl])), (aRp, .inl (cI, 4, .inl fPo)), (aRk, .inl (cI, 4, .inl fKi)), (aRa, .inl (cI, 4, .inl fAb)), (aRb, .inl (cI, 4, .inl fBe)), (aRl, .inl (cI, 5, .inl fM)), (aA, .inr (2, [.long fd, .int ct, .ref aK, .ref aG, .ref aO])), (aG, .inl (cI, 576, .inl fG)), (aO, .inl (cI, 320, .inl fO))] H → va_D A [(aR, .inr (5, [.int pu, .ref aRp, .ref aRk, .ref aRa, .ref aRb, .ref aRl])), (aRp, .inl (cI, 4, .inl fPo)), (aRk, .inl (cI, 4, .inl fKi)), (aRa, .inl (cI, 4, .inl fAb)), (aRb, .inl (cI, 4, .inl fBe)), (aRl, .inl (cI, 5, .inl fM)), (aA, .inr (2, [.long fd, .int ct, .ref aK, .ref aG, .ref aO])), (aG, .inl (cI, 576, .inl fG)), (aO, .inl (cI, 320, .inl fO))] → va_S A s.heap H locs → ∀ (ls : Array Slot), lv_has ls 6 [(0, .ref aR), (1, .ref aA), (2, .int v1), (3, .int acc), (4, .int xi)] → W p l e ({ frames := 3, cells := 0, slots := 0, locals := 69 } : Room) s m args below meth c H locs 0 0 Q (F0 m 89 ls [])) :
    ∀ (n : Nat) (i : Nat) (xi : Int32) (acc : Int32) (_ : i ≤ 5) (_ : xi = nI i) (_ : acc = q_km fO fM jv (q_kp fG fPo fKi fAb fBe jv np) i) (_ : 5 - i < n) (H : Heap) (locs : List Loc), va_P (dC, dI) vw_cls [(aR, .inr (5, [.int pu, .ref aRp, .ref aRk, .ref aRa, .ref aRb, .ref aRl])), (aRp, .inl (cI, 4, .inl fPo)), (aRk, .inl (cI, 4, .inl fKi)), (aRa, .inl (cI, 4, .inl fAb)), (aRb, .inl (cI, 4, .inl fBe)), (aRl, .inl (cI, 5, .inl fM)), (aA, .inr (2, [.long fd, .int ct, .ref aK, .ref aG, .ref aO])), (aG, .inl (cI, 576, .inl fG)), (aO, .inl (cI, 320, .inl fO))] H → va_D A [(aR, .inr (5, [.int pu, .ref aRp, .ref aRk, .ref aRa, .ref aRb, .ref aRl])), (aRp, .inl (cI, 4, .inl fPo)), (aRk, .inl (cI, 4, .inl fKi)), (aRa, .inl (cI, 4, .inl fAb)), (aRb, .inl (cI, 4, .inl fBe)), (aRl, .inl (cI, 5, .inl fM)), (aA, .inr (2, [.long fd, .int ct, .ref aK, .ref aG, .ref aO])), (aG, .inl (cI, 576, .inl fG)), (aO, .inl (cI, 320, .inl fO))] → va_S A s.heap H locs → ∀ (ls : Array Slot), lv_has ls 6 [(0, .ref aR), (1, .ref aA), (2, .int v1), (3, .int acc), (4, .int xi)] → W p l e ({ frames := 3, cells := 0, slots := 0, locals := 69 } : Room) s m args below meth c H locs 0 0 Q (F0 m 41 ls []) := by
  obtain ⟨hK, hN⟩ := id hKN
  intro n
  induction n with
  | zero =>
    intro i xi acc hi exi eacc hm
    exact absurd hm (Nat.not_lt_zero _)
  | succ n ih =>
    intro i xi acc hi exi eacc hm H locs hP hD hS ls hl
    refine lv_iload hx hb d_Rules_keptBy_41 (lv_at hl 4 rfl) ?_
    refine lv_iconst (v := 5) hx hb d_Rules_keptBy_43 (by decide) ?_
    refine lv_icmp_ge (tgt := 89) hx hb d_Rules_keptBy_44 (by decide) (fun c_1 => ?_) (fun c_1 => ?_)
    · skip
      have hendi := lp_ge (N := 5) c_1 exi rfl hi (by omega)
      exact kx_89 i xi acc hi exi eacc hendi H locs (hP.sub [0, 1, 2, 3, 4, 5, 6, 7, 8] rfl) (hD.sub [0, 1, 2, 3, 4, 5, 6, 7, 8] (by decide) rfl) hS ls (lv_sub hl [0, 1, 2, 3, 4] rfl)
    · skip
      have hlti := lp_lt (N := 5) c_1 exi rfl (by omega)
      refine lv_aload_n hx hb d_Rules_keptBy_47 rfl (lv_at hl 0 rfl) ?_
      refine va_get (D := (dC, dI)) (ci := 5) (v := .ref aRl) (C := R_Rules) (T := T_Rules) (N := 6) hx hb hts in_Rules hown hK hP 0 rfl rfl 5 (by decide) (hts _ tw_80) (fun _ h9 => h9) rfl d_Rules_keptBy_48 ?_
      refine lv_iload hx hb d_Rules_keptBy_51 (lv_at hl 4 rfl) ?_
      have eh_2 : xi = nI (i) := exi
      have bh_2 : i < 5 := by omega
      have h_2 : vp_in xi 5 := by rw [eh_2]; exact vp_in_nI bh_2 (by decide)
      have kh_2 : xi.toNatClampNeg = i := by rw [eh_2]; exact nI_clamp (by omega)
      refine va_iald hx hb hK hP 5 0 rfl rfl h_2 d_Rules_keptBy_53 ?_
      rw [kh_2]
      refine lv_topi (fun v_3 ev_3 => ?_)
      refine lv_istore (lv' := [(5, .int v_3), (0, .ref aR), (1, .ref aA), (2, .int v1), (3, .int acc), (4, .int xi)]) hx hb d_Rules_keptBy_54 hl (by decide) rfl (fun ls hl => ?_)
      refine lv_iload hx hb d_Rules_keptBy_56 (lv_at hl 0 rfl) ?_
      refine lv_iconst (v := (-1)) hx hb d_Rules_keptBy_58 (by decide) ?_
      refine lv_icmp_eq (tgt := 83) hx hb d_Rules_keptBy_59 (by decide) (fun c_4 => ?_) (fun c_4 => ?_)
      · skip
        have cq : fM i = -1 := by rw [← ev_3]; exact c_4
        obtain ⟨v_5, ev_5⟩ : ∃ y : Int32, y = xi + 1 := ⟨_, rfl⟩
        refine lv_iinc (v := v_5) (lv' := [(4, .int v_5), (5, .int v_3), (0, .ref aR), (1, .ref aA), (2, .int v1), (3, .int acc)]) hx hb d_Rules_keptBy_83 hl (k := 5) rfl (by rw [ev_5]; rfl) (by decide) rfl (fun ls hl => ?_)
        refine lv_goto (tgt := 41) hx hb d_Rules_keptBy_86 (by decide) ?_
        exact ih (i + 1) v_5 acc hlti (by rw [ev_5, exi]; exact nI_1 i) (by first | (rw [q_km, if_pos cq, eacc]; done) | (rw [q_km, if_neg cq, if_pos cr, eacc]; done) | (rw [q_km, if_neg cq, if_neg cr]; simp only [ev_3, ev_5, eacc, exi])) (by omega) H locs (hP.sub [0, 1, 2, 3, 4, 5, 6, 7, 8] rfl) (hD.sub [0, 1, 2, 3, 4, 5, 6, 7, 8] (by decide) rfl) hS ls (lv_sub hl [2, 3, 4, 5, 0] rfl)
      · skip
        have cq : ¬ fM i = -1 := by rw [← ev_3]; exact c_4
        refine lv_aload_n hx hb d_Rules_keptBy_62 rfl (lv_at hl 2 rfl) ?_
        refine lv_iload_n hx hb d_Rules_keptBy_63 rfl (lv_at hl 3 rfl) ?_
        refine lv_iload hx hb d_Rules_keptBy_64 (lv_at hl 5 rfl) ?_
        have hPc := hP.sub (ws' := [(aA, .inr (2, [.long fd, .int ct, .ref aK, .ref aG, .ref aO])), (aO, .inl (cI, 320, .inl fO))]) [6, 8] rfl
        have hDc := hD.sub (ws' := [(aA, .inr (2, [.long fd, .int ct, .ref aK, .ref aG, .ref aO])), (aO, .inl (cI, 320, .inl fO))]) [6, 8] (by decide) rfl
        have hFc := va_free (wc := [(aA, .inr (2, [.long fd, .int ct, .ref aK, .ref aG, .ref aO])), (aO, .inl (cI, 320, .inl fO))]) hD hS hA [6, 8] rfl
        refine va_calli (va_runV (As := [.int v1, .int xi]) (rest := []) ⟨hx, hb, hml, hown, hts⟩ (k_lo l dC dI H.size cI cZ cQ aA aK aG aO fd ct fO v1 jv xi i hv1 hjv exi hlti) ⟨(callB_of 2 hts (ga_all tw_319) rfl rfl rfl (hts _ tw_27) (hts _ tw_316) (by decide +kernel) ⟨Nat.le_of_ble_eq_true rfl, Nat.le_of_ble_eq_true rfl⟩), hts _ tw_317, hts _ tw_318⟩ ⟨fun a U g mk q => by obtain ⟨q0, q1, qP, qK, qD⟩ := q; exact ⟨q0, q1, qP, g_K.same (u := U) (U := U.calling g mk a) rfl qK, qD⟩, va_recv hK hPc (ci := 2) (q0 := 0) rfl rfl, fun U hU hW => ⟨rfl, by rw [hU], by rw [hU]; exact hPc, g_K.warm hW hKN, hDc.weaken (fun _ _ _ _ => trivial)⟩⟩ rfl rfl hl.1 rfl (lv_room (Nat.le_of_ble_eq_true rfl)) d_Rules_keptBy_66 ⟨Nat.le_of_ble_eq_true rfl, Nat.le_of_ble_eq_true rfl⟩) hS (fun q _ h => hFc q h) hFc (fun r_6 u t H1 locs htt hvm hw_7 hBB hzz hkk hS => ?_)
        have hw_7 : r_6 = fO (jv * 5 + i) := hw_7
        obtain ⟨hPP, hDD⟩ := hBB
        rw [htt] at hPP
        have hPP : va_P (dC, dI) vw_cls [(aA, .inr (2, [.long fd, .int ct, .ref aK, .ref aG, .ref aO])), (aO, .inl (cI, 320, .inl fO))] H1 := hPP
        have hDD : va_D (va_A [(aA, .inr (2, [.long fd, .int ct, .ref aK, .ref aG, .ref aO])), (aO, .inl (cI, 320, .inl fO))] H.size) [(aA, .inr (2, [.long fd, .int ct, .ref aK, .ref aG, .ref aO])), (aO, .inl (cI, 320, .inl fO))] := hDD
        obtain ⟨hP, hD⟩ := va_join (wr := [(aR, .inr (5, [.int pu, .ref aRp, .ref aRk, .ref aRa, .ref aRb, .ref aRl])), (aRp, .inl (cI, 4, .inl fPo)), (aRk, .inl (cI, 4, .inl fKi)), (aRa, .inl (cI, 4, .inl fAb)), (aRb, .inl (cI, 4, .inl fBe)), (aRl, .inl (cI, 5, .inl fM)), (aG, .inl (cI, 576, .inl fG))]) (w1 := [(aA, .inr (2, [.long fd, .int ct, .ref aK, .ref aG, .ref aO])), (aO, .inl (cI, 320, .inl fO))]) hP hD [6, 8] [0, 1, 2, 3, 4, 5, 7] rfl rfl (by decide) (by decide) hkk hFc hPP hDD
        generalize H1 = H at hP hS ⊢
        have hP : va_P (dC, dI) vw_cls [(aR, .inr (5, [.int pu, .ref aRp, .ref aRk, .ref aRa, .ref aRb, .ref aRl])), (aRp, .inl (cI, 4, .inl fPo)), (aRk, .inl (cI, 4, .inl fKi)), (aRa, .inl (cI, 4, .inl fAb)), (aRb, .inl (cI, 4, .inl fBe)), (aRl, .inl (cI, 5, .inl fM)), (aG, .inl (cI, 576, .inl fG)), (aA, .inr (2, [.long fd, .int ct, .ref aK, .ref aG, .ref aO])), (aO, .inl (cI, 320, .inl fO))] H := hP
        have hD : va_D A [(aR, .inr (5, [.int pu, .ref aRp, .ref aRk, .ref aRa, .ref aRb, .ref aRl])), (aRp, .inl (cI, 4, .inl fPo)), (aRk, .inl (cI, 4, .inl fKi)), (aRa, .inl (cI, 4, .inl fAb)), (aRb, .inl (cI, 4, .inl fBe)), (aRl, .inl (cI, 5, .inl fM)), (aG, .inl (cI, 576, .inl fG)), (aA, .inr (2, [.long fd, .int ct, .ref aK, .ref aG, .ref aO])), (aO, .inl (cI, 320, .inl fO))] := hD
        refine lv_iload hx hb d_Rules_keptBy_69 (lv_at hl 0 rfl) ?_
        refine lv_icmp_gt (tgt := 83) hx hb d_Rules_keptBy_71 (by decide) (fun c_8 => ?_) (fun c_8 => ?_)
        · skip
          have cr : fM i < fO (jv * 5 + i) := by rw [← hw_7, ← ev_3]; exact c_8
          obtain ⟨v_9, ev_9⟩ : ∃ y : Int32, y = xi + 1 := ⟨_, rfl⟩
          refine lv_iinc (v := v_9) (lv' := [(4, .int v_9), (5, .int v_3), (0, .ref aR), (1, .ref aA), (2, .int v1), (3, .int acc)]) hx hb d_Rules_keptBy_83 hl (k := 5) rfl (by rw [ev_9]; rfl) (by decide) rfl (fun ls hl => ?_)
          refine lv_goto (tgt := 41) hx hb d_Rules_keptBy_86 (by decide) ?_
          exact ih (i + 1) v_9 acc hlti (by rw [ev_9, exi]; exact nI_1 i) (by first | (rw [q_km, if_pos cq, eacc]; done) | (rw [q_km, if_neg cq, if_pos cr, eacc]; done) | (rw [q_km, if_neg cq, if_neg cr]; simp only [ev_3, ev_9, eacc, exi])) (by omega) H locs (hP.sub [0, 1, 2, 3, 4, 5, 7, 6, 8] rfl) (hD.sub [0, 1, 2, 3, 4, 5, 7, 6, 8] (by decide) rfl) hS ls (lv_sub hl [2, 3, 4, 5, 0] rfl)
        · skip
          have cr : ¬ fM i < fO (jv * 5 + i) := by rw [← hw_7, ← ev_3]; exact c_8
          refine lv_iload_n hx hb d_Rules_keptBy_74 rfl (lv_at hl 4 rfl) ?_
          refine lv_iconst (v := 1) hx hb d_Rules_keptBy_75 (by decide) ?_
          refine lv_iconst (v := 4) hx hb d_Rules_keptBy_76 (by decide) ?_
          refine lv_iload hx hb d_Rules_keptBy_77 (lv_at hl 5 rfl) ?_
          refine lv_iadd hx hb d_Rules_keptBy_79 ?_
          refine lv_topi (fun v_10 ev_10 => ?_)
          refine lv_ishl hx hb d_Rules_keptBy_80 ?_
          refine lv_topi (fun v_11 ev_11 => ?_)
          refine lv_ior hx hb d_Rules_keptBy_81 ?_
          refine lv_topi (fun v_12 ev_12 => ?_)
          refine lv_istore_n (lv' := [(3, .int v_12), (5, .int v_3), (0, .ref aR), (1, .ref aA), (2, .int v1), (4, .int xi)]) hx hb d_Rules_keptBy_82 rfl hl (by decide) rfl (fun ls hl => ?_)
          obtain ⟨v_13, ev_13⟩ : ∃ y : Int32, y = xi + 1 := ⟨_, rfl⟩
          refine lv_iinc (v := v_13) (lv' := [(4, .int v_13), (3, .int v_12), (5, .int v_3), (0, .ref aR), (1, .ref aA), (2, .int v1)]) hx hb d_Rules_keptBy_83 hl (k := 5) rfl (by rw [ev_13]; rfl) (by decide) rfl (fun ls hl => ?_)
          refine lv_goto (tgt := 41) hx hb d_Rules_keptBy_86 (by decide) ?_
          exact ih (i + 1) v_13 v_12 hlti (by rw [ev_13, exi]; exact nI_1 i) (by first | (rw [q_km, if_pos cq, eacc]; done) | (rw [q_km, if_neg cq, if_pos cr, eacc]; done) | (rw [q_km, if_neg cq, if_neg cr]; simp only [ev_3, ev_10, ev_11, ev_12, ev_13, eacc, exi])) (by omega) H locs (hP.sub [0, 1, 2, 3, 4, 5, 7, 6, 8] rfl) (hD.sub [0, 1, 2, 3, 4, 5, 7, 6, 8] (by decide) rfl) hS ls (lv_sub hl [3, 4, 5, 1, 0] rfl)
set_option maxHeartbeats 4000000 in
set_option maxRecDepth 100000 in
/-- keptBy -/
theorem k_kb (l : Launch) (dC : Nat → ClassId) (dI : Nat → Nat → Nat) (sz : Nat) (cI : ClassId) (cZ : ClassId) (cQ : ClassId) (aR : Nat) (aRp : Nat) (aRk : Nat) (aRa : Nat) (aRb : Nat) (aRl : Nat) (pu : Int32) (fPo : Nat → Int32) (fKi : Nat → Int32) (fAb : Nat → Int32) (fBe : Nat → Int32) (fM : Nat → Int32) (aA : Nat) (aK : Nat) (aG : Nat) (aO : Nat) (fd : Int64) (ct : Int32) (fG : Nat → Int32) (fO : Nat → Int32) (v1 : Int32) (jv : Nat) (np : Nat) (hv1 : v1 = nI jv) (hjv : jv < 64) (hpu : pu = nI np) (hnp : np ≤ 4) (hpk : q_okPK fPo fKi np) : Met l y_Rules_keptBy w_Rules_keptBy ({ frames := 3, cells := 0, slots := 0, locals := 69 } : Room) (va_Pc [.ref aR, .ref aA, .int v1] (fun U => U.heap.size = sz ∧ va_P (dC, dI) vw_cls [(aR, .inr (5, [.int pu, .ref aRp, .ref aRk, .ref aRa, .ref aRb, .ref aRl])), (aRp, .inl (cI, 4, .inl fPo)), (aRk, .inl (cI, 4, .inl fKi)), (aRa, .inl (cI, 4, .inl fAb)), (aRb, .inl (cI, 4, .inl fBe)), (aRl, .inl (cI, 5, .inl fM)), (aA, .inr (2, [.long fd, .int ct, .ref aK, .ref aG, .ref aO])), (aG, .inl (cI, 576, .inl fG)), (aO, .inl (cI, 320, .inl fO))] U.heap ∧ g_K dC dI [(cI, .int), (cZ, .boolean), (cQ, (.object "SettingSearch$Answers"))] U ∧ va_D (fun _ => True) [(aR, .inr (5, [.int pu, .ref aRp, .ref aRk, .ref aRa, .ref aRb, .ref aRl])), (aRp, .inl (cI, 4, .inl fPo)), (aRk, .inl (cI, 4, .inl fKi)), (aRa, .inl (cI, 4, .inl fAb)), (aRb, .inl (cI, 4, .inl fBe)), (aRl, .inl (cI, 5, .inl fM)), (aA, .inr (2, [.long fd, .int ct, .ref aK, .ref aG, .ref aO])), (aG, .inl (cI, 576, .inl fG)), (aO, .inl (cI, 320, .inl fO))])) (va_Qi (fun (r : Int32) (u : Unit) => r = q_kept fG fO fPo fKi fAb fBe fM np jv) (fun (u : Unit) (t : State) => va_P (dC, dI) vw_cls [(aR, .inr (5, [.int pu, .ref aRp, .ref aRk, .ref aRa, .ref aRb, .ref aRl])), (aRp, .inl (cI, 4, .inl fPo)), (aRk, .inl (cI, 4, .inl fKi)), (aRa, .inl (cI, 4, .inl fAb)), (aRb, .inl (cI, 4, .inl fBe)), (aRl, .inl (cI, 5, .inl fM)), (aA, .inr (2, [.long fd, .int ct, .ref aK, .ref aG, .ref aO])), (aG, .inl (cI, 576, .inl fG)), (aO, .inl (cI, 320, .inl fO))] t.heap ∧ va_D (va_A [(aR, .inr (5, [.int pu, .ref aRp, .ref aRk, .ref aRa, .ref aRb, .ref aRl])), (aRp, .inl (cI, 4, .inl fPo)), (aRk, .inl (cI, 4, .inl fKi)), (aRa, .inl (cI, 4, .inl fAb)), (aRb, .inl (cI, 4, .inl fBe)), (aRl, .inl (cI, 5, .inl fM)), (aA, .inr (2, [.long fd, .int ct, .ref aK, .ref aG, .ref aO])), (aG, .inl (cI, 576, .inl fG)), (aO, .inl (cI, 320, .inl fO))] sz) [(aR, .inr (5, [.int pu, .ref aRp, .ref aRk, .ref aRa, .ref aRb, .ref aRl])), (aRp, .inl (cI, 4, .inl fPo)), (aRk, .inl (cI, 4, .inl fKi)), (aRa, .inl (cI, 4, .inl fAb)), (aRb, .inl (cI, 4, .inl fBe)), (aRl, .inl (cI, 5, .inl fM)), (aA, .inr (2, [.long fd, .int ct, .ref aK, .ref aG, .ref aO])), (aG, .inl (cI, 576, .inl fG)), (aO, .inl (cI, 320, .inl fO))]) (va_A [(aR, .inr (5, [.int pu, .ref aRp, .ref aRk, .ref aRa, .ref aRb, .ref aRl])), (aRp, .inl (cI, 4, .inl fPo)), (aRk, .inl (cI, 4, .inl fKi)), (aRa, .inl (cI, 4, .inl fAb)), (aRb, .inl (cI, 4, .inl fBe)), (aRl, .inl (cI, 5, .inl fM)), (aA, .inr (2, [.long fd, .int ct, .ref aK, .ref aG, .ref aO])), (aG, .inl (cI, 576, .inl fG)), (aO, .inl (cI, 320, .inl fO))] sz)) 0 0 (va_A [(aR, .inr (5, [.int pu, .ref aRp, .ref aRk, .ref aRa, .ref aRb, .ref aRl])), (aRp, .inl (cI, 4, .inl fPo)), (aRk, .inl (cI, 4, .inl fKi)), (aRa, .inl (cI, 4, .inl fAb)), (aRb, .inl (cI, 4, .inl fBe)), (aRl, .inl (cI, 5, .inl fM)), (aA, .inr (2, [.long fd, .int ct, .ref aK, .ref aG, .ref aO])), (aG, .inl (cI, 576, .inl fG)), (aO, .inl (cI, 320, .inl fO))] sz) := by
  refine Met.ofW (cc := b_Rules_keptBy) (maxL := 6) (ret := (some .int)) (by decide) rfl ?_
  intro p e s m args below meth c s₁ B hml hv
  obtain ⟨rfl, hsz, hP, hKN, hD0⟩ := hv
  obtain ⟨hK, hN⟩ := id hKN
  have hx := B.exec
  have hb := B.bytes
  have hr := B.returns
  have hts0 := atoms_spec (ws := w_Rules_keptBy) B.pre
  have hts : ∀ w ∈ lw_g, w.before _ s = true := fun w h => hts0 w (List.mem_cons_of_mem _ h)
  have hown : s.vm.findClass R_Rules = some m.cls := findClass_of_methodNamed B.named
  have hlocks := B.notSynchronized
  subst hsz
  have hD := hD0.self (sz := s.heap.size)
  generalize hAe : va_A [(aR, .inr (5, [.int pu, .ref aRp, .ref aRk, .ref aRa, .ref aRb, .ref aRl])), (aRp, .inl (cI, 4, .inl fPo)), (aRk, .inl (cI, 4, .inl fKi)), (aRa, .inl (cI, 4, .inl fAb)), (aRb, .inl (cI, 4, .inl fBe)), (aRl, .inl (cI, 5, .inl fM)), (aA, .inr (2, [.long fd, .int ct, .ref aK, .ref aG, .ref aO])), (aG, .inl (cI, 576, .inl fG)), (aO, .inl (cI, 320, .inl fO))] s.heap.size = A at hD ⊢
  have hA : ∀ q : Nat, s.heap.size ≤ q → A q := fun q h => by rw [← hAe]; exact Or.inr h
  have hP : va_P (dC, dI) vw_cls [(aR, .inr (5, [.int pu, .ref aRp, .ref aRk, .ref aRa, .ref aRb, .ref aRl])), (aRp, .inl (cI, 4, .inl fPo)), (aRk, .inl (cI, 4, .inl fKi)), (aRa, .inl (cI, 4, .inl fAb)), (aRb, .inl (cI, 4, .inl fBe)), (aRl, .inl (cI, 5, .inl fM)), (aA, .inr (2, [.long fd, .int ct, .ref aK, .ref aG, .ref aO])), (aG, .inl (cI, 576, .inl fG)), (aO, .inl (cI, 320, .inl fO))] s.heap := hP
  have hl := lv_entry ([.ref aR, .ref aA, .int v1]) (n := 6) (Nat.le_of_ble_eq_true rfl)
  rw [lg_entry_eq]
  generalize (lg_sl ([.ref aR, .ref aA, .int v1]) ++ List.replicate (6 - (lg_sl ([.ref aR, .ref aA, .int v1])).length) Slot.unset).toArray = ls at hl ⊢
  have hl : lv_has ls 6 [(0, .ref aR), (1, .ref aA), (2, .int v1)] := hl
  refine gw_start (fun H locs hH hlocs => ?_)
  rw [← hH] at hP
  have hS : va_S A s.heap H locs := by rw [hH, hlocs]; exact va_S.rf
  refine lv_iconst (v := 0) hx hb d_Rules_keptBy_0 (by decide) ?_
  refine lv_istore_n (lv' := [(3, .int 0), (0, .ref aR), (1, .ref aA), (2, .int v1)]) hx hb d_Rules_keptBy_1 rfl hl (by decide) rfl (fun ls hl => ?_)
  refine lv_iconst (v := 0) hx hb d_Rules_keptBy_2 (by decide) ?_
  refine lv_istore (lv' := [(4, .int 0), (3, .int 0), (0, .ref aR), (1, .ref aA), (2, .int v1)]) hx hb d_Rules_keptBy_3 hl (by decide) rfl (fun ls hl => ?_)
  refine L_kp hx hb hml hown hts hA cI cZ cQ aR aRp aRk aRa aRb aRl pu fPo fKi fAb fBe fM aA aK aG aO fd ct fG fO v1 jv np hv1 hjv hpu hnp hpk hKN ?_ (np - 0 + 1) 0 0 0 (Nat.zero_le _) rfl rfl (Nat.lt_succ_self _) H locs (hP.sub [0, 1, 2, 3, 4, 5, 6, 7, 8] rfl) (hD.sub [0, 1, 2, 3, 4, 5, 6, 7, 8] (by decide) rfl) hS ls (lv_sub hl [2, 3, 4, 1, 0] rfl)
  intro i xi set hi exi eacc hendi H locs hP hD hS ls hl
  have hl : lv_has ls 6 [(0, .ref aR), (1, .ref aA), (2, .int v1), (3, .int set), (4, .int xi)] := hl
  have hP : va_P (dC, dI) vw_cls [(aR, .inr (5, [.int pu, .ref aRp, .ref aRk, .ref aRa, .ref aRb, .ref aRl])), (aRp, .inl (cI, 4, .inl fPo)), (aRk, .inl (cI, 4, .inl fKi)), (aRa, .inl (cI, 4, .inl fAb)), (aRb, .inl (cI, 4, .inl fBe)), (aRl, .inl (cI, 5, .inl fM)), (aA, .inr (2, [.long fd, .int ct, .ref aK, .ref aG, .ref aO])), (aG, .inl (cI, 576, .inl fG)), (aO, .inl (cI, 320, .inl fO))] H := hP
  have hD : va_D A [(aR, .inr (5, [.int pu, .ref aRp, .ref aRk, .ref aRa, .ref aRb, .ref aRl])), (aRp, .inl (cI, 4, .inl fPo)), (aRk, .inl (cI, 4, .inl fKi)), (aRa, .inl (cI, 4, .inl fAb)), (aRb, .inl (cI, 4, .inl fBe)), (aRl, .inl (cI, 5, .inl fM)), (aA, .inr (2, [.long fd, .int ct, .ref aK, .ref aG, .ref aO])), (aG, .inl (cI, 576, .inl fG)), (aO, .inl (cI, 320, .inl fO))] := hD
  have eset : set = q_kp fG fPo fKi fAb fBe jv np := by rw [eacc, hendi]
  refine lv_iconst (v := 0) hx hb d_Rules_keptBy_38 (by decide) ?_
  refine lv_istore (lv' := [(4, .int 0), (0, .ref aR), (1, .ref aA), (2, .int v1), (3, .int set)]) hx hb d_Rules_keptBy_39 hl (by decide) rfl (fun ls hl => ?_)
  refine L_km hx hb hml hown hts hA cI cZ cQ aR aRp aRk aRa aRb aRl pu fPo fKi fAb fBe fM aA aK aG aO fd ct fG fO v1 jv np hv1 hjv hpu hnp hpk hKN ?_ (5 - 0 + 1) 0 0 set (Nat.zero_le _) rfl eset (Nat.lt_succ_self _) H locs (hP.sub [0, 1, 2, 3, 4, 5, 6, 7, 8] rfl) (hD.sub [0, 1, 2, 3, 4, 5, 6, 7, 8] (by decide) rfl) hS ls (lv_sub hl [1, 2, 3, 4, 0] rfl)
  intro i xi acc hi exi eacc hendi H locs hP hD hS ls hl
  have hl : lv_has ls 6 [(0, .ref aR), (1, .ref aA), (2, .int v1), (3, .int acc), (4, .int xi)] := hl
  have hP : va_P (dC, dI) vw_cls [(aR, .inr (5, [.int pu, .ref aRp, .ref aRk, .ref aRa, .ref aRb, .ref aRl])), (aRp, .inl (cI, 4, .inl fPo)), (aRk, .inl (cI, 4, .inl fKi)), (aRa, .inl (cI, 4, .inl fAb)), (aRb, .inl (cI, 4, .inl fBe)), (aRl, .inl (cI, 5, .inl fM)), (aA, .inr (2, [.long fd, .int ct, .ref aK, .ref aG, .ref aO])), (aG, .inl (cI, 576, .inl fG)), (aO, .inl (cI, 320, .inl fO))] H := hP
  have hD : va_D A [(aR, .inr (5, [.int pu, .ref aRp, .ref aRk, .ref aRa, .ref aRb, .ref aRl])), (aRp, .inl (cI, 4, .inl fPo)), (aRk, .inl (cI, 4, .inl fKi)), (aRa, .inl (cI, 4, .inl fAb)), (aRb, .inl (cI, 4, .inl fBe)), (aRl, .inl (cI, 5, .inl fM)), (aA, .inr (2, [.long fd, .int ct, .ref aK, .ref aG, .ref aO])), (aG, .inl (cI, 576, .inl fG)), (aO, .inl (cI, 320, .inl fO))] := hD
  refine lv_iload_n hx hb d_Rules_keptBy_89 rfl (lv_at hl 3 rfl) ?_
  have hP9 := hP.sub (ws' := [(aR, .inr (5, [.int pu, .ref aRp, .ref aRk, .ref aRa, .ref aRb, .ref aRl])), (aRp, .inl (cI, 4, .inl fPo)), (aRk, .inl (cI, 4, .inl fKi)), (aRa, .inl (cI, 4, .inl fAb)), (aRb, .inl (cI, 4, .inl fBe)), (aRl, .inl (cI, 5, .inl fM)), (aA, .inr (2, [.long fd, .int ct, .ref aK, .ref aG, .ref aO])), (aG, .inl (cI, 576, .inl fG)), (aO, .inl (cI, 320, .inl fO))]) [0, 1, 2, 3, 4, 5, 6, 7, 8] rfl
  have hD9 := hD.sub (ws' := [(aR, .inr (5, [.int pu, .ref aRp, .ref aRk, .ref aRa, .ref aRb, .ref aRl])), (aRp, .inl (cI, 4, .inl fPo)), (aRk, .inl (cI, 4, .inl fKi)), (aRa, .inl (cI, 4, .inl fAb)), (aRb, .inl (cI, 4, .inl fBe)), (aRl, .inl (cI, 5, .inl fM)), (aA, .inr (2, [.long fd, .int ct, .ref aK, .ref aG, .ref aO])), (aG, .inl (cI, 576, .inl fG)), (aO, .inl (cI, 320, .inl fO))]) [0, 1, 2, 3, 4, 5, 6, 7, 8] (by decide) rfl
  have hpost_1 : (acc : Int32) = q_kept fG fO fPo fKi fAb fBe fM np jv := by rw [eacc, hendi]; rfl
  exact W.iret (v := acc) hx hb hr (fun t ht hW => ⟨⟨acc, (), rfl, hpost_1, by rw [ht]; exact hP9, hD9⟩, hS.F ht⟩) hS.2.2 d_Rules_keptBy_90
