theorem g_same {D : va_G} {cl : List vw_C} {tys : List (ClassId × FieldType)} {s : State} {cA cB : ClassId} {ty : FieldType} {i j : Nat} (hK : va_K D cl tys s) (hi : tys[i]? = some (cA, ty)) (hj : tys[j]? = some (cB, ty)) : cA = cB := by
  have h1 := (hK.2 i _ hi).2
  have h2 := (hK.2 j _ hj).2
  cases ty with
  | object C =>
    obtain ⟨_, _, _, _, _, e1⟩ := h1
    obtain ⟨_, _, _, _, _, e2⟩ := h2
    exact Option.some.inj (e1.symm.trans e2)
  | _ => exact Option.some.inj (Eq.trans (Eq.symm h1) h2)
def q_fl (f : Nat → Int32) (v : Int32) : Nat → Nat → Int32
  | 0 => f
  | k + 1 => upd (q_fl f v k) k v
set_option maxHeartbeats 4000000 in
set_option maxRecDepth 100000 in
theorem L_afl {p : Program} {l : Launch} {e : Env} {s : State} {m : MethodId} {args : Array Value} {below : List Frame} {meth : Method} {c : Code} {Q : State → Prop} {A : Nat → Prop} (hx : p.tables.exec = Jvm.exec) (hb : c.code = b_JArrays_fill) (hml : c.maxLocals = 4) (hown : s.vm.findClass R_JArrays = some m.cls) (hts : ∀ w ∈ lw_g, w.before args s = true) (hA : ∀ q, s.heap.size ≤ q → A q) {dC : Nat → ClassId} {dI : Nat → Nat → Nat} (cI : ClassId) (cZ : ClassId) (cQ : ClassId) (aX : Nat) (f1 : Nat → Int32) (x1 : Int32)    (hKN : g_K dC dI [(cI, .int), (cZ, .boolean), (cQ, (.object "SettingSearch$Answers"))] s)
    (kx_20 : ∀ (i : Nat) (xi : Int32) (g : Nat → Int32) (_ : i ≤ 5) (_ : xi = nI i) (_ : g = q_fl f1 x1 i) (_ : i = 5) (H : Heap) (locs : List Loc), va_P (dC, dI) vw_cls [(aX, .inl (cI, 5, .inl g))] H → va_D A [(aX, .inl (cI, 5, .inl g))] → va_S A s.heap H locs → ∀ (ls : Array Slot), lv_has ls 4 [(0, .ref aX), (1, .int x1), (2, .int xi), (3, .int 5)] → W p l e ({ frames := 0, cells := 0, slots := 0, locals := 0 } : Room) s m args below meth c H locs 0 0 Q (F0 m 20 ls [])) :
    ∀ (n : Nat) (i : Nat) (xi : Int32) (g : Nat → Int32) (_ : i ≤ 5) (_ : xi = nI i) (_ : g = q_fl f1 x1 i) (_ : 5 - i < n) (H : Heap) (locs : List Loc), va_P (dC, dI) vw_cls [(aX, .inl (cI, 5, .inl g))] H → va_D A [(aX, .inl (cI, 5, .inl g))] → va_S A s.heap H locs → ∀ (ls : Array Slot), lv_has ls 4 [(0, .ref aX), (1, .int x1), (2, .int xi), (3, .int 5)] → W p l e ({ frames := 0, cells := 0, slots := 0, locals := 0 } : Room) s m args below meth c H locs 0 0 Q (F0 m 5 ls []) := by
  obtain ⟨hK, hN⟩ := id hKN
  intro n
  induction n with
  | zero =>
    intro i xi g hi exi eg hm
    exact absurd hm (Nat.not_lt_zero _)
  | succ n ih =>
    intro i xi g hi exi eg hm H locs hP hD hS ls hl
    refine lv_iload_n hx hb d_JArrays_fill_5 rfl (lv_at hl 2 rfl) ?_
    refine lv_iload_n hx hb d_JArrays_fill_6 rfl (lv_at hl 3 rfl) ?_
    refine lv_icmp_ge (tgt := 20) hx hb d_JArrays_fill_7 (by decide) (fun c_1 => ?_) (fun c_1 => ?_)
    · skip
      have hendi := lp_ge (N := 5) c_1 exi rfl hi (by omega)
      exact kx_20 i xi g hi exi eg hendi H locs (hP.sub [0] rfl) (hD.sub [0] (by decide) rfl) hS ls (lv_sub hl [0, 1, 2, 3] rfl)
    · skip
      have hlti := lp_lt (N := 5) c_1 exi rfl (by omega)
      refine lv_aload_n hx hb d_JArrays_fill_10 rfl (lv_at hl 0 rfl) ?_
      refine lv_iload_n hx hb d_JArrays_fill_11 rfl (lv_at hl 2 rfl) ?_
      refine lv_iload_n hx hb d_JArrays_fill_12 rfl (lv_at hl 1 rfl) ?_
      have eh_2 : xi = nI (i) := exi
      have bh_2 : i < 5 := by omega
      have h_2 : vp_in xi 5 := by rw [eh_2]; exact vp_in_nI bh_2 (by decide)
      have kh_2 : xi.toNatClampNeg = i := by rw [eh_2]; exact nI_clamp (by omega)
      refine va_iast hx hb hK hP hD hS 0 0 rfl rfl h_2 d_JArrays_fill_13 (fun H locs hP hD hS => ?_)
      rw [kh_2] at hP hD
      obtain ⟨g2, eg2⟩ : ∃ y : Nat → Int32, y = upd g (i) x1 := ⟨_, rfl⟩
      rw [← eg2] at hP hD
      have hP : va_P (dC, dI) vw_cls [(aX, .inl (cI, 5, .inl g2))] H := hP
      have hD : va_D A [(aX, .inl (cI, 5, .inl g2))] := hD
      obtain ⟨v_3, ev_3⟩ : ∃ y : Int32, y = xi + 1 := ⟨_, rfl⟩
      refine lv_iinc (v := v_3) (lv' := [(2, .int v_3), (0, .ref aX), (1, .int x1), (3, .int 5)]) hx hb d_JArrays_fill_14 hl (k := 2) rfl (by rw [ev_3]; rfl) (by decide) rfl (fun ls hl => ?_)
      refine lv_goto (tgt := 5) hx hb d_JArrays_fill_17 (by decide) ?_
      exact ih (i + 1) v_3 g2 hlti (by rw [ev_3, exi]; exact nI_1 i) (by rw [eg2, eg]; rfl) (by omega) H locs (hP.sub [0] rfl) (hD.sub [0] (by decide) rfl) hS ls (lv_sub hl [1, 2, 0, 3] rfl)
set_option maxHeartbeats 4000000 in
set_option maxRecDepth 100000 in
/-- Arrays.fill -/
theorem k_afl (l : Launch) (dC : Nat → ClassId) (dI : Nat → Nat → Nat) (sz : Nat) (cI : ClassId) (cZ : ClassId) (cQ : ClassId) (aX : Nat) (f1 : Nat → Int32) (x1 : Int32)  : Met l y_JArrays_fill w_JArrays_fill ({ frames := 0, cells := 0, slots := 0, locals := 0 } : Room) (va_Pc [.ref aX, .int x1] (fun U => U.heap.size = sz ∧ va_P (dC, dI) vw_cls [(aX, .inl (cI, 5, .inl f1))] U.heap ∧ g_K dC dI [(cI, .int), (cZ, .boolean), (cQ, (.object "SettingSearch$Answers"))] U ∧ va_D (fun _ => True) [(aX, .inl (cI, 5, .inl f1))])) (va_Qv (fun (u : (Nat → Int32)) => u = q_fl f1 x1 5) (fun (u : (Nat → Int32)) (t : State) => va_P (dC, dI) vw_cls [(aX, .inl (cI, 5, .inl u))] t.heap ∧ va_D (va_A [(aX, .inl (cI, 5, .inl f1))] sz) [(aX, .inl (cI, 5, .inl u))]) (va_A [(aX, .inl (cI, 5, .inl f1))] sz)) 0 0 (va_A [(aX, .inl (cI, 5, .inl f1))] sz) := by
  refine Met.ofW (cc := b_JArrays_fill) (maxL := 4) (ret := none) (by decide) rfl ?_
  intro p e s m args below meth c s₁ B hml hv
  obtain ⟨rfl, hsz, hP, hKN, hD0⟩ := hv
  obtain ⟨hK, hN⟩ := id hKN
  have hx := B.exec
  have hb := B.bytes
  have hr := B.returns
  have hts0 := atoms_spec (ws := w_JArrays_fill) B.pre
  have hts : ∀ w ∈ lw_g, w.before _ s = true := fun w h => hts0 w (List.mem_cons_of_mem _ h)
  have hown : s.vm.findClass R_JArrays = some m.cls := findClass_of_methodNamed B.named
  have hlocks := B.notSynchronized
  subst hsz
  have hD := hD0.self (sz := s.heap.size)
  generalize hAe : va_A [(aX, .inl (cI, 5, .inl f1))] s.heap.size = A at hD ⊢
  have hA : ∀ q : Nat, s.heap.size ≤ q → A q := fun q h => by rw [← hAe]; exact Or.inr h
  have hP : va_P (dC, dI) vw_cls [(aX, .inl (cI, 5, .inl f1))] s.heap := hP
  have hl := lv_entry ([.ref aX, .int x1]) (n := 4) (Nat.le_of_ble_eq_true rfl)
  rw [lg_entry_eq]
  generalize (lg_sl ([.ref aX, .int x1]) ++ List.replicate (4 - (lg_sl ([.ref aX, .int x1])).length) Slot.unset).toArray = ls at hl ⊢
  have hl : lv_has ls 4 [(0, .ref aX), (1, .int x1)] := hl
  refine gw_start (fun H locs hH hlocs => ?_)
  rw [← hH] at hP
  have hS : va_S A s.heap H locs := by rw [hH, hlocs]; exact va_S.rf
  refine lv_iconst (v := 0) hx hb d_JArrays_fill_0 (by decide) ?_
  refine lv_istore_n (lv' := [(2, .int 0), (0, .ref aX), (1, .int x1)]) hx hb d_JArrays_fill_1 rfl hl (by decide) rfl (fun ls hl => ?_)
  refine lv_aload_n hx hb d_JArrays_fill_2 rfl (lv_at hl 1 rfl) ?_
  refine va_alen hx hb hK hP 0 0 rfl rfl (v := 5) rfl d_JArrays_fill_3 ?_
  refine lv_istore_n (lv' := [(3, .int 5), (2, .int 0), (0, .ref aX), (1, .int x1)]) hx hb d_JArrays_fill_4 rfl hl (by decide) rfl (fun ls hl => ?_)
  refine L_afl hx hb hml hown hts hA cI cZ cQ aX f1 x1 hKN ?_ (5 - 0 + 1) 0 0 f1 (Nat.zero_le _) rfl rfl (Nat.lt_succ_self _) H locs (hP.sub [0] rfl) (hD.sub [0] (by decide) rfl) hS ls (lv_sub hl [2, 3, 1, 0] rfl)
  intro i xi g hi exi eg hendi H locs hP hD hS ls hl
  have hl : lv_has ls 4 [(0, .ref aX), (1, .int x1), (2, .int xi), (3, .int 5)] := hl
  have hP : va_P (dC, dI) vw_cls [(aX, .inl (cI, 5, .inl g))] H := hP
  have hD : va_D A [(aX, .inl (cI, 5, .inl g))] := hD
  have hP9 := hP.sub (ws' := [(aX, .inl (cI, 5, .inl g))]) [0] rfl
  have hD9 := hD.sub (ws' := [(aX, .inl (cI, 5, .inl g))]) [0] (by decide) rfl
  have hpost_1 : g = q_fl f1 x1 5 := by rw [eg, hendi]
  exact W.vret hx hb hr (fun t ht hW => ⟨⟨g, rfl, hpost_1, by rw [ht]; exact hP9, hD9⟩, hS.F ht⟩) hS.2.2 d_JArrays_fill_20
set_option maxHeartbeats 4000000 in
set_option maxRecDepth 100000 in
/-- Machines() -/
theorem k_mi (l : Launch) (dC : Nat → ClassId) (dI : Nat → Nat → Nat) (sz : Nat) (cI : ClassId) (cZ : ClassId) (cQ : ClassId) (aM : Nat)  : Met l y_Machines_init w_Machines_init ({ frames := 1, cells := 3, slots := 330, locals := 20 } : Room) (va_Pc [.ref aM] (fun U => U.heap.size = sz ∧ va_P (dC, dI) vw_cls [(aM, .inr (4, [.int 0, .int 0, .null, .null, .null]))] U.heap ∧ g_K dC dI [(cI, .int), (cZ, .boolean), (cQ, (.object "SettingSearch$Answers"))] U ∧ va_D (fun _ => True) [(aM, .inr (4, [.int 0, .int 0, .null, .null, .null]))])) (va_Qv (fun (u : Nat × Nat × Nat) => True) (fun (u : Nat × Nat × Nat) (t : State) => va_P (dC, dI) vw_cls [(aM, .inr (4, [.int 0, .int 1, .ref u.1, .ref u.2.1, .ref u.2.2])), (u.1, .inl (cI, 5, .inl (fun _ => 0))), (u.2.1, .inl (cI, 5, .inl (fun _ => 0))), (u.2.2, .inl (cI, 320, .inl (fun _ => 0)))] t.heap ∧ va_D (va_A [(aM, .inr (4, [.int 0, .int 0, .null, .null, .null]))] sz) [(aM, .inr (4, [.int 0, .int 1, .ref u.1, .ref u.2.1, .ref u.2.2])), (u.1, .inl (cI, 5, .inl (fun _ => 0))), (u.2.1, .inl (cI, 5, .inl (fun _ => 0))), (u.2.2, .inl (cI, 320, .inl (fun _ => 0)))]) (va_A [(aM, .inr (4, [.int 0, .int 0, .null, .null, .null]))] sz)) 3 330 (va_A [(aM, .inr (4, [.int 0, .int 0, .null, .null, .null]))] sz) := by
  refine Met.ofW (cc := b_Machines_init) (maxL := 1) (ret := none) (by decide) rfl ?_
  intro p e s m args below meth c s₁ B hml hv
  obtain ⟨rfl, hsz, hP, hKN, hD0⟩ := hv
  obtain ⟨hK, hN⟩ := id hKN
  have hx := B.exec
  have hb := B.bytes
  have hr := B.returns
  have hts0 := atoms_spec (ws := w_Machines_init) B.pre
  have hts : ∀ w ∈ lw_g, w.before _ s = true := fun w h => hts0 w (List.mem_cons_of_mem _ h)
  have hown : s.vm.findClass R_Machines = some m.cls := findClass_of_methodNamed B.named
  have hlocks := B.notSynchronized
  have hin : meth.name = "<init>" := (name_of_methodNamed B.named B.method).1
  subst hsz
  have hD := hD0.self (sz := s.heap.size)
  generalize hAe : va_A [(aM, .inr (4, [.int 0, .int 0, .null, .null, .null]))] s.heap.size = A at hD ⊢
  have hA : ∀ q : Nat, s.heap.size ≤ q → A q := fun q h => by rw [← hAe]; exact Or.inr h
  have hP : va_P (dC, dI) vw_cls [(aM, .inr (4, [.int 0, .int 0, .null, .null, .null]))] s.heap := hP
  have hl := lv_entry ([.ref aM]) (n := 1) (Nat.le_of_ble_eq_true rfl)
  rw [lg_entry_eq]
  generalize (lg_sl ([.ref aM]) ++ List.replicate (1 - (lg_sl ([.ref aM])).length) Slot.unset).toArray = ls at hl ⊢
  have hl : lv_has ls 1 [(0, .ref aM)] := hl
  refine gw_start (fun H locs hH hlocs => ?_)
  rw [← hH] at hP
  have hS : va_S A s.heap H locs := by rw [hH, hlocs]; exact va_S.rf
  refine lv_aload_n hx hb d_Machines_init_0 rfl (lv_at hl 0 rfl) ?_
  refine W.objInit hx hb hown (hts _ tw_45) (hts _ tw_38) (hts _ tw_39) rfl (by rw [hml]; exact hl.1) rfl d_Machines_init_1 (Nat.le_of_ble_eq_true rfl) (Nat.le_of_ble_eq_true rfl) ?_
  refine W.eq (g2 := F0 m 4 ls []) rfl ?_
  refine lv_aload_n hx hb d_Machines_init_4 rfl (lv_at hl 0 rfl) ?_
  refine lv_iconst (v := 1) hx hb d_Machines_init_5 (by decide) ?_
  refine va_put (D := (dC, dI)) (ci := 4) (v := .int 1) (ty := .int) (C := R_Machines) (T := T_Machines) (N := 5) hx hb hts in_Machines ty_Machines ty_Machines_ok nm_Machines hown hK hP hD hS 0 rfl rfl 1 (by decide) (hts _ tw_49) (fun _ h9 => h9) rfl (by decide +kernel) rfl rfl (Nat.le_of_ble_eq_true rfl) d_Machines_init_6 (fun H locs hP hD hS => ?_)
  have hP : va_P (dC, dI) vw_cls [(aM, .inr (4, [.int 0, .int 1, .null, .null, .null]))] H := hP
  have hD : va_D A [(aM, .inr (4, [.int 0, .int 1, .null, .null, .null]))] := hD
  refine lv_aload_n hx hb d_Machines_init_9 rfl (lv_at hl 0 rfl) ?_
  refine lv_iconst (v := 5) hx hb d_Machines_init_10 (by decide) ?_
  refine va_newa (atype := .int) (ty := .int) (N' := 5) (a0 := (5, .inl (fun _ => 0))) hx hb (hts _ tw_65) rfl hK hP hD hS hA (fun _ => rfl) (by decide) (by decide) (by decide) (Nat.le_of_ble_eq_true rfl) (Nat.le_of_ble_eq_true rfl) d_Machines_init_11 (fun q_1 cA_2 H hK9 hP hD hS => ?_)
  rw [show cA_2 = cI from g_same hK9 (i := 3) (j := 0) rfl rfl] at hP hD
  have hP : va_P (dC, dI) vw_cls [(aM, .inr (4, [.int 0, .int 1, .null, .null, .null])), (q_1, .inl (cI, 5, .inl (fun _ => 0)))] H := hP
  have hD : va_D A [(aM, .inr (4, [.int 0, .int 1, .null, .null, .null])), (q_1, .inl (cI, 5, .inl (fun _ => 0)))] := hD
  refine va_putF (D := (dC, dI)) (ci := 4) (v := .ref q_1) (ty := (.array .int)) (C := R_Machines) (T := T_Machines) (N := 5) hx hb hts in_Machines ty_Machines ty_Machines_ok nm_Machines hown hK hP hD hS 0 rfl rfl 2 (by decide) (hts _ tw_51) (fun _ h9 => h9) rfl hin rfl (by decide +kernel) rfl rfl (Nat.le_of_ble_eq_true rfl) d_Machines_init_13 (fun H locs hP hD hS => ?_)
  have hP : va_P (dC, dI) vw_cls [(aM, .inr (4, [.int 0, .int 1, .ref q_1, .null, .null])), (q_1, .inl (cI, 5, .inl (fun _ => 0)))] H := hP
  have hD : va_D A [(aM, .inr (4, [.int 0, .int 1, .ref q_1, .null, .null])), (q_1, .inl (cI, 5, .inl (fun _ => 0)))] := hD
  refine lv_aload_n hx hb d_Machines_init_16 rfl (lv_at hl 0 rfl) ?_
  refine lv_iconst (v := 5) hx hb d_Machines_init_17 (by decide) ?_
  refine va_newa (atype := .int) (ty := .int) (N' := 5) (a0 := (5, .inl (fun _ => 0))) hx hb (hts _ tw_65) rfl hK hP hD hS hA (fun _ => rfl) (by decide) (by decide) (by decide) (Nat.le_of_ble_eq_true rfl) (Nat.le_of_ble_eq_true rfl) d_Machines_init_18 (fun q_3 cA_4 H hK9 hP hD hS => ?_)
  rw [show cA_4 = cI from g_same hK9 (i := 3) (j := 0) rfl rfl] at hP hD
  have hP : va_P (dC, dI) vw_cls [(aM, .inr (4, [.int 0, .int 1, .ref q_1, .null, .null])), (q_1, .inl (cI, 5, .inl (fun _ => 0))), (q_3, .inl (cI, 5, .inl (fun _ => 0)))] H := hP
  have hD : va_D A [(aM, .inr (4, [.int 0, .int 1, .ref q_1, .null, .null])), (q_1, .inl (cI, 5, .inl (fun _ => 0))), (q_3, .inl (cI, 5, .inl (fun _ => 0)))] := hD
  refine va_putF (D := (dC, dI)) (ci := 4) (v := .ref q_3) (ty := (.array .int)) (C := R_Machines) (T := T_Machines) (N := 5) hx hb hts in_Machines ty_Machines ty_Machines_ok nm_Machines hown hK hP hD hS 0 rfl rfl 3 (by decide) (hts _ tw_52) (fun _ h9 => h9) rfl hin rfl (by decide +kernel) rfl rfl (Nat.le_of_ble_eq_true rfl) d_Machines_init_20 (fun H locs hP hD hS => ?_)
  have hP : va_P (dC, dI) vw_cls [(aM, .inr (4, [.int 0, .int 1, .ref q_1, .ref q_3, .null])), (q_1, .inl (cI, 5, .inl (fun _ => 0))), (q_3, .inl (cI, 5, .inl (fun _ => 0)))] H := hP
  have hD : va_D A [(aM, .inr (4, [.int 0, .int 1, .ref q_1, .ref q_3, .null])), (q_1, .inl (cI, 5, .inl (fun _ => 0))), (q_3, .inl (cI, 5, .inl (fun _ => 0)))] := hD
  refine lv_aload_n hx hb d_Machines_init_23 rfl (lv_at hl 0 rfl) ?_
  refine lv_sipush (v := 320) hx hb d_Machines_init_24 (by decide) ?_
  refine va_newa (atype := .int) (ty := .int) (N' := 320) (a0 := (320, .inl (fun _ => 0))) hx hb (hts _ tw_65) rfl hK hP hD hS hA (fun _ => rfl) (by decide) (by decide) (by decide) (Nat.le_of_ble_eq_true rfl) (Nat.le_of_ble_eq_true rfl) d_Machines_init_27 (fun q_5 cA_6 H hK9 hP hD hS => ?_)
  rw [show cA_6 = cI from g_same hK9 (i := 3) (j := 0) rfl rfl] at hP hD
  have hP : va_P (dC, dI) vw_cls [(aM, .inr (4, [.int 0, .int 1, .ref q_1, .ref q_3, .null])), (q_1, .inl (cI, 5, .inl (fun _ => 0))), (q_3, .inl (cI, 5, .inl (fun _ => 0))), (q_5, .inl (cI, 320, .inl (fun _ => 0)))] H := hP
  have hD : va_D A [(aM, .inr (4, [.int 0, .int 1, .ref q_1, .ref q_3, .null])), (q_1, .inl (cI, 5, .inl (fun _ => 0))), (q_3, .inl (cI, 5, .inl (fun _ => 0))), (q_5, .inl (cI, 320, .inl (fun _ => 0)))] := hD
  refine va_putF (D := (dC, dI)) (ci := 4) (v := .ref q_5) (ty := (.array .int)) (C := R_Machines) (T := T_Machines) (N := 5) hx hb hts in_Machines ty_Machines ty_Machines_ok nm_Machines hown hK hP hD hS 0 rfl rfl 4 (by decide) (hts _ tw_53) (fun _ h9 => h9) rfl hin rfl (by decide +kernel) rfl rfl (Nat.le_of_ble_eq_true rfl) d_Machines_init_29 (fun H locs hP hD hS => ?_)
  have hP : va_P (dC, dI) vw_cls [(aM, .inr (4, [.int 0, .int 1, .ref q_1, .ref q_3, .ref q_5])), (q_1, .inl (cI, 5, .inl (fun _ => 0))), (q_3, .inl (cI, 5, .inl (fun _ => 0))), (q_5, .inl (cI, 320, .inl (fun _ => 0)))] H := hP
  have hD : va_D A [(aM, .inr (4, [.int 0, .int 1, .ref q_1, .ref q_3, .ref q_5])), (q_1, .inl (cI, 5, .inl (fun _ => 0))), (q_3, .inl (cI, 5, .inl (fun _ => 0))), (q_5, .inl (cI, 320, .inl (fun _ => 0)))] := hD
  have hP9 := hP.sub (ws' := [(aM, .inr (4, [.int 0, .int 1, .ref q_1, .ref q_3, .ref q_5])), (q_1, .inl (cI, 5, .inl (fun _ => 0))), (q_3, .inl (cI, 5, .inl (fun _ => 0))), (q_5, .inl (cI, 320, .inl (fun _ => 0)))]) [0, 1, 2, 3] rfl
  have hD9 := hD.sub (ws' := [(aM, .inr (4, [.int 0, .int 1, .ref q_1, .ref q_3, .ref q_5])), (q_1, .inl (cI, 5, .inl (fun _ => 0))), (q_3, .inl (cI, 5, .inl (fun _ => 0))), (q_5, .inl (cI, 320, .inl (fun _ => 0)))]) [0, 1, 2, 3] (by decide) rfl
  have hpost_7 : True := trivial
  refine W.widen (k := 3) (n := 330) (Nat.le_of_ble_eq_true rfl) (Nat.le_of_ble_eq_true rfl) ?_
  exact W.vret hx hb hr (fun t ht hW => ⟨⟨(q_1, q_3, q_5), rfl, hpost_7, by rw [ht]; exact hP9, hD9⟩, hS.F ht⟩) hS.2.2 d_Machines_init_32
set_option maxHeartbeats 4000000 in
set_option maxRecDepth 100000 in
/-- Rules() -/
theorem k_ri (l : Launch) (dC : Nat → ClassId) (dI : Nat → Nat → Nat) (sz : Nat) (cI : ClassId) (cZ : ClassId) (cQ : ClassId) (aR : Nat)  : Met l y_Rules_init w_Rules_init ({ frames := 1, cells := 5, slots := 21, locals := 23 } : Room) (va_Pc [.ref aR] (fun U => U.heap.size = sz ∧ va_P (dC, dI) vw_cls [(aR, .inr (5, [.int 0, .null, .null, .null, .null, .null]))] U.heap ∧ g_K dC dI [(cI, .int), (cZ, .boolean), (cQ, (.object "SettingSearch$Answers"))] U ∧ va_D (fun _ => True) [(aR, .inr (5, [.int 0, .null, .null, .null, .null, .null]))])) (va_Qv (fun (u : Nat × Nat × Nat × Nat × Nat × (Nat → Int32)) => u.2.2.2.2.2 = q_fl (fun _ => 0) (-1) 5) (fun (u : Nat × Nat × Nat × Nat × Nat × (Nat → Int32)) (t : State) => va_P (dC, dI) vw_cls [(aR, .inr (5, [.int 0, .ref u.1, .ref u.2.1, .ref u.2.2.1, .ref u.2.2.2.1, .ref u.2.2.2.2.1])), (u.1, .inl (cI, 4, .inl (fun _ => 0))), (u.2.1, .inl (cI, 4, .inl (fun _ => 0))), (u.2.2.1, .inl (cI, 4, .inl (fun _ => 0))), (u.2.2.2.1, .inl (cI, 4, .inl (fun _ => 0))), (u.2.2.2.2.1, .inl (cI, 5, .inl u.2.2.2.2.2))] t.heap ∧ va_D (va_A [(aR, .inr (5, [.int 0, .null, .null, .null, .null, .null]))] sz) [(aR, .inr (5, [.int 0, .ref u.1, .ref u.2.1, .ref u.2.2.1, .ref u.2.2.2.1, .ref u.2.2.2.2.1])), (u.1, .inl (cI, 4, .inl (fun _ => 0))), (u.2.1, .inl (cI, 4, .inl (fun _ => 0))), (u.2.2.1, .inl (cI, 4, .inl (fun _ => 0))), (u.2.2.2.1, .inl (cI, 4, .inl (fun _ => 0))), (u.2.2.2.2.1, .inl (cI, 5, .inl u.2.2.2.2.2))]) (va_A [(aR, .inr (5, [.int 0, .null, .null, .null, .null, .null]))] sz)) 5 21 (va_A [(aR, .inr (5, [.int 0, .null, .null, .null, .null, .null]))] sz) := by
  refine Met.ofW (cc := b_Rules_init) (maxL := 1) (ret := none) (by decide) rfl ?_
  intro p e s m args below meth c s₁ B hml hv
  obtain ⟨rfl, hsz, hP, hKN, hD0⟩ := hv
  obtain ⟨hK, hN⟩ := id hKN
  have hx := B.exec
  have hb := B.bytes
  have hr := B.returns
  have hts0 := atoms_spec (ws := w_Rules_init) B.pre
  have hts : ∀ w ∈ lw_g, w.before _ s = true := fun w h => hts0 w (List.mem_cons_of_mem _ h)
  have hown : s.vm.findClass R_Rules = some m.cls := findClass_of_methodNamed B.named
  have hlocks := B.notSynchronized
  have hin : meth.name = "<init>" := (name_of_methodNamed B.named B.method).1
  subst hsz
  have hD := hD0.self (sz := s.heap.size)
  generalize hAe : va_A [(aR, .inr (5, [.int 0, .null, .null, .null, .null, .null]))] s.heap.size = A at hD ⊢
  have hA : ∀ q : Nat, s.heap.size ≤ q → A q := fun q h => by rw [← hAe]; exact Or.inr h
  have hP : va_P (dC, dI) vw_cls [(aR, .inr (5, [.int 0, .null, .null, .null, .null, .null]))] s.heap := hP
  have hl := lv_entry ([.ref aR]) (n := 1) (Nat.le_of_ble_eq_true rfl)
  rw [lg_entry_eq]
  generalize (lg_sl ([.ref aR]) ++ List.replicate (1 - (lg_sl ([.ref aR])).length) Slot.unset).toArray = ls at hl ⊢
  have hl : lv_has ls 1 [(0, .ref aR)] := hl
  refine gw_start (fun H locs hH hlocs => ?_)
  rw [← hH] at hP
  have hS : va_S A s.heap H locs := by rw [hH, hlocs]; exact va_S.rf
  refine lv_aload_n hx hb d_Rules_init_0 rfl (lv_at hl 0 rfl) ?_
  refine W.objInit hx hb hown (hts _ tw_71) (hts _ tw_38) (hts _ tw_39) rfl (by rw [hml]; exact hl.1) rfl d_Rules_init_1 (Nat.le_of_ble_eq_true rfl) (Nat.le_of_ble_eq_true rfl) ?_
  refine W.eq (g2 := F0 m 4 ls []) rfl ?_
  refine lv_aload_n hx hb d_Rules_init_4 rfl (lv_at hl 0 rfl) ?_
  refine lv_iconst (v := 4) hx hb d_Rules_init_5 (by decide) ?_
  refine va_newa (atype := .int) (ty := .int) (N' := 4) (a0 := (4, .inl (fun _ => 0))) hx hb (hts _ tw_65) rfl hK hP hD hS hA (fun _ => rfl) (by decide) (by decide) (by decide) (Nat.le_of_ble_eq_true rfl) (Nat.le_of_ble_eq_true rfl) d_Rules_init_6 (fun q_1 cA_2 H hK9 hP hD hS => ?_)
  rw [show cA_2 = cI from g_same hK9 (i := 3) (j := 0) rfl rfl] at hP hD
  have hP : va_P (dC, dI) vw_cls [(aR, .inr (5, [.int 0, .null, .null, .null, .null, .null])), (q_1, .inl (cI, 4, .inl (fun _ => 0)))] H := hP
  have hD : va_D A [(aR, .inr (5, [.int 0, .null, .null, .null, .null, .null])), (q_1, .inl (cI, 4, .inl (fun _ => 0)))] := hD
  refine va_putF (D := (dC, dI)) (ci := 5) (v := .ref q_1) (ty := (.array .int)) (C := R_Rules) (T := T_Rules) (N := 6) hx hb hts in_Rules ty_Rules ty_Rules_ok nm_Rules hown hK hP hD hS 0 rfl rfl 1 (by decide) (hts _ tw_76) (fun _ h9 => h9) rfl hin rfl (by decide +kernel) rfl rfl (Nat.le_of_ble_eq_true rfl) d_Rules_init_8 (fun H locs hP hD hS => ?_)
  have hP : va_P (dC, dI) vw_cls [(aR, .inr (5, [.int 0, .ref q_1, .null, .null, .null, .null])), (q_1, .inl (cI, 4, .inl (fun _ => 0)))] H := hP
  have hD : va_D A [(aR, .inr (5, [.int 0, .ref q_1, .null, .null, .null, .null])), (q_1, .inl (cI, 4, .inl (fun _ => 0)))] := hD
  refine lv_aload_n hx hb d_Rules_init_11 rfl (lv_at hl 0 rfl) ?_
  refine lv_iconst (v := 4) hx hb d_Rules_init_12 (by decide) ?_
  refine va_newa (atype := .int) (ty := .int) (N' := 4) (a0 := (4, .inl (fun _ => 0))) hx hb (hts _ tw_65) rfl hK hP hD hS hA (fun _ => rfl) (by decide) (by decide) (by decide) (Nat.le_of_ble_eq_true rfl) (Nat.le_of_ble_eq_true rfl) d_Rules_init_13 (fun q_3 cA_4 H hK9 hP hD hS => ?_)
  rw [show cA_4 = cI from g_same hK9 (i := 3) (j := 0) rfl rfl] at hP hD
  have hP : va_P (dC, dI) vw_cls [(aR, .inr (5, [.int 0, .ref q_1, .null, .null, .null, .null])), (q_1, .inl (cI, 4, .inl (fun _ => 0))), (q_3, .inl (cI, 4, .inl (fun _ => 0)))] H := hP
  have hD : va_D A [(aR, .inr (5, [.int 0, .ref q_1, .null, .null, .null, .null])), (q_1, .inl (cI, 4, .inl (fun _ => 0))), (q_3, .inl (cI, 4, .inl (fun _ => 0)))] := hD
  refine va_putF (D := (dC, dI)) (ci := 5) (v := .ref q_3) (ty := (.array .int)) (C := R_Rules) (T := T_Rules) (N := 6) hx hb hts in_Rules ty_Rules ty_Rules_ok nm_Rules hown hK hP hD hS 0 rfl rfl 2 (by decide) (hts _ tw_77) (fun _ h9 => h9) rfl hin rfl (by decide +kernel) rfl rfl (Nat.le_of_ble_eq_true rfl) d_Rules_init_15 (fun H locs hP hD hS => ?_)
  have hP : va_P (dC, dI) vw_cls [(aR, .inr (5, [.int 0, .ref q_1, .ref q_3, .null, .null, .null])), (q_1, .inl (cI, 4, .inl (fun _ => 0))), (q_3, .inl (cI, 4, .inl (fun _ => 0)))] H := hP
  have hD : va_D A [(aR, .inr (5, [.int 0, .ref q_1, .ref q_3, .null, .null, .null])), (q_1, .inl (cI, 4, .inl (fun _ => 0))), (q_3, .inl (cI, 4, .inl (fun _ => 0)))] := hD
  refine lv_aload_n hx hb d_Rules_init_18 rfl (lv_at hl 0 rfl) ?_
  refine lv_iconst (v := 4) hx hb d_Rules_init_19 (by decide) ?_
  refine va_newa (atype := .int) (ty := .int) (N' := 4) (a0 := (4, .inl (fun _ => 0))) hx hb (hts _ tw_65) rfl hK hP hD hS hA (fun _ => rfl) (by decide) (by decide) (by decide) (Nat.le_of_ble_eq_true rfl) (Nat.le_of_ble_eq_true rfl) d_Rules_init_20 (fun q_5 cA_6 H hK9 hP hD hS => ?_)
  rw [show cA_6 = cI from g_same hK9 (i := 3) (j := 0) rfl rfl] at hP hD
  have hP : va_P (dC, dI) vw_cls [(aR, .inr (5, [.int 0, .ref q_1, .ref q_3, .null, .null, .null])), (q_1, .inl (cI, 4, .inl (fun _ => 0))), (q_3, .inl (cI, 4, .inl (fun _ => 0))), (q_5, .inl (cI, 4, .inl (fun _ => 0)))] H := hP
  have hD : va_D A [(aR, .inr (5, [.int 0, .ref q_1, .ref q_3, .null, .null, .null])), (q_1, .inl (cI, 4, .inl (fun _ => 0))), (q_3, .inl (cI, 4, .inl (fun _ => 0))), (q_5, .inl (cI, 4, .inl (fun _ => 0)))] := hD
  refine va_putF (D := (dC, dI)) (ci := 5) (v := .ref q_5) (ty := (.array .int)) (C := R_Rules) (T := T_Rules) (N := 6) hx hb hts in_Rules ty_Rules ty_Rules_ok nm_Rules hown hK hP hD hS 0 rfl rfl 3 (by decide) (hts _ tw_78) (fun _ h9 => h9) rfl hin rfl (by decide +kernel) rfl rfl (Nat.le_of_ble_eq_true rfl) d_Rules_init_22 (fun H locs hP hD hS => ?_)
  have hP : va_P (dC, dI) vw_cls [(aR, .inr (5, [.int 0, .ref q_1, .ref q_3, .ref q_5, .null, .null])), (q_1, .inl (cI, 4, .inl (fun _ => 0))), (q_3, .inl (cI, 4, .inl (fun _ => 0))), (q_5, .inl (cI, 4, .inl (fun _ => 0)))] H := hP
  have hD : va_D A [(aR, .inr (5, [.int 0, .ref q_1, .ref q_3, .ref q_5, .null, .null])), (q_1, .inl (cI, 4, .inl (fun _ => 0))), (q_3, .inl (cI, 4, .inl (fun _ => 0))), (q_5, .inl (cI, 4, .inl (fun _ => 0)))] := hD
  refine lv_aload_n hx hb d_Rules_init_25 rfl (lv_at hl 0 rfl) ?_
  refine lv_iconst (v := 4) hx hb d_Rules_init_26 (by decide) ?_
  refine va_newa (atype := .int) (ty := .int) (N' := 4) (a0 := (4, .inl (fun _ => 0))) hx hb (hts _ tw_65) rfl hK hP hD hS hA (fun _ => rfl) (by decide) (by decide) (by decide) (Nat.le_of_ble_eq_true rfl) (Nat.le_of_ble_eq_true rfl) d_Rules_init_27 (fun q_7 cA_8 H hK9 hP hD hS => ?_)
  rw [show cA_8 = cI from g_same hK9 (i := 3) (j := 0) rfl rfl] at hP hD
  have hP : va_P (dC, dI) vw_cls [(aR, .inr (5, [.int 0, .ref q_1, .ref q_3, .ref q_5, .null, .null])), (q_1, .inl (cI, 4, .inl (fun _ => 0))), (q_3, .inl (cI, 4, .inl (fun _ => 0))), (q_5, .inl (cI, 4, .inl (fun _ => 0))), (q_7, .inl (cI, 4, .inl (fun _ => 0)))] H := hP
  have hD : va_D A [(aR, .inr (5, [.int 0, .ref q_1, .ref q_3, .ref q_5, .null, .null])), (q_1, .inl (cI, 4, .inl (fun _ => 0))), (q_3, .inl (cI, 4, .inl (fun _ => 0))), (q_5, .inl (cI, 4, .inl (fun _ => 0))), (q_7, .inl (cI, 4, .inl (fun _ => 0)))] := hD
  refine va_putF (D := (dC, dI)) (ci := 5) (v := .ref q_7) (ty := (.array .int)) (C := R_Rules) (T := T_Rules) (N := 6) hx hb hts in_Rules ty_Rules ty_Rules_ok nm_Rules hown hK hP hD hS 0 rfl rfl 4 (by decide) (hts _ tw_79) (fun _ h9 => h9) rfl hin rfl (by decide +kernel) rfl rfl (Nat.le_of_ble_eq_true rfl) d_Rules_init_29 (fun H locs hP hD hS => ?_)
  have hP : va_P (dC, dI) vw_cls [(aR, .inr (5, [.int 0, .ref q_1, .ref q_3, .ref q_5, .ref q_7, .null])), (q_1, .inl (cI, 4, .inl (fun _ => 0))), (q_3, .inl (cI, 4, .inl (fun _ => 0))), (q_5, .inl (cI, 4, .inl (fun _ => 0))), (q_7, .inl (cI, 4, .inl (fun _ => 0)))] H := hP
  have hD : va_D A [(aR, .inr (5, [.int 0, .ref q_1, .ref q_3, .ref q_5, .ref q_7, .null])), (q_1, .inl (cI, 4, .inl (fun _ => 0))), (q_3, .inl (cI, 4, .inl (fun _ => 0))), (q_5, .inl (cI, 4, .inl (fun _ => 0))), (q_7, .inl (cI, 4, .inl (fun _ => 0)))] := hD
  refine lv_aload_n hx hb d_Rules_init_32 rfl (lv_at hl 0 rfl) ?_
  refine lv_iconst (v := 5) hx hb d_Rules_init_33 (by decide) ?_
  refine va_newa (atype := .int) (ty := .int) (N' := 5) (a0 := (5, .inl (fun _ => 0))) hx hb (hts _ tw_65) rfl hK hP hD hS hA (fun _ => rfl) (by decide) (by decide) (by decide) (Nat.le_of_ble_eq_true rfl) (Nat.le_of_ble_eq_true rfl) d_Rules_init_34 (fun q_9 cA_10 H hK9 hP hD hS => ?_)
  rw [show cA_10 = cI from g_same hK9 (i := 3) (j := 0) rfl rfl] at hP hD
  have hP : va_P (dC, dI) vw_cls [(aR, .inr (5, [.int 0, .ref q_1, .ref q_3, .ref q_5, .ref q_7, .null])), (q_1, .inl (cI, 4, .inl (fun _ => 0))), (q_3, .inl (cI, 4, .inl (fun _ => 0))), (q_5, .inl (cI, 4, .inl (fun _ => 0))), (q_7, .inl (cI, 4, .inl (fun _ => 0))), (q_9, .inl (cI, 5, .inl (fun _ => 0)))] H := hP
  have hD : va_D A [(aR, .inr (5, [.int 0, .ref q_1, .ref q_3, .ref q_5, .ref q_7, .null])), (q_1, .inl (cI, 4, .inl (fun _ => 0))), (q_3, .inl (cI, 4, .inl (fun _ => 0))), (q_5, .inl (cI, 4, .inl (fun _ => 0))), (q_7, .inl (cI, 4, .inl (fun _ => 0))), (q_9, .inl (cI, 5, .inl (fun _ => 0)))] := hD
  refine va_putF (D := (dC, dI)) (ci := 5) (v := .ref q_9) (ty := (.array .int)) (C := R_Rules) (T := T_Rules) (N := 6) hx hb hts in_Rules ty_Rules ty_Rules_ok nm_Rules hown hK hP hD hS 0 rfl rfl 5 (by decide) (hts _ tw_80) (fun _ h9 => h9) rfl hin rfl (by decide +kernel) rfl rfl (Nat.le_of_ble_eq_true rfl) d_Rules_init_36 (fun H locs hP hD hS => ?_)
  have hP : va_P (dC, dI) vw_cls [(aR, .inr (5, [.int 0, .ref q_1, .ref q_3, .ref q_5, .ref q_7, .ref q_9])), (q_1, .inl (cI, 4, .inl (fun _ => 0))), (q_3, .inl (cI, 4, .inl (fun _ => 0))), (q_5, .inl (cI, 4, .inl (fun _ => 0))), (q_7, .inl (cI, 4, .inl (fun _ => 0))), (q_9, .inl (cI, 5, .inl (fun _ => 0)))] H := hP
  have hD : va_D A [(aR, .inr (5, [.int 0, .ref q_1, .ref q_3, .ref q_5, .ref q_7, .ref q_9])), (q_1, .inl (cI, 4, .inl (fun _ => 0))), (q_3, .inl (cI, 4, .inl (fun _ => 0))), (q_5, .inl (cI, 4, .inl (fun _ => 0))), (q_7, .inl (cI, 4, .inl (fun _ => 0))), (q_9, .inl (cI, 5, .inl (fun _ => 0)))] := hD
  refine lv_aload_n hx hb d_Rules_init_39 rfl (lv_at hl 0 rfl) ?_
  refine va_get (D := (dC, dI)) (ci := 5) (v := .ref q_9) (C := R_Rules) (T := T_Rules) (N := 6) hx hb hts in_Rules hown hK hP 0 rfl rfl 5 (by decide) (hts _ tw_80) (fun _ h9 => h9) rfl d_Rules_init_40 ?_
  refine lv_iconst (v := (-1)) hx hb d_Rules_init_43 (by decide) ?_
  have hPc := hP.sub (ws' := [(q_9, .inl (cI, 5, .inl (fun _ => 0)))]) [5] rfl
  have hDc := hD.sub (ws' := [(q_9, .inl (cI, 5, .inl (fun _ => 0)))]) [5] (by decide) rfl
  have hFc := va_free (wc := [(q_9, .inl (cI, 5, .inl (fun _ => 0)))]) hD hS hA [5] rfl
  refine va_callv (va_runS (As := [.ref q_9, .int (-1)]) (rest := []) ⟨hx, hb, hml, hown, hts⟩ (k_afl l dC dI H.size cI cZ cQ q_9 (fun _ => 0) (-1) ) ⟨(callB_of 2 hts (ga_all tw_74) rfl rfl rfl (hts _ tw_25) (hts _ tw_72) (by decide +kernel) ⟨Nat.le_of_ble_eq_true rfl, Nat.le_of_ble_eq_true rfl⟩), hts _ tw_73⟩ ⟨fun a U g mk q => by obtain ⟨q0, q1, qP, qK, qD⟩ := q; exact ⟨q0, q1, qP, g_K.same (u := U) (U := U.calling g mk a) rfl qK, qD⟩, fun U hU hW => ⟨rfl, by rw [hU], by rw [hU]; exact hPc, g_K.warm hW hKN, hDc.weaken (fun _ _ _ _ => trivial)⟩⟩ rfl rfl hl.1 rfl (lv_room (Nat.le_of_ble_eq_true rfl)) d_Rules_init_44 ⟨Nat.le_of_ble_eq_true rfl, Nat.le_of_ble_eq_true rfl⟩) hS (fun q _ h => hFc q h) hFc (fun u t H1 locs htt hvm hw_12 hBB hzz hkk hS => ?_)
  obtain ⟨f2_13, rfl⟩ : ∃ z, z = u := ⟨_, rfl⟩
  have hw_12 : f2_13 = q_fl (fun _ => 0) (-1) 5 := hw_12
  obtain ⟨hPP, hDD⟩ := hBB
  rw [htt] at hPP
  have hPP : va_P (dC, dI) vw_cls [(q_9, .inl (cI, 5, .inl f2_13))] H1 := hPP
  have hDD : va_D (va_A [(q_9, .inl (cI, 5, .inl (fun _ => 0)))] H.size) [(q_9, .inl (cI, 5, .inl f2_13))] := hDD
  obtain ⟨hP, hD⟩ := va_join (wr := [(aR, .inr (5, [.int 0, .ref q_1, .ref q_3, .ref q_5, .ref q_7, .ref q_9])), (q_1, .inl (cI, 4, .inl (fun _ => 0))), (q_3, .inl (cI, 4, .inl (fun _ => 0))), (q_5, .inl (cI, 4, .inl (fun _ => 0))), (q_7, .inl (cI, 4, .inl (fun _ => 0)))]) (w1 := [(q_9, .inl (cI, 5, .inl f2_13))]) hP hD [5] [0, 1, 2, 3, 4] rfl rfl (by decide) (by decide) hkk hFc hPP hDD
  generalize H1 = H at hP hS ⊢
  have hP : va_P (dC, dI) vw_cls [(aR, .inr (5, [.int 0, .ref q_1, .ref q_3, .ref q_5, .ref q_7, .ref q_9])), (q_1, .inl (cI, 4, .inl (fun _ => 0))), (q_3, .inl (cI, 4, .inl (fun _ => 0))), (q_5, .inl (cI, 4, .inl (fun _ => 0))), (q_7, .inl (cI, 4, .inl (fun _ => 0))), (q_9, .inl (cI, 5, .inl f2_13))] H := hP
  have hD : va_D A [(aR, .inr (5, [.int 0, .ref q_1, .ref q_3, .ref q_5, .ref q_7, .ref q_9])), (q_1, .inl (cI, 4, .inl (fun _ => 0))), (q_3, .inl (cI, 4, .inl (fun _ => 0))), (q_5, .inl (cI, 4, .inl (fun _ => 0))), (q_7, .inl (cI, 4, .inl (fun _ => 0))), (q_9, .inl (cI, 5, .inl f2_13))] := hD
  have hP9 := hP.sub (ws' := [(aR, .inr (5, [.int 0, .ref q_1, .ref q_3, .ref q_5, .ref q_7, .ref q_9])), (q_1, .inl (cI, 4, .inl (fun _ => 0))), (q_3, .inl (cI, 4, .inl (fun _ => 0))), (q_5, .inl (cI, 4, .inl (fun _ => 0))), (q_7, .inl (cI, 4, .inl (fun _ => 0))), (q_9, .inl (cI, 5, .inl f2_13))]) [0, 1, 2, 3, 4, 5] rfl
  have hD9 := hD.sub (ws' := [(aR, .inr (5, [.int 0, .ref q_1, .ref q_3, .ref q_5, .ref q_7, .ref q_9])), (q_1, .inl (cI, 4, .inl (fun _ => 0))), (q_3, .inl (cI, 4, .inl (fun _ => 0))), (q_5, .inl (cI, 4, .inl (fun _ => 0))), (q_7, .inl (cI, 4, .inl (fun _ => 0))), (q_9, .inl (cI, 5, .inl f2_13))]) [0, 1, 2, 3, 4, 5] (by decide) rfl
  have hpost_14 : f2_13 = q_fl (fun _ => 0) (-1) 5 := hw_12
  refine W.widen (k := 5) (n := 21) (Nat.le_of_ble_eq_true rfl) (Nat.le_of_ble_eq_true rfl) ?_
  exact W.vret hx hb hr (fun t ht hW => ⟨⟨(q_1, q_3, q_5, q_7, q_9, f2_13), rfl, hpost_14, by rw [ht]; exact hP9, hD9⟩, hS.F ht⟩) hS.2.2 d_Rules_init_47
set_option maxHeartbeats 4000000 in
set_option maxRecDepth 100000 in
/-- Answers() -/
theorem k_ai (l : Launch) (dC : Nat → ClassId) (dI : Nat → Nat → Nat) (sz : Nat) (cI : ClassId) (cZ : ClassId) (cQ : ClassId) (aA : Nat)  : Met l y_Answers_init w_Answers_init ({ frames := 1, cells := 3, slots := 960, locals := 20 } : Room) (va_Pc [.ref aA] (fun U => U.heap.size = sz ∧ va_P (dC, dI) vw_cls [(aA, .inr (2, [.long 0, .int 0, .null, .null, .null]))] U.heap ∧ g_K dC dI [(cI, .int), (cZ, .boolean), (cQ, (.object "SettingSearch$Answers"))] U ∧ va_D (fun _ => True) [(aA, .inr (2, [.long 0, .int 0, .null, .null, .null]))])) (va_Qv (fun (u : Nat × Nat × Nat) => True) (fun (u : Nat × Nat × Nat) (t : State) => va_P (dC, dI) vw_cls [(aA, .inr (2, [.long 0, .int 0, .ref u.1, .ref u.2.1, .ref u.2.2])), (u.1, .inl (cZ, 64, .inl (fun _ => 0))), (u.2.1, .inl (cI, 576, .inl (fun _ => 0))), (u.2.2, .inl (cI, 320, .inl (fun _ => 0)))] t.heap ∧ va_D (va_A [(aA, .inr (2, [.long 0, .int 0, .null, .null, .null]))] sz) [(aA, .inr (2, [.long 0, .int 0, .ref u.1, .ref u.2.1, .ref u.2.2])), (u.1, .inl (cZ, 64, .inl (fun _ => 0))), (u.2.1, .inl (cI, 576, .inl (fun _ => 0))), (u.2.2, .inl (cI, 320, .inl (fun _ => 0)))]) (va_A [(aA, .inr (2, [.long 0, .int 0, .null, .null, .null]))] sz)) 3 960 (va_A [(aA, .inr (2, [.long 0, .int 0, .null, .null, .null]))] sz) := by
  refine Met.ofW (cc := b_Answers_init) (maxL := 1) (ret := none) (by decide) rfl ?_
  intro p e s m args below meth c s₁ B hml hv
  obtain ⟨rfl, hsz, hP, hKN, hD0⟩ := hv
  obtain ⟨hK, hN⟩ := id hKN
  have hx := B.exec
  have hb := B.bytes
  have hr := B.returns
  have hts0 := atoms_spec (ws := w_Answers_init) B.pre
  have hts : ∀ w ∈ lw_g, w.before _ s = true := fun w h => hts0 w (List.mem_cons_of_mem _ h)
  have hown : s.vm.findClass R_Answers = some m.cls := findClass_of_methodNamed B.named
  have hlocks := B.notSynchronized
  have hin : meth.name = "<init>" := (name_of_methodNamed B.named B.method).1
  subst hsz
  have hD := hD0.self (sz := s.heap.size)
  generalize hAe : va_A [(aA, .inr (2, [.long 0, .int 0, .null, .null, .null]))] s.heap.size = A at hD ⊢
  have hA : ∀ q : Nat, s.heap.size ≤ q → A q := fun q h => by rw [← hAe]; exact Or.inr h
  have hP : va_P (dC, dI) vw_cls [(aA, .inr (2, [.long 0, .int 0, .null, .null, .null]))] s.heap := hP
  have hl := lv_entry ([.ref aA]) (n := 1) (Nat.le_of_ble_eq_true rfl)
  rw [lg_entry_eq]
  generalize (lg_sl ([.ref aA]) ++ List.replicate (1 - (lg_sl ([.ref aA])).length) Slot.unset).toArray = ls at hl ⊢
  have hl : lv_has ls 1 [(0, .ref aA)] := hl
  refine gw_start (fun H locs hH hlocs => ?_)
  rw [← hH] at hP
  have hS : va_S A s.heap H locs := by rw [hH, hlocs]; exact va_S.rf
  refine lv_aload_n hx hb d_Answers_init_0 rfl (lv_at hl 0 rfl) ?_
  refine W.objInit hx hb hown (hts _ tw_107) (hts _ tw_38) (hts _ tw_39) rfl (by rw [hml]; exact hl.1) rfl d_Answers_init_1 (Nat.le_of_ble_eq_true rfl) (Nat.le_of_ble_eq_true rfl) ?_
  refine W.eq (g2 := F0 m 4 ls []) rfl ?_
  refine lv_aload_n hx hb d_Answers_init_4 rfl (lv_at hl 0 rfl) ?_
  refine lv_bipush (v := 64) hx hb d_Answers_init_5 (by decide) ?_
  refine va_newa (atype := .boolean) (ty := .boolean) (N' := 64) (a0 := (64, .inl (fun _ => 0))) hx hb (hts _ tw_127) rfl hK hP hD hS hA (fun _ => rfl) (by decide) (by decide) (by decide) (Nat.le_of_ble_eq_true rfl) (Nat.le_of_ble_eq_true rfl) d_Answers_init_7 (fun q_1 cA_2 H hK9 hP hD hS => ?_)
  rw [show cA_2 = cZ from g_same hK9 (i := 3) (j := 1) rfl rfl] at hP hD
  have hP : va_P (dC, dI) vw_cls [(aA, .inr (2, [.long 0, .int 0, .null, .null, .null])), (q_1, .inl (cZ, 64, .inl (fun _ => 0)))] H := hP
  have hD : va_D A [(aA, .inr (2, [.long 0, .int 0, .null, .null, .null])), (q_1, .inl (cZ, 64, .inl (fun _ => 0)))] := hD
  refine va_putF (D := (dC, dI)) (ci := 2) (v := .ref q_1) (ty := (.array .boolean)) (C := R_Answers) (T := T_Answers) (N := 5) hx hb hts in_Answers ty_Answers ty_Answers_ok nm_Answers hown hK hP hD hS 0 rfl rfl 2 (by decide) (hts _ tw_113) (fun _ h9 => h9) rfl hin rfl (by decide +kernel) rfl rfl (Nat.le_of_ble_eq_true rfl) d_Answers_init_9 (fun H locs hP hD hS => ?_)
  have hP : va_P (dC, dI) vw_cls [(aA, .inr (2, [.long 0, .int 0, .ref q_1, .null, .null])), (q_1, .inl (cZ, 64, .inl (fun _ => 0)))] H := hP
  have hD : va_D A [(aA, .inr (2, [.long 0, .int 0, .ref q_1, .null, .null])), (q_1, .inl (cZ, 64, .inl (fun _ => 0)))] := hD
  refine lv_aload_n hx hb d_Answers_init_12 rfl (lv_at hl 0 rfl) ?_
  refine lv_sipush (v := 576) hx hb d_Answers_init_13 (by decide) ?_
  refine va_newa (atype := .int) (ty := .int) (N' := 576) (a0 := (576, .inl (fun _ => 0))) hx hb (hts _ tw_65) rfl hK hP hD hS hA (fun _ => rfl) (by decide) (by decide) (by decide) (Nat.le_of_ble_eq_true rfl) (Nat.le_of_ble_eq_true rfl) d_Answers_init_16 (fun q_3 cA_4 H hK9 hP hD hS => ?_)
  rw [show cA_4 = cI from g_same hK9 (i := 3) (j := 0) rfl rfl] at hP hD
  have hP : va_P (dC, dI) vw_cls [(aA, .inr (2, [.long 0, .int 0, .ref q_1, .null, .null])), (q_1, .inl (cZ, 64, .inl (fun _ => 0))), (q_3, .inl (cI, 576, .inl (fun _ => 0)))] H := hP
  have hD : va_D A [(aA, .inr (2, [.long 0, .int 0, .ref q_1, .null, .null])), (q_1, .inl (cZ, 64, .inl (fun _ => 0))), (q_3, .inl (cI, 576, .inl (fun _ => 0)))] := hD
  refine va_putF (D := (dC, dI)) (ci := 2) (v := .ref q_3) (ty := (.array .int)) (C := R_Answers) (T := T_Answers) (N := 5) hx hb hts in_Answers ty_Answers ty_Answers_ok nm_Answers hown hK hP hD hS 0 rfl rfl 3 (by decide) (hts _ tw_114) (fun _ h9 => h9) rfl hin rfl (by decide +kernel) rfl rfl (Nat.le_of_ble_eq_true rfl) d_Answers_init_18 (fun H locs hP hD hS => ?_)
  have hP : va_P (dC, dI) vw_cls [(aA, .inr (2, [.long 0, .int 0, .ref q_1, .ref q_3, .null])), (q_1, .inl (cZ, 64, .inl (fun _ => 0))), (q_3, .inl (cI, 576, .inl (fun _ => 0)))] H := hP
  have hD : va_D A [(aA, .inr (2, [.long 0, .int 0, .ref q_1, .ref q_3, .null])), (q_1, .inl (cZ, 64, .inl (fun _ => 0))), (q_3, .inl (cI, 576, .inl (fun _ => 0)))] := hD
  refine lv_aload_n hx hb d_Answers_init_21 rfl (lv_at hl 0 rfl) ?_
  refine lv_sipush (v := 320) hx hb d_Answers_init_22 (by decide) ?_
  refine va_newa (atype := .int) (ty := .int) (N' := 320) (a0 := (320, .inl (fun _ => 0))) hx hb (hts _ tw_65) rfl hK hP hD hS hA (fun _ => rfl) (by decide) (by decide) (by decide) (Nat.le_of_ble_eq_true rfl) (Nat.le_of_ble_eq_true rfl) d_Answers_init_25 (fun q_5 cA_6 H hK9 hP hD hS => ?_)
  rw [show cA_6 = cI from g_same hK9 (i := 3) (j := 0) rfl rfl] at hP hD
  have hP : va_P (dC, dI) vw_cls [(aA, .inr (2, [.long 0, .int 0, .ref q_1, .ref q_3, .null])), (q_1, .inl (cZ, 64, .inl (fun _ => 0))), (q_3, .inl (cI, 576, .inl (fun _ => 0))), (q_5, .inl (cI, 320, .inl (fun _ => 0)))] H := hP
  have hD : va_D A [(aA, .inr (2, [.long 0, .int 0, .ref q_1, .ref q_3, .null])), (q_1, .inl (cZ, 64, .inl (fun _ => 0))), (q_3, .inl (cI, 576, .inl (fun _ => 0))), (q_5, .inl (cI, 320, .inl (fun _ => 0)))] := hD
  refine va_putF (D := (dC, dI)) (ci := 2) (v := .ref q_5) (ty := (.array .int)) (C := R_Answers) (T := T_Answers) (N := 5) hx hb hts in_Answers ty_Answers ty_Answers_ok nm_Answers hown hK hP hD hS 0 rfl rfl 4 (by decide) (hts _ tw_115) (fun _ h9 => h9) rfl hin rfl (by decide +kernel) rfl rfl (Nat.le_of_ble_eq_true rfl) d_Answers_init_27 (fun H locs hP hD hS => ?_)
  have hP : va_P (dC, dI) vw_cls [(aA, .inr (2, [.long 0, .int 0, .ref q_1, .ref q_3, .ref q_5])), (q_1, .inl (cZ, 64, .inl (fun _ => 0))), (q_3, .inl (cI, 576, .inl (fun _ => 0))), (q_5, .inl (cI, 320, .inl (fun _ => 0)))] H := hP
  have hD : va_D A [(aA, .inr (2, [.long 0, .int 0, .ref q_1, .ref q_3, .ref q_5])), (q_1, .inl (cZ, 64, .inl (fun _ => 0))), (q_3, .inl (cI, 576, .inl (fun _ => 0))), (q_5, .inl (cI, 320, .inl (fun _ => 0)))] := hD
  have hP9 := hP.sub (ws' := [(aA, .inr (2, [.long 0, .int 0, .ref q_1, .ref q_3, .ref q_5])), (q_1, .inl (cZ, 64, .inl (fun _ => 0))), (q_3, .inl (cI, 576, .inl (fun _ => 0))), (q_5, .inl (cI, 320, .inl (fun _ => 0)))]) [0, 1, 2, 3] rfl
  have hD9 := hD.sub (ws' := [(aA, .inr (2, [.long 0, .int 0, .ref q_1, .ref q_3, .ref q_5])), (q_1, .inl (cZ, 64, .inl (fun _ => 0))), (q_3, .inl (cI, 576, .inl (fun _ => 0))), (q_5, .inl (cI, 320, .inl (fun _ => 0)))]) [0, 1, 2, 3] (by decide) rfl
  have hpost_7 : True := trivial
  refine W.widen (k := 3) (n := 960) (Nat.le_of_ble_eq_true rfl) (Nat.le_of_ble_eq_true rfl) ?_
  exact W.vret hx hb hr (fun t ht hW => ⟨⟨(q_1, q_3, q_5), rfl, hpost_7, by rw [ht]; exact hP9, hD9⟩, hS.F ht⟩) hS.2.2 d_Answers_init_30
set_option maxHeartbeats 4000000 in
set_option maxRecDepth 100000 in
/-- Search() -/
theorem k_si (l : Launch) (dC : Nat → ClassId) (dI : Nat → Nat → Nat) (sz : Nat) (cI : ClassId) (cZ : ClassId) (cQ : ClassId) (aS : Nat)  : Met l y_Search_init w_Search_init ({ frames := 1, cells := 1, slots := 64, locals := 20 } : Room) (va_Pc [.ref aS] (fun U => U.heap.size = sz ∧ va_P (dC, dI) vw_cls [(aS, .inr (6, [.null, .int 0, .int 0, .int 0, .long 0, .int 0, .int 0, .null]))] U.heap ∧ g_K dC dI [(cI, .int), (cZ, .boolean), (cQ, (.object "SettingSearch$Answers"))] U ∧ va_D (fun _ => True) [(aS, .inr (6, [.null, .int 0, .int 0, .int 0, .long 0, .int 0, .int 0, .null]))])) (va_Qv (fun (u : Nat) => True) (fun (u : Nat) (t : State) => va_P (dC, dI) vw_cls [(aS, .inr (6, [.null, .int 0, .int (-1), .int (-1), .long (-9223372036854775808), .int 0, .int 0, .ref u])), (u, .inl (cI, 64, .inl (fun _ => 0)))] t.heap ∧ va_D (va_A [(aS, .inr (6, [.null, .int 0, .int 0, .int 0, .long 0, .int 0, .int 0, .null]))] sz) [(aS, .inr (6, [.null, .int 0, .int (-1), .int (-1), .long (-9223372036854775808), .int 0, .int 0, .ref u])), (u, .inl (cI, 64, .inl (fun _ => 0)))]) (va_A [(aS, .inr (6, [.null, .int 0, .int 0, .int 0, .long 0, .int 0, .int 0, .null]))] sz)) 1 64 (va_A [(aS, .inr (6, [.null, .int 0, .int 0, .int 0, .long 0, .int 0, .int 0, .null]))] sz) := by
  refine Met.ofW (cc := b_Search_init) (maxL := 1) (ret := none) (by decide) rfl ?_
  intro p e s m args below meth c s₁ B hml hv
  obtain ⟨rfl, hsz, hP, hKN, hD0⟩ := hv
  obtain ⟨hK, hN⟩ := id hKN
  have hx := B.exec
  have hb := B.bytes
  have hr := B.returns
  have hts0 := atoms_spec (ws := w_Search_init) B.pre
  have hts : ∀ w ∈ lw_g, w.before _ s = true := fun w h => hts0 w (List.mem_cons_of_mem _ h)
  have hown : s.vm.findClass R_Search = some m.cls := findClass_of_methodNamed B.named
  have hlocks := B.notSynchronized
  have hin : meth.name = "<init>" := (name_of_methodNamed B.named B.method).1
  subst hsz
  have hD := hD0.self (sz := s.heap.size)
  generalize hAe : va_A [(aS, .inr (6, [.null, .int 0, .int 0, .int 0, .long 0, .int 0, .int 0, .null]))] s.heap.size = A at hD ⊢
  have hA : ∀ q : Nat, s.heap.size ≤ q → A q := fun q h => by rw [← hAe]; exact Or.inr h
  have hP : va_P (dC, dI) vw_cls [(aS, .inr (6, [.null, .int 0, .int 0, .int 0, .long 0, .int 0, .int 0, .null]))] s.heap := hP
  have hl := lv_entry ([.ref aS]) (n := 1) (Nat.le_of_ble_eq_true rfl)
  rw [lg_entry_eq]
  generalize (lg_sl ([.ref aS]) ++ List.replicate (1 - (lg_sl ([.ref aS])).length) Slot.unset).toArray = ls at hl ⊢
  have hl : lv_has ls 1 [(0, .ref aS)] := hl
  refine gw_start (fun H locs hH hlocs => ?_)
  rw [← hH] at hP
  have hS : va_S A s.heap H locs := by rw [hH, hlocs]; exact va_S.rf
  refine lv_aload_n hx hb d_Search_init_0 rfl (lv_at hl 0 rfl) ?_
  refine W.objInit hx hb hown (hts _ tw_140) (hts _ tw_38) (hts _ tw_39) rfl (by rw [hml]; exact hl.1) rfl d_Search_init_1 (Nat.le_of_ble_eq_true rfl) (Nat.le_of_ble_eq_true rfl) ?_
  refine W.eq (g2 := F0 m 4 ls []) rfl ?_
  refine lv_aload_n hx hb d_Search_init_4 rfl (lv_at hl 0 rfl) ?_
  refine lv_bipush (v := 64) hx hb d_Search_init_5 (by decide) ?_
  refine va_newa (atype := .int) (ty := .int) (N' := 64) (a0 := (64, .inl (fun _ => 0))) hx hb (hts _ tw_65) rfl hK hP hD hS hA (fun _ => rfl) (by decide) (by decide) (by decide) (Nat.le_of_ble_eq_true rfl) (Nat.le_of_ble_eq_true rfl) d_Search_init_7 (fun q_1 cA_2 H hK9 hP hD hS => ?_)
  rw [show cA_2 = cI from g_same hK9 (i := 3) (j := 0) rfl rfl] at hP hD
  have hP : va_P (dC, dI) vw_cls [(aS, .inr (6, [.null, .int 0, .int 0, .int 0, .long 0, .int 0, .int 0, .null])), (q_1, .inl (cI, 64, .inl (fun _ => 0)))] H := hP
  have hD : va_D A [(aS, .inr (6, [.null, .int 0, .int 0, .int 0, .long 0, .int 0, .int 0, .null])), (q_1, .inl (cI, 64, .inl (fun _ => 0)))] := hD
  refine va_putF (D := (dC, dI)) (ci := 6) (v := .ref q_1) (ty := (.array .int)) (C := R_Search) (T := T_Search) (N := 8) hx hb hts in_Search ty_Search ty_Search_ok nm_Search hown hK hP hD hS 0 rfl rfl 7 (by decide) (hts _ tw_160) (fun _ h9 => h9) rfl hin rfl (by decide +kernel) rfl rfl (Nat.le_of_ble_eq_true rfl) d_Search_init_9 (fun H locs hP hD hS => ?_)
  have hP : va_P (dC, dI) vw_cls [(aS, .inr (6, [.null, .int 0, .int 0, .int 0, .long 0, .int 0, .int 0, .ref q_1])), (q_1, .inl (cI, 64, .inl (fun _ => 0)))] H := hP
  have hD : va_D A [(aS, .inr (6, [.null, .int 0, .int 0, .int 0, .long 0, .int 0, .int 0, .ref q_1])), (q_1, .inl (cI, 64, .inl (fun _ => 0)))] := hD
  refine lv_aload_n hx hb d_Search_init_12 rfl (lv_at hl 0 rfl) ?_
  have hPc := hP.sub (ws' := [(aS, .inr (6, [.null, .int 0, .int 0, .int 0, .long 0, .int 0, .int 0, .ref q_1]))]) [0] rfl
  have hDc := hD.sub (ws' := [(aS, .inr (6, [.null, .int 0, .int 0, .int 0, .long 0, .int 0, .int 0, .ref q_1]))]) [0] (by decide) rfl
  have hFc := va_free (wc := [(aS, .inr (6, [.null, .int 0, .int 0, .int 0, .long 0, .int 0, .int 0, .ref q_1]))]) hD hS hA [0] rfl
  refine va_callv (va_runV (As := []) (rest := []) ⟨hx, hb, hml, hown, hts⟩ (k_sfo l dC dI H.size cI cZ cQ aS q_1 (.null : Value) 0 0 0 0 0 0 ) ⟨(callB_of 0 hts (ga_all tw_144) rfl rfl rfl (hts _ tw_28) (hts _ tw_141) (by decide +kernel) ⟨Nat.le_of_ble_eq_true rfl, Nat.le_of_ble_eq_true rfl⟩), hts _ tw_142, hts _ tw_143⟩ ⟨fun a U g mk q => by obtain ⟨q0, q1, qP, qK, qD⟩ := q; exact ⟨q0, q1, qP, g_K.same (u := U) (U := U.calling g mk a) rfl qK, qD⟩, va_recv hK hPc (ci := 6) (q0 := 0) rfl rfl, fun U hU hW => ⟨rfl, by rw [hU], by rw [hU]; exact hPc, g_K.warm hW hKN, hDc.weaken (fun _ _ _ _ => trivial)⟩⟩ rfl rfl hl.1 rfl (lv_room (Nat.le_of_ble_eq_true rfl)) d_Search_init_13 ⟨Nat.le_of_ble_eq_true rfl, Nat.le_of_ble_eq_true rfl⟩) hS (fun q _ h => hFc q h) hFc (fun u t H1 locs htt hvm hw_4 hBB hzz hkk hS => ?_)
  have hw_4 : True := hw_4
  obtain ⟨hPP, hDD⟩ := hBB
  rw [htt] at hPP
  have hPP : va_P (dC, dI) vw_cls [(aS, .inr (6, [.null, .int 0, .int (-1), .int (-1), .long (-9223372036854775808), .int 0, .int 0, .ref q_1]))] H1 := hPP
  have hDD : va_D (va_A [(aS, .inr (6, [.null, .int 0, .int 0, .int 0, .long 0, .int 0, .int 0, .ref q_1]))] H.size) [(aS, .inr (6, [.null, .int 0, .int (-1), .int (-1), .long (-9223372036854775808), .int 0, .int 0, .ref q_1]))] := hDD
  obtain ⟨hP, hD⟩ := va_join (wr := [(q_1, .inl (cI, 64, .inl (fun _ => 0)))]) (w1 := [(aS, .inr (6, [.null, .int 0, .int (-1), .int (-1), .long (-9223372036854775808), .int 0, .int 0, .ref q_1]))]) hP hD [0] [1] rfl rfl (by decide) (by decide) hkk hFc hPP hDD
  generalize H1 = H at hP hS ⊢
  have hP : va_P (dC, dI) vw_cls [(q_1, .inl (cI, 64, .inl (fun _ => 0))), (aS, .inr (6, [.null, .int 0, .int (-1), .int (-1), .long (-9223372036854775808), .int 0, .int 0, .ref q_1]))] H := hP
  have hD : va_D A [(q_1, .inl (cI, 64, .inl (fun _ => 0))), (aS, .inr (6, [.null, .int 0, .int (-1), .int (-1), .long (-9223372036854775808), .int 0, .int 0, .ref q_1]))] := hD
  have hP9 := hP.sub (ws' := [(aS, .inr (6, [.null, .int 0, .int (-1), .int (-1), .long (-9223372036854775808), .int 0, .int 0, .ref q_1])), (q_1, .inl (cI, 64, .inl (fun _ => 0)))]) [1, 0] rfl
  have hD9 := hD.sub (ws' := [(aS, .inr (6, [.null, .int 0, .int (-1), .int (-1), .long (-9223372036854775808), .int 0, .int 0, .ref q_1])), (q_1, .inl (cI, 64, .inl (fun _ => 0)))]) [1, 0] (by decide) rfl
  have hpost_5 : True := trivial
  refine W.widen (k := 1) (n := 64) (Nat.le_of_ble_eq_true rfl) (Nat.le_of_ble_eq_true rfl) ?_
  exact W.vret hx hb hr (fun t ht hW => ⟨⟨q_1, rfl, hpost_5, by rw [ht]; exact hP9, hD9⟩, hS.F ht⟩) hS.2.2 d_Search_init_16
