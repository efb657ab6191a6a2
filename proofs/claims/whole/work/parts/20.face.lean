theorem q_pl_ok {a b : Int32} (h : ¬ q_pl a b = -1) : ¬ a < 0 ∧ ¬ 3 ≤ a ∧ ¬ b < 0 ∧ ¬ 3 ≤ b ∧ q_pl a b = nI (q_pl a b).toNatClampNeg ∧ (q_pl a b).toNatClampNeg < 9 ∧ q_pl a b = nI (a.toNatClampNeg * 3 + b.toNatClampNeg) ∧ a.toNatClampNeg < 3 ∧ b.toNatClampNeg < 3 := by
  by_cases h1 : a < 0
  · exact absurd (by simp [q_pl, h1]) h
  by_cases h2 : 3 ≤ a
  · exact absurd (by simp [q_pl, h1, h2]) h
  by_cases h3 : b < 0
  · exact absurd (by simp [q_pl, h1, h2, h3]) h
  by_cases h4 : 3 ≤ b
  · exact absurd (by simp [q_pl, h1, h2, h3, h4]) h
  have e1 := ix_ge h1
  have e2 := ix_ge h3
  have l1 := ix_lt (n := 3) h1 h2 rfl (by decide)
  have l2 := ix_lt (n := 3) h3 h4 rfl (by decide)
  have e : q_pl a b = nI (a.toNatClampNeg * 3 + b.toNatClampNeg) := by
    conv => lhs; rw [e1, e2]
    exact q_pl_in l1 l2
  have e3 : (q_pl a b).toNatClampNeg = a.toNatClampNeg * 3 + b.toNatClampNeg := by rw [e]; exact nI_clamp (by omega)
  exact ⟨h1, h2, h3, h4, by rw [e3]; exact e, by omega, e, l1, l2⟩
theorem nz01 {r : Int32} (h : r = 0 ∨ r = 1) : narrow .boolean (.int r) = .int r := by
  rcases h with rfl | rfl <;> rfl
set_option maxHeartbeats 4000000 in
set_option maxRecDepth 100000 in
/-- machine -/
theorem f_machine (l : Launch) (dC : Nat → ClassId) (dI : Nat → Nat → Nat) (sz : Nat) (cI : ClassId) (cZ : ClassId) (cQ : ClassId) (a0 : Nat) (aM : Nat) (aR : Nat) (aW : Nat) (aF : Nat) (aS : Nat) (aKR : Nat) (aSo : Nat) (sv : Value) (go : Int32) (ak : Int32) (be : Int32) (bw : Int64) (pt : Int32) (ln : Int32) (aMS : Nat) (aMC : Nat) (aMT : Nat) (cnt : Int32) (vec : Int32) (aFr : Nat) (us : Int32) (fS : Nat → Int32) (fC : Nat → Int32) (fT : Nat → Int32) (k1 : Int32) (nc : Nat) (nv : Nat) (hcnt : cnt = nI nc) (hvec : vec = nI nv) (hnc : nc ≤ 5) (hnv : nv ≤ 64) (hnv1 : 1 ≤ nv) : Met l y_SettingSearch_machine w_SettingSearch_machine ({ frames := 2, cells := 0, slots := 0, locals := 45 } : Room) (va_Pc [.ref a0, .int k1] (fun U => U.heap.size = sz ∧ va_P (dC, dI) vw_cls [(a0, .inr (0, [.ref aM, .ref aR, .ref aW, .ref aF, .ref aS, .ref aKR])), (aS, .inr (6, [sv, .int go, .int ak, .int be, .long bw, .int pt, .int ln, .ref aSo])), (aM, .inr (4, [.int cnt, .int vec, .ref aMS, .ref aMC, .ref aMT])), (aMS, .inl (cI, 5, .inl fS)), (aMC, .inl (cI, 5, .inl fC)), (aMT, .inl (cI, 320, .inl fT)), (aF, .inr (3, [.int us, .ref aFr]))] U.heap ∧ g_K dC dI [(cI, .int), (cZ, .boolean), (cQ, (.object "SettingSearch$Answers"))] U ∧ va_D (fun _ => True) [(a0, .inr (0, [.ref aM, .ref aR, .ref aW, .ref aF, .ref aS, .ref aKR])), (aS, .inr (6, [sv, .int go, .int ak, .int be, .long bw, .int pt, .int ln, .ref aSo])), (aM, .inr (4, [.int cnt, .int vec, .ref aMS, .ref aMC, .ref aMT])), (aMS, .inl (cI, 5, .inl fS)), (aMC, .inl (cI, 5, .inl fC)), (aMT, .inl (cI, 320, .inl fT)), (aF, .inr (3, [.int us, .ref aFr]))])) (va_Qi (fun (r : Int32) (u : Int32 × Int32 × (Nat → Int32) × (Nat → Int32) × (Nat → Int32) × Int32 × Value × Int32 × Int32 × Int32 × Int64 × Int32 × Int32) => (go = 0 ∧ q_addOk cnt vec k1 ∧ r = cnt ∧ u.1 = cnt + 1 ∧ u.2.1 = vec * k1 ∧ u.2.2.1 = upd fS nc k1 ∧ u.2.2.2.1 = upd fC nc 0 ∧ u.2.2.2.2.1 = q_fill (upd fS nc k1) (nc + 1) fT ((vec * k1).toNatClampNeg - 1) ∧ u.2.2.2.2.2.1 = 0 ∧ u.2.2.2.2.2.2.1 = .null ∧ u.2.2.2.2.2.2.2.1 = 0 ∧ u.2.2.2.2.2.2.2.2.1 = -1 ∧ u.2.2.2.2.2.2.2.2.2.1 = -1 ∧ u.2.2.2.2.2.2.2.2.2.2.1 = (-9223372036854775808) ∧ u.2.2.2.2.2.2.2.2.2.2.2.1 = 0 ∧ u.2.2.2.2.2.2.2.2.2.2.2.2 = 0) ∨ ((¬ go = 0 ∨ ¬ q_addOk cnt vec k1) ∧ r = -1 ∧ u.1 = cnt ∧ u.2.1 = vec ∧ u.2.2.1 = fS ∧ u.2.2.2.1 = fC ∧ u.2.2.2.2.1 = fT ∧ u.2.2.2.2.2.1 = us ∧ u.2.2.2.2.2.2.1 = sv ∧ u.2.2.2.2.2.2.2.1 = go ∧ u.2.2.2.2.2.2.2.2.1 = ak ∧ u.2.2.2.2.2.2.2.2.2.1 = be ∧ u.2.2.2.2.2.2.2.2.2.2.1 = bw ∧ u.2.2.2.2.2.2.2.2.2.2.2.1 = pt ∧ u.2.2.2.2.2.2.2.2.2.2.2.2 = ln)) (fun (u : Int32 × Int32 × (Nat → Int32) × (Nat → Int32) × (Nat → Int32) × Int32 × Value × Int32 × Int32 × Int32 × Int64 × Int32 × Int32) (t : State) => va_P (dC, dI) vw_cls [(a0, .inr (0, [.ref aM, .ref aR, .ref aW, .ref aF, .ref aS, .ref aKR])), (aS, .inr (6, [u.2.2.2.2.2.2.1, .int u.2.2.2.2.2.2.2.1, .int u.2.2.2.2.2.2.2.2.1, .int u.2.2.2.2.2.2.2.2.2.1, .long u.2.2.2.2.2.2.2.2.2.2.1, .int u.2.2.2.2.2.2.2.2.2.2.2.1, .int u.2.2.2.2.2.2.2.2.2.2.2.2, .ref aSo])), (aM, .inr (4, [.int u.1, .int u.2.1, .ref aMS, .ref aMC, .ref aMT])), (aMS, .inl (cI, 5, .inl u.2.2.1)), (aMC, .inl (cI, 5, .inl u.2.2.2.1)), (aMT, .inl (cI, 320, .inl u.2.2.2.2.1)), (aF, .inr (3, [.int u.2.2.2.2.2.1, .ref aFr]))] t.heap ∧ va_D (va_A [(a0, .inr (0, [.ref aM, .ref aR, .ref aW, .ref aF, .ref aS, .ref aKR])), (aS, .inr (6, [sv, .int go, .int ak, .int be, .long bw, .int pt, .int ln, .ref aSo])), (aM, .inr (4, [.int cnt, .int vec, .ref aMS, .ref aMC, .ref aMT])), (aMS, .inl (cI, 5, .inl fS)), (aMC, .inl (cI, 5, .inl fC)), (aMT, .inl (cI, 320, .inl fT)), (aF, .inr (3, [.int us, .ref aFr]))] sz) [(a0, .inr (0, [.ref aM, .ref aR, .ref aW, .ref aF, .ref aS, .ref aKR])), (aS, .inr (6, [u.2.2.2.2.2.2.1, .int u.2.2.2.2.2.2.2.1, .int u.2.2.2.2.2.2.2.2.1, .int u.2.2.2.2.2.2.2.2.2.1, .long u.2.2.2.2.2.2.2.2.2.2.1, .int u.2.2.2.2.2.2.2.2.2.2.2.1, .int u.2.2.2.2.2.2.2.2.2.2.2.2, .ref aSo])), (aM, .inr (4, [.int u.1, .int u.2.1, .ref aMS, .ref aMC, .ref aMT])), (aMS, .inl (cI, 5, .inl u.2.2.1)), (aMC, .inl (cI, 5, .inl u.2.2.2.1)), (aMT, .inl (cI, 320, .inl u.2.2.2.2.1)), (aF, .inr (3, [.int u.2.2.2.2.2.1, .ref aFr]))]) (va_A [(a0, .inr (0, [.ref aM, .ref aR, .ref aW, .ref aF, .ref aS, .ref aKR])), (aS, .inr (6, [sv, .int go, .int ak, .int be, .long bw, .int pt, .int ln, .ref aSo])), (aM, .inr (4, [.int cnt, .int vec, .ref aMS, .ref aMC, .ref aMT])), (aMS, .inl (cI, 5, .inl fS)), (aMC, .inl (cI, 5, .inl fC)), (aMT, .inl (cI, 320, .inl fT)), (aF, .inr (3, [.int us, .ref aFr]))] sz)) 0 0 (va_A [(a0, .inr (0, [.ref aM, .ref aR, .ref aW, .ref aF, .ref aS, .ref aKR])), (aS, .inr (6, [sv, .int go, .int ak, .int be, .long bw, .int pt, .int ln, .ref aSo])), (aM, .inr (4, [.int cnt, .int vec, .ref aMS, .ref aMC, .ref aMT])), (aMS, .inl (cI, 5, .inl fS)), (aMC, .inl (cI, 5, .inl fC)), (aMT, .inl (cI, 320, .inl fT)), (aF, .inr (3, [.int us, .ref aFr]))] sz) := by
  refine Met.ofW (cc := b_SettingSearch_machine) (maxL := 2) (ret := (some .int)) (by decide) rfl ?_
  intro p e s m args below meth c s₁ B hml hv
  obtain ⟨rfl, hsz, hP, hKN, hD0⟩ := hv
  obtain ⟨hK, hN⟩ := id hKN
  have hx := B.exec
  have hb := B.bytes
  have hr := B.returns
  have hts0 := atoms_spec (ws := w_SettingSearch_machine) B.pre
  have hts : ∀ w ∈ lw_g, w.before _ s = true := fun w h => hts0 w (List.mem_cons_of_mem _ h)
  have hown : s.vm.findClass R_SettingSearch = some m.cls := findClass_of_methodNamed B.named
  have hlocks := B.notSynchronized
  subst hsz
  have hD := hD0.self (sz := s.heap.size)
  generalize hAe : va_A [(a0, .inr (0, [.ref aM, .ref aR, .ref aW, .ref aF, .ref aS, .ref aKR])), (aS, .inr (6, [sv, .int go, .int ak, .int be, .long bw, .int pt, .int ln, .ref aSo])), (aM, .inr (4, [.int cnt, .int vec, .ref aMS, .ref aMC, .ref aMT])), (aMS, .inl (cI, 5, .inl fS)), (aMC, .inl (cI, 5, .inl fC)), (aMT, .inl (cI, 320, .inl fT)), (aF, .inr (3, [.int us, .ref aFr]))] s.heap.size = A at hD ⊢
  have hA : ∀ q : Nat, s.heap.size ≤ q → A q := fun q h => by rw [← hAe]; exact Or.inr h
  have hP : va_P (dC, dI) vw_cls [(a0, .inr (0, [.ref aM, .ref aR, .ref aW, .ref aF, .ref aS, .ref aKR])), (aS, .inr (6, [sv, .int go, .int ak, .int be, .long bw, .int pt, .int ln, .ref aSo])), (aM, .inr (4, [.int cnt, .int vec, .ref aMS, .ref aMC, .ref aMT])), (aMS, .inl (cI, 5, .inl fS)), (aMC, .inl (cI, 5, .inl fC)), (aMT, .inl (cI, 320, .inl fT)), (aF, .inr (3, [.int us, .ref aFr]))] s.heap := hP
  have hl := lv_entry ([.ref a0, .int k1]) (n := 2) (Nat.le_of_ble_eq_true rfl)
  rw [lg_entry_eq]
  generalize (lg_sl ([.ref a0, .int k1]) ++ List.replicate (2 - (lg_sl ([.ref a0, .int k1])).length) Slot.unset).toArray = ls at hl ⊢
  have hl : lv_has ls 2 [(0, .ref a0), (1, .int k1)] := hl
  refine gw_start (fun H locs hH hlocs => ?_)
  rw [← hH] at hP
  have hS : va_S A s.heap H locs := by rw [hH, hlocs]; exact va_S.rf
  refine lv_aload_n hx hb d_SettingSearch_machine_0 rfl (lv_at hl 0 rfl) ?_
  refine va_get (D := (dC, dI)) (ci := 0) (v := .ref aS) (C := R_SettingSearch) (T := T_SettingSearch) (N := 6) hx hb hts in_SettingSearch hown hK hP 0 rfl rfl 4 (by decide) (hts _ tw_183) (fun _ h9 => h9) rfl d_SettingSearch_machine_1 ?_
  refine va_getN (D := (dC, dI)) (ci := 6) (v := .int go) (C := R_Search) (T := T_Search) (N := 8) hx hb hts in_Search hown hK hP 1 rfl rfl 1 (by decide) (g_Nu hN (List.mem_of_getElem? (i := 8) rfl)) (fun _ h9 => h9) rfl d_SettingSearch_machine_4 ?_
  refine lv_if_ne (tgt := 21) hx hb d_SettingSearch_machine_7 (by decide) (fun c_1 => ?_) (fun c_1 => ?_)
  · skip
    have cg : ¬ go = 0 := c_1
    refine lv_iconst (v := (-1)) hx hb d_SettingSearch_machine_21 (by decide) ?_
    have hP9 := hP.sub (ws' := [(a0, .inr (0, [.ref aM, .ref aR, .ref aW, .ref aF, .ref aS, .ref aKR])), (aS, .inr (6, [sv, .int go, .int ak, .int be, .long bw, .int pt, .int ln, .ref aSo])), (aM, .inr (4, [.int cnt, .int vec, .ref aMS, .ref aMC, .ref aMT])), (aMS, .inl (cI, 5, .inl fS)), (aMC, .inl (cI, 5, .inl fC)), (aMT, .inl (cI, 320, .inl fT)), (aF, .inr (3, [.int us, .ref aFr]))]) [0, 1, 2, 3, 4, 5, 6] rfl
    have hD9 := hD.sub (ws' := [(a0, .inr (0, [.ref aM, .ref aR, .ref aW, .ref aF, .ref aS, .ref aKR])), (aS, .inr (6, [sv, .int go, .int ak, .int be, .long bw, .int pt, .int ln, .ref aSo])), (aM, .inr (4, [.int cnt, .int vec, .ref aMS, .ref aMC, .ref aMT])), (aMS, .inl (cI, 5, .inl fS)), (aMC, .inl (cI, 5, .inl fC)), (aMT, .inl (cI, 320, .inl fT)), (aF, .inr (3, [.int us, .ref aFr]))]) [0, 1, 2, 3, 4, 5, 6] (by decide) rfl
    have hpost_2 : (go = 0 ∧ q_addOk cnt vec k1 ∧ ((-1) : Int32) = cnt ∧ cnt = cnt + 1 ∧ vec = vec * k1 ∧ fS = upd fS nc k1 ∧ fC = upd fC nc 0 ∧ fT = q_fill (upd fS nc k1) (nc + 1) fT ((vec * k1).toNatClampNeg - 1) ∧ us = 0 ∧ sv = .null ∧ go = 0 ∧ ak = -1 ∧ be = -1 ∧ bw = (-9223372036854775808) ∧ pt = 0 ∧ ln = 0) ∨ ((¬ go = 0 ∨ ¬ q_addOk cnt vec k1) ∧ ((-1) : Int32) = -1 ∧ cnt = cnt ∧ vec = vec ∧ fS = fS ∧ fC = fC ∧ fT = fT ∧ us = us ∧ sv = sv ∧ go = go ∧ ak = ak ∧ be = be ∧ bw = bw ∧ pt = pt ∧ ln = ln) := Or.inr ⟨Or.inl cg, rfl, rfl, rfl, rfl, rfl, rfl, rfl, rfl, rfl, rfl, rfl, rfl, rfl, rfl⟩
    exact W.iret (v := (-1)) hx hb hr (fun t ht hW => ⟨⟨(-1), (cnt, vec, fS, fC, fT, us, sv, go, ak, be, bw, pt, ln), rfl, hpost_2, by rw [ht]; exact hP9, hD9⟩, hS.F ht⟩) hS.2.2 d_SettingSearch_machine_22
  · skip
    have cg : go = 0 := c_1
    refine lv_aload_n hx hb d_SettingSearch_machine_10 rfl (lv_at hl 0 rfl) ?_
    refine va_get (D := (dC, dI)) (ci := 0) (v := .ref aM) (C := R_SettingSearch) (T := T_SettingSearch) (N := 6) hx hb hts in_SettingSearch hown hK hP 0 rfl rfl 0 (by decide) (hts _ tw_179) (fun _ h9 => h9) rfl d_SettingSearch_machine_11 ?_
    refine lv_iload_n hx hb d_SettingSearch_machine_14 rfl (lv_at hl 1 rfl) ?_
    have hPc := hP.sub (ws' := [(aM, .inr (4, [.int cnt, .int vec, .ref aMS, .ref aMC, .ref aMT])), (aMS, .inl (cI, 5, .inl fS)), (aMC, .inl (cI, 5, .inl fC)), (aMT, .inl (cI, 320, .inl fT))]) [2, 3, 4, 5] rfl
    have hDc := hD.sub (ws' := [(aM, .inr (4, [.int cnt, .int vec, .ref aMS, .ref aMC, .ref aMT])), (aMS, .inl (cI, 5, .inl fS)), (aMC, .inl (cI, 5, .inl fC)), (aMT, .inl (cI, 320, .inl fT))]) [2, 3, 4, 5] (by decide) rfl
    have hFc := va_free (wc := [(aM, .inr (4, [.int cnt, .int vec, .ref aMS, .ref aMC, .ref aMT])), (aMS, .inl (cI, 5, .inl fS)), (aMC, .inl (cI, 5, .inl fC)), (aMT, .inl (cI, 320, .inl fT))]) hD hS hA [2, 3, 4, 5] rfl
    refine va_calli (va_runV (As := [.int k1]) (rest := []) ⟨hx, hb, hml, hown, hts⟩ (k_add l dC dI H.size cI cZ cQ aM aMS aMC aMT cnt vec fS fC fT k1 nc nv hcnt hvec hnc hnv hnv1) ⟨(callB_of 1 hts (ga_all tw_205) rfl rfl rfl (hts _ tw_23) (hts _ tw_202) (by decide +kernel) ⟨Nat.le_of_ble_eq_true rfl, Nat.le_of_ble_eq_true rfl⟩), hts _ tw_203, hts _ tw_204⟩ ⟨fun a U g mk q => by obtain ⟨q0, q1, qP, qK, qD⟩ := q; exact ⟨q0, q1, qP, g_K.same (u := U) (U := U.calling g mk a) rfl qK, qD⟩, va_recv hK hPc (ci := 4) (q0 := 0) rfl rfl, fun U hU hW => ⟨rfl, by rw [hU], by rw [hU]; exact hPc, g_K.warm hW hKN, hDc.weaken (fun _ _ _ _ => trivial)⟩⟩ rfl rfl hl.1 rfl (lv_room (Nat.le_of_ble_eq_true rfl)) d_SettingSearch_machine_15 ⟨Nat.le_of_ble_eq_true rfl, Nat.le_of_ble_eq_true rfl⟩) hS (fun q _ h => hFc q h) hFc (fun r_3 u t H1 locs htt hvm hw_4 hBB hzz hkk hS => ?_)
    obtain ⟨cnt2_5, vec2_6, fS2_7, fC2_8, fT2_9⟩ := u
    have hw_4 : (q_addOk cnt vec k1 ∧ r_3 = 1 ∧ cnt2_5 = cnt + 1 ∧ vec2_6 = vec * k1 ∧ fS2_7 = upd fS nc k1 ∧ fC2_8 = upd fC nc 0 ∧ fT2_9 = q_fill (upd fS nc k1) (nc + 1) fT ((vec * k1).toNatClampNeg - 1)) ∨ (¬ q_addOk cnt vec k1 ∧ r_3 = 0 ∧ cnt2_5 = cnt ∧ vec2_6 = vec ∧ fS2_7 = fS ∧ fC2_8 = fC ∧ fT2_9 = fT) := hw_4
    obtain ⟨hPP, hDD⟩ := hBB
    rw [htt] at hPP
    have hPP : va_P (dC, dI) vw_cls [(aM, .inr (4, [.int cnt2_5, .int vec2_6, .ref aMS, .ref aMC, .ref aMT])), (aMS, .inl (cI, 5, .inl fS2_7)), (aMC, .inl (cI, 5, .inl fC2_8)), (aMT, .inl (cI, 320, .inl fT2_9))] H1 := hPP
    have hDD : va_D (va_A [(aM, .inr (4, [.int cnt, .int vec, .ref aMS, .ref aMC, .ref aMT])), (aMS, .inl (cI, 5, .inl fS)), (aMC, .inl (cI, 5, .inl fC)), (aMT, .inl (cI, 320, .inl fT))] H.size) [(aM, .inr (4, [.int cnt2_5, .int vec2_6, .ref aMS, .ref aMC, .ref aMT])), (aMS, .inl (cI, 5, .inl fS2_7)), (aMC, .inl (cI, 5, .inl fC2_8)), (aMT, .inl (cI, 320, .inl fT2_9))] := hDD
    obtain ⟨hP, hD⟩ := va_join (wr := [(a0, .inr (0, [.ref aM, .ref aR, .ref aW, .ref aF, .ref aS, .ref aKR])), (aS, .inr (6, [sv, .int go, .int ak, .int be, .long bw, .int pt, .int ln, .ref aSo])), (aF, .inr (3, [.int us, .ref aFr]))]) (w1 := [(aM, .inr (4, [.int cnt2_5, .int vec2_6, .ref aMS, .ref aMC, .ref aMT])), (aMS, .inl (cI, 5, .inl fS2_7)), (aMC, .inl (cI, 5, .inl fC2_8)), (aMT, .inl (cI, 320, .inl fT2_9))]) hP hD [2, 3, 4, 5] [0, 1, 6] rfl rfl (by decide) (by decide) hkk hFc hPP hDD
    generalize H1 = H at hP hS ⊢
    have hP : va_P (dC, dI) vw_cls [(a0, .inr (0, [.ref aM, .ref aR, .ref aW, .ref aF, .ref aS, .ref aKR])), (aS, .inr (6, [sv, .int go, .int ak, .int be, .long bw, .int pt, .int ln, .ref aSo])), (aF, .inr (3, [.int us, .ref aFr])), (aM, .inr (4, [.int cnt2_5, .int vec2_6, .ref aMS, .ref aMC, .ref aMT])), (aMS, .inl (cI, 5, .inl fS2_7)), (aMC, .inl (cI, 5, .inl fC2_8)), (aMT, .inl (cI, 320, .inl fT2_9))] H := hP
    have hD : va_D A [(a0, .inr (0, [.ref aM, .ref aR, .ref aW, .ref aF, .ref aS, .ref aKR])), (aS, .inr (6, [sv, .int go, .int ak, .int be, .long bw, .int pt, .int ln, .ref aSo])), (aF, .inr (3, [.int us, .ref aFr])), (aM, .inr (4, [.int cnt2_5, .int vec2_6, .ref aMS, .ref aMC, .ref aMT])), (aMS, .inl (cI, 5, .inl fS2_7)), (aMC, .inl (cI, 5, .inl fC2_8)), (aMT, .inl (cI, 320, .inl fT2_9))] := hD
    refine lv_if_ne (tgt := 23) hx hb d_SettingSearch_machine_18 (by decide) (fun c_10 => ?_) (fun c_10 => ?_)
    · skip
      have hAd := hw_4.resolve_right (fun z => c_10 z.2.1)
      refine lv_aload_n hx hb d_SettingSearch_machine_23 rfl (lv_at hl 0 rfl) ?_
      refine va_get (D := (dC, dI)) (ci := 0) (v := .ref aF) (C := R_SettingSearch) (T := T_SettingSearch) (N := 6) hx hb hts in_SettingSearch hown hK hP 0 rfl rfl 3 (by decide) (hts _ tw_182) (fun _ h9 => h9) rfl d_SettingSearch_machine_24 ?_
      have hPc := hP.sub (ws' := [(aF, .inr (3, [.int us, .ref aFr]))]) [2] rfl
      have hDc := hD.sub (ws' := [(aF, .inr (3, [.int us, .ref aFr]))]) [2] (by decide) rfl
      have hFc := va_free (wc := [(aF, .inr (3, [.int us, .ref aFr]))]) hD hS hA [2] rfl
      refine va_callv (va_runV (As := []) (rest := []) ⟨hx, hb, hml, hown, hts⟩ (k_ffo l dC dI H.size cI cZ cQ aF aFr us ) ⟨(callB_of 0 hts (ga_all tw_213) rfl rfl rfl (hts _ tw_26) (hts _ tw_210) (by decide +kernel) ⟨Nat.le_of_ble_eq_true rfl, Nat.le_of_ble_eq_true rfl⟩), hts _ tw_211, hts _ tw_212⟩ ⟨fun a U g mk q => by obtain ⟨q0, q1, qP, qK, qD⟩ := q; exact ⟨q0, q1, qP, g_K.same (u := U) (U := U.calling g mk a) rfl qK, qD⟩, va_recv hK hPc (ci := 3) (q0 := 0) rfl rfl, fun U hU hW => ⟨rfl, by rw [hU], by rw [hU]; exact hPc, g_K.warm hW hKN, hDc.weaken (fun _ _ _ _ => trivial)⟩⟩ rfl rfl hl.1 rfl (lv_room (Nat.le_of_ble_eq_true rfl)) d_SettingSearch_machine_27 ⟨Nat.le_of_ble_eq_true rfl, Nat.le_of_ble_eq_true rfl⟩) hS (fun q _ h => hFc q h) hFc (fun u t H1 locs htt hvm hw_12 hBB hzz hkk hS => ?_)
      have hw_12 : True := hw_12
      obtain ⟨hPP, hDD⟩ := hBB
      rw [htt] at hPP
      have hPP : va_P (dC, dI) vw_cls [(aF, .inr (3, [.int 0, .ref aFr]))] H1 := hPP
      have hDD : va_D (va_A [(aF, .inr (3, [.int us, .ref aFr]))] H.size) [(aF, .inr (3, [.int 0, .ref aFr]))] := hDD
      obtain ⟨hP, hD⟩ := va_join (wr := [(a0, .inr (0, [.ref aM, .ref aR, .ref aW, .ref aF, .ref aS, .ref aKR])), (aS, .inr (6, [sv, .int go, .int ak, .int be, .long bw, .int pt, .int ln, .ref aSo])), (aM, .inr (4, [.int cnt2_5, .int vec2_6, .ref aMS, .ref aMC, .ref aMT])), (aMS, .inl (cI, 5, .inl fS2_7)), (aMC, .inl (cI, 5, .inl fC2_8)), (aMT, .inl (cI, 320, .inl fT2_9))]) (w1 := [(aF, .inr (3, [.int 0, .ref aFr]))]) hP hD [2] [0, 1, 3, 4, 5, 6] rfl rfl (by decide) (by decide) hkk hFc hPP hDD
      generalize H1 = H at hP hS ⊢
      have hP : va_P (dC, dI) vw_cls [(a0, .inr (0, [.ref aM, .ref aR, .ref aW, .ref aF, .ref aS, .ref aKR])), (aS, .inr (6, [sv, .int go, .int ak, .int be, .long bw, .int pt, .int ln, .ref aSo])), (aM, .inr (4, [.int cnt2_5, .int vec2_6, .ref aMS, .ref aMC, .ref aMT])), (aMS, .inl (cI, 5, .inl fS2_7)), (aMC, .inl (cI, 5, .inl fC2_8)), (aMT, .inl (cI, 320, .inl fT2_9)), (aF, .inr (3, [.int 0, .ref aFr]))] H := hP
      have hD : va_D A [(a0, .inr (0, [.ref aM, .ref aR, .ref aW, .ref aF, .ref aS, .ref aKR])), (aS, .inr (6, [sv, .int go, .int ak, .int be, .long bw, .int pt, .int ln, .ref aSo])), (aM, .inr (4, [.int cnt2_5, .int vec2_6, .ref aMS, .ref aMC, .ref aMT])), (aMS, .inl (cI, 5, .inl fS2_7)), (aMC, .inl (cI, 5, .inl fC2_8)), (aMT, .inl (cI, 320, .inl fT2_9)), (aF, .inr (3, [.int 0, .ref aFr]))] := hD
      refine lv_aload_n hx hb d_SettingSearch_machine_30 rfl (lv_at hl 0 rfl) ?_
      refine va_get (D := (dC, dI)) (ci := 0) (v := .ref aS) (C := R_SettingSearch) (T := T_SettingSearch) (N := 6) hx hb hts in_SettingSearch hown hK hP 0 rfl rfl 4 (by decide) (hts _ tw_183) (fun _ h9 => h9) rfl d_SettingSearch_machine_31 ?_
      have hPc := hP.sub (ws' := [(aS, .inr (6, [sv, .int go, .int ak, .int be, .long bw, .int pt, .int ln, .ref aSo]))]) [1] rfl
      have hDc := hD.sub (ws' := [(aS, .inr (6, [sv, .int go, .int ak, .int be, .long bw, .int pt, .int ln, .ref aSo]))]) [1] (by decide) rfl
      have hFc := va_free (wc := [(aS, .inr (6, [sv, .int go, .int ak, .int be, .long bw, .int pt, .int ln, .ref aSo]))]) hD hS hA [1] rfl
      refine va_callv (va_runV (As := []) (rest := []) ⟨hx, hb, hml, hown, hts⟩ (k_sfo l dC dI H.size cI cZ cQ aS aSo sv go ak be bw pt ln ) ⟨(callB_of 0 hts (ga_all tw_144) rfl rfl rfl (hts _ tw_28) (hts _ tw_214) (by decide +kernel) ⟨Nat.le_of_ble_eq_true rfl, Nat.le_of_ble_eq_true rfl⟩), hts _ tw_142, hts _ tw_143⟩ ⟨fun a U g mk q => by obtain ⟨q0, q1, qP, qK, qD⟩ := q; exact ⟨q0, q1, qP, g_K.same (u := U) (U := U.calling g mk a) rfl qK, qD⟩, va_recv hK hPc (ci := 6) (q0 := 0) rfl rfl, fun U hU hW => ⟨rfl, by rw [hU], by rw [hU]; exact hPc, g_K.warm hW hKN, hDc.weaken (fun _ _ _ _ => trivial)⟩⟩ rfl rfl hl.1 rfl (lv_room (Nat.le_of_ble_eq_true rfl)) d_SettingSearch_machine_34 ⟨Nat.le_of_ble_eq_true rfl, Nat.le_of_ble_eq_true rfl⟩) hS (fun q _ h => hFc q h) hFc (fun u t H1 locs htt hvm hw_14 hBB hzz hkk hS => ?_)
      have hw_14 : True := hw_14
      obtain ⟨hPP, hDD⟩ := hBB
      rw [htt] at hPP
      have hPP : va_P (dC, dI) vw_cls [(aS, .inr (6, [.null, .int 0, .int (-1), .int (-1), .long (-9223372036854775808), .int 0, .int 0, .ref aSo]))] H1 := hPP
      have hDD : va_D (va_A [(aS, .inr (6, [sv, .int go, .int ak, .int be, .long bw, .int pt, .int ln, .ref aSo]))] H.size) [(aS, .inr (6, [.null, .int 0, .int (-1), .int (-1), .long (-9223372036854775808), .int 0, .int 0, .ref aSo]))] := hDD
      obtain ⟨hP, hD⟩ := va_join (wr := [(a0, .inr (0, [.ref aM, .ref aR, .ref aW, .ref aF, .ref aS, .ref aKR])), (aM, .inr (4, [.int cnt2_5, .int vec2_6, .ref aMS, .ref aMC, .ref aMT])), (aMS, .inl (cI, 5, .inl fS2_7)), (aMC, .inl (cI, 5, .inl fC2_8)), (aMT, .inl (cI, 320, .inl fT2_9)), (aF, .inr (3, [.int 0, .ref aFr]))]) (w1 := [(aS, .inr (6, [.null, .int 0, .int (-1), .int (-1), .long (-9223372036854775808), .int 0, .int 0, .ref aSo]))]) hP hD [1] [0, 2, 3, 4, 5, 6] rfl rfl (by decide) (by decide) hkk hFc hPP hDD
      generalize H1 = H at hP hS ⊢
      have hP : va_P (dC, dI) vw_cls [(a0, .inr (0, [.ref aM, .ref aR, .ref aW, .ref aF, .ref aS, .ref aKR])), (aM, .inr (4, [.int cnt2_5, .int vec2_6, .ref aMS, .ref aMC, .ref aMT])), (aMS, .inl (cI, 5, .inl fS2_7)), (aMC, .inl (cI, 5, .inl fC2_8)), (aMT, .inl (cI, 320, .inl fT2_9)), (aF, .inr (3, [.int 0, .ref aFr])), (aS, .inr (6, [.null, .int 0, .int (-1), .int (-1), .long (-9223372036854775808), .int 0, .int 0, .ref aSo]))] H := hP
      have hD : va_D A [(a0, .inr (0, [.ref aM, .ref aR, .ref aW, .ref aF, .ref aS, .ref aKR])), (aM, .inr (4, [.int cnt2_5, .int vec2_6, .ref aMS, .ref aMC, .ref aMT])), (aMS, .inl (cI, 5, .inl fS2_7)), (aMC, .inl (cI, 5, .inl fC2_8)), (aMT, .inl (cI, 320, .inl fT2_9)), (aF, .inr (3, [.int 0, .ref aFr])), (aS, .inr (6, [.null, .int 0, .int (-1), .int (-1), .long (-9223372036854775808), .int 0, .int 0, .ref aSo]))] := hD
      refine lv_aload_n hx hb d_SettingSearch_machine_37 rfl (lv_at hl 0 rfl) ?_
      refine va_get (D := (dC, dI)) (ci := 0) (v := .ref aM) (C := R_SettingSearch) (T := T_SettingSearch) (N := 6) hx hb hts in_SettingSearch hown hK hP 0 rfl rfl 0 (by decide) (hts _ tw_179) (fun _ h9 => h9) rfl d_SettingSearch_machine_38 ?_
      refine va_getN (D := (dC, dI)) (ci := 4) (v := .int cnt2_5) (C := R_Machines) (T := T_Machines) (N := 5) hx hb hts in_Machines hown hK hP 1 rfl rfl 0 (by decide) (g_Nu hN (List.mem_of_getElem? (i := 0) rfl)) (fun _ h9 => h9) rfl d_SettingSearch_machine_41 ?_
      refine lv_iconst (v := 1) hx hb d_SettingSearch_machine_44 (by decide) ?_
      refine lv_isub hx hb d_SettingSearch_machine_45 ?_
      refine lv_topi (fun v_15 ev_15 => ?_)
      have hP9 := hP.sub (ws' := [(a0, .inr (0, [.ref aM, .ref aR, .ref aW, .ref aF, .ref aS, .ref aKR])), (aS, .inr (6, [.null, .int 0, .int (-1), .int (-1), .long (-9223372036854775808), .int 0, .int 0, .ref aSo])), (aM, .inr (4, [.int cnt2_5, .int vec2_6, .ref aMS, .ref aMC, .ref aMT])), (aMS, .inl (cI, 5, .inl fS2_7)), (aMC, .inl (cI, 5, .inl fC2_8)), (aMT, .inl (cI, 320, .inl fT2_9)), (aF, .inr (3, [.int 0, .ref aFr]))]) [0, 6, 1, 2, 3, 4, 5] rfl
      have hD9 := hD.sub (ws' := [(a0, .inr (0, [.ref aM, .ref aR, .ref aW, .ref aF, .ref aS, .ref aKR])), (aS, .inr (6, [.null, .int 0, .int (-1), .int (-1), .long (-9223372036854775808), .int 0, .int 0, .ref aSo])), (aM, .inr (4, [.int cnt2_5, .int vec2_6, .ref aMS, .ref aMC, .ref aMT])), (aMS, .inl (cI, 5, .inl fS2_7)), (aMC, .inl (cI, 5, .inl fC2_8)), (aMT, .inl (cI, 320, .inl fT2_9)), (aF, .inr (3, [.int 0, .ref aFr]))]) [0, 6, 1, 2, 3, 4, 5] (by decide) rfl
      have hpost_16 : (go = 0 ∧ q_addOk cnt vec k1 ∧ (v_15 : Int32) = cnt ∧ cnt2_5 = cnt + 1 ∧ vec2_6 = vec * k1 ∧ fS2_7 = upd fS nc k1 ∧ fC2_8 = upd fC nc 0 ∧ fT2_9 = q_fill (upd fS nc k1) (nc + 1) fT ((vec * k1).toNatClampNeg - 1) ∧ (0 : Int32) = 0 ∧ (.null : Value) = .null ∧ (0 : Int32) = 0 ∧ ((-1) : Int32) = -1 ∧ ((-1) : Int32) = -1 ∧ ((-9223372036854775808) : Int64) = (-9223372036854775808) ∧ (0 : Int32) = 0 ∧ (0 : Int32) = 0) ∨ ((¬ go = 0 ∨ ¬ q_addOk cnt vec k1) ∧ (v_15 : Int32) = -1 ∧ cnt2_5 = cnt ∧ vec2_6 = vec ∧ fS2_7 = fS ∧ fC2_8 = fC ∧ fT2_9 = fT ∧ (0 : Int32) = us ∧ (.null : Value) = sv ∧ (0 : Int32) = go ∧ ((-1) : Int32) = ak ∧ ((-1) : Int32) = be ∧ ((-9223372036854775808) : Int64) = bw ∧ (0 : Int32) = pt ∧ (0 : Int32) = ln) := Or.inl ⟨cg, hAd.1, by rw [ev_15, hAd.2.2.1]; exact Int32.add_sub_cancel _ _, hAd.2.2.1, hAd.2.2.2.1, hAd.2.2.2.2.1, hAd.2.2.2.2.2.1, hAd.2.2.2.2.2.2, rfl, rfl, rfl, rfl, rfl, rfl, rfl, rfl⟩
      exact W.iret (v := v_15) hx hb hr (fun t ht hW => ⟨⟨v_15, (cnt2_5, vec2_6, fS2_7, fC2_8, fT2_9, 0, (.null : Value), 0, (-1), (-1), (-9223372036854775808), 0, 0), rfl, hpost_16, by rw [ht]; exact hP9, hD9⟩, hS.F ht⟩) hS.2.2 d_SettingSearch_machine_46
    · skip
      have hAd := hw_4.resolve_left (fun z => absurd (z.2.1.symm.trans c_10) (by decide))
      refine lv_iconst (v := (-1)) hx hb d_SettingSearch_machine_21 (by decide) ?_
      have hP9 := hP.sub (ws' := [(a0, .inr (0, [.ref aM, .ref aR, .ref aW, .ref aF, .ref aS, .ref aKR])), (aS, .inr (6, [sv, .int go, .int ak, .int be, .long bw, .int pt, .int ln, .ref aSo])), (aM, .inr (4, [.int cnt2_5, .int vec2_6, .ref aMS, .ref aMC, .ref aMT])), (aMS, .inl (cI, 5, .inl fS2_7)), (aMC, .inl (cI, 5, .inl fC2_8)), (aMT, .inl (cI, 320, .inl fT2_9)), (aF, .inr (3, [.int us, .ref aFr]))]) [0, 1, 3, 4, 5, 6, 2] rfl
      have hD9 := hD.sub (ws' := [(a0, .inr (0, [.ref aM, .ref aR, .ref aW, .ref aF, .ref aS, .ref aKR])), (aS, .inr (6, [sv, .int go, .int ak, .int be, .long bw, .int pt, .int ln, .ref aSo])), (aM, .inr (4, [.int cnt2_5, .int vec2_6, .ref aMS, .ref aMC, .ref aMT])), (aMS, .inl (cI, 5, .inl fS2_7)), (aMC, .inl (cI, 5, .inl fC2_8)), (aMT, .inl (cI, 320, .inl fT2_9)), (aF, .inr (3, [.int us, .ref aFr]))]) [0, 1, 3, 4, 5, 6, 2] (by decide) rfl
      have hpost_17 : (go = 0 ∧ q_addOk cnt vec k1 ∧ ((-1) : Int32) = cnt ∧ cnt2_5 = cnt + 1 ∧ vec2_6 = vec * k1 ∧ fS2_7 = upd fS nc k1 ∧ fC2_8 = upd fC nc 0 ∧ fT2_9 = q_fill (upd fS nc k1) (nc + 1) fT ((vec * k1).toNatClampNeg - 1) ∧ us = 0 ∧ sv = .null ∧ go = 0 ∧ ak = -1 ∧ be = -1 ∧ bw = (-9223372036854775808) ∧ pt = 0 ∧ ln = 0) ∨ ((¬ go = 0 ∨ ¬ q_addOk cnt vec k1) ∧ ((-1) : Int32) = -1 ∧ cnt2_5 = cnt ∧ vec2_6 = vec ∧ fS2_7 = fS ∧ fC2_8 = fC ∧ fT2_9 = fT ∧ us = us ∧ sv = sv ∧ go = go ∧ ak = ak ∧ be = be ∧ bw = bw ∧ pt = pt ∧ ln = ln) := Or.inr ⟨Or.inr hAd.1, rfl, hAd.2.2.1, hAd.2.2.2.1, hAd.2.2.2.2.1, hAd.2.2.2.2.2.1, hAd.2.2.2.2.2.2, rfl, rfl, rfl, rfl, rfl, rfl, rfl, rfl⟩
      exact W.iret (v := (-1)) hx hb hr (fun t ht hW => ⟨⟨(-1), (cnt2_5, vec2_6, fS2_7, fC2_8, fT2_9, us, sv, go, ak, be, bw, pt, ln), rfl, hpost_17, by rw [ht]; exact hP9, hD9⟩, hS.F ht⟩) hS.2.2 d_SettingSearch_machine_22
set_option maxHeartbeats 4000000 in
set_option maxRecDepth 100000 in
/-- worth -/
theorem f_worth (l : Launch) (dC : Nat → ClassId) (dI : Nat → Nat → Nat) (sz : Nat) (cI : ClassId) (cZ : ClassId) (cQ : ClassId) (a0 : Nat) (aM : Nat) (aR : Nat) (aW : Nat) (aF : Nat) (aS : Nat) (aKR : Nat) (aSo : Nat) (sv : Value) (go : Int32) (ak : Int32) (be : Int32) (bw : Int64) (pt : Int32) (ln : Int32) (fW : Nat → Int32) (p1 : Int32) (k1 : Int32) (x1 : Int32)  : Met l y_SettingSearch_worth w_SettingSearch_worth ({ frames := 1, cells := 0, slots := 0, locals := 21 } : Room) (va_Pc [.ref a0, .int p1, .int k1, .int x1] (fun U => U.heap.size = sz ∧ va_P (dC, dI) vw_cls [(a0, .inr (0, [.ref aM, .ref aR, .ref aW, .ref aF, .ref aS, .ref aKR])), (aS, .inr (6, [sv, .int go, .int ak, .int be, .long bw, .int pt, .int ln, .ref aSo])), (aW, .inl (cI, 9, .inl fW))] U.heap ∧ g_K dC dI [(cI, .int), (cZ, .boolean), (cQ, (.object "SettingSearch$Answers"))] U ∧ va_D (fun _ => True) [(a0, .inr (0, [.ref aM, .ref aR, .ref aW, .ref aF, .ref aS, .ref aKR])), (aS, .inr (6, [sv, .int go, .int ak, .int be, .long bw, .int pt, .int ln, .ref aSo])), (aW, .inl (cI, 9, .inl fW))])) (va_Qi (fun (r : Int32) (u : (Nat → Int32)) => ((go = 0 ∧ ¬ q_pl p1 k1 = -1 ∧ ¬ x1 < -1000 ∧ x1 ≤ 1000) ∧ r = 1 ∧ u = upd fW (q_pl p1 k1).toNatClampNeg x1) ∨ (¬ (go = 0 ∧ ¬ q_pl p1 k1 = -1 ∧ ¬ x1 < -1000 ∧ x1 ≤ 1000) ∧ r = 0 ∧ u = fW)) (fun (u : (Nat → Int32)) (t : State) => va_P (dC, dI) vw_cls [(a0, .inr (0, [.ref aM, .ref aR, .ref aW, .ref aF, .ref aS, .ref aKR])), (aS, .inr (6, [sv, .int go, .int ak, .int be, .long bw, .int pt, .int ln, .ref aSo])), (aW, .inl (cI, 9, .inl u))] t.heap ∧ va_D (va_A [(a0, .inr (0, [.ref aM, .ref aR, .ref aW, .ref aF, .ref aS, .ref aKR])), (aS, .inr (6, [sv, .int go, .int ak, .int be, .long bw, .int pt, .int ln, .ref aSo])), (aW, .inl (cI, 9, .inl fW))] sz) [(a0, .inr (0, [.ref aM, .ref aR, .ref aW, .ref aF, .ref aS, .ref aKR])), (aS, .inr (6, [sv, .int go, .int ak, .int be, .long bw, .int pt, .int ln, .ref aSo])), (aW, .inl (cI, 9, .inl u))]) (va_A [(a0, .inr (0, [.ref aM, .ref aR, .ref aW, .ref aF, .ref aS, .ref aKR])), (aS, .inr (6, [sv, .int go, .int ak, .int be, .long bw, .int pt, .int ln, .ref aSo])), (aW, .inl (cI, 9, .inl fW))] sz)) 0 0 (va_A [(a0, .inr (0, [.ref aM, .ref aR, .ref aW, .ref aF, .ref aS, .ref aKR])), (aS, .inr (6, [sv, .int go, .int ak, .int be, .long bw, .int pt, .int ln, .ref aSo])), (aW, .inl (cI, 9, .inl fW))] sz) := by
  refine Met.ofW (cc := b_SettingSearch_worth) (maxL := 5) (ret := (some .boolean)) (by decide) rfl ?_
  intro p e s m args below meth c s₁ B hml hv
  obtain ⟨rfl, hsz, hP, hKN, hD0⟩ := hv
  obtain ⟨hK, hN⟩ := id hKN
  have hx := B.exec
  have hb := B.bytes
  have hr := B.returns
  have hts0 := atoms_spec (ws := w_SettingSearch_worth) B.pre
  have hts : ∀ w ∈ lw_g, w.before _ s = true := fun w h => hts0 w (List.mem_cons_of_mem _ h)
  have hown : s.vm.findClass R_SettingSearch = some m.cls := findClass_of_methodNamed B.named
  have hlocks := B.notSynchronized
  subst hsz
  have hD := hD0.self (sz := s.heap.size)
  generalize hAe : va_A [(a0, .inr (0, [.ref aM, .ref aR, .ref aW, .ref aF, .ref aS, .ref aKR])), (aS, .inr (6, [sv, .int go, .int ak, .int be, .long bw, .int pt, .int ln, .ref aSo])), (aW, .inl (cI, 9, .inl fW))] s.heap.size = A at hD ⊢
  have hA : ∀ q : Nat, s.heap.size ≤ q → A q := fun q h => by rw [← hAe]; exact Or.inr h
  have hP : va_P (dC, dI) vw_cls [(a0, .inr (0, [.ref aM, .ref aR, .ref aW, .ref aF, .ref aS, .ref aKR])), (aS, .inr (6, [sv, .int go, .int ak, .int be, .long bw, .int pt, .int ln, .ref aSo])), (aW, .inl (cI, 9, .inl fW))] s.heap := hP
  have hl := lv_entry ([.ref a0, .int p1, .int k1, .int x1]) (n := 5) (Nat.le_of_ble_eq_true rfl)
  rw [lg_entry_eq]
  generalize (lg_sl ([.ref a0, .int p1, .int k1, .int x1]) ++ List.replicate (5 - (lg_sl ([.ref a0, .int p1, .int k1, .int x1])).length) Slot.unset).toArray = ls at hl ⊢
  have hl : lv_has ls 5 [(0, .ref a0), (1, .int p1), (2, .int k1), (3, .int x1)] := hl
  refine gw_start (fun H locs hH hlocs => ?_)
  rw [← hH] at hP
  have hS : va_S A s.heap H locs := by rw [hH, hlocs]; exact va_S.rf
  refine lv_iload_n hx hb d_SettingSearch_worth_0 rfl (lv_at hl 1 rfl) ?_
  refine lv_iload_n hx hb d_SettingSearch_worth_1 rfl (lv_at hl 2 rfl) ?_
  have hPc := hP.sub (ws' := []) [] rfl
  have hDc := hD.sub (ws' := []) [] (by decide) rfl
  have hFc := va_free (wc := []) hD hS hA [] rfl
  refine va_calli (va_runS (As := [.int p1, .int k1]) (rest := []) ⟨hx, hb, hml, hown, hts⟩ (k_pl l dC dI H.size cI cZ cQ p1 k1 ) ⟨(callB_of 2 hts (ga_all tw_221) rfl rfl rfl (hts _ tw_22) (hts _ tw_219) (by decide +kernel) ⟨Nat.le_of_ble_eq_true rfl, Nat.le_of_ble_eq_true rfl⟩), hts _ tw_220⟩ ⟨fun a U g mk q => by obtain ⟨q0, q1, qP, qK, qD⟩ := q; exact ⟨q0, q1, qP, g_K.same (u := U) (U := U.calling g mk a) rfl qK, qD⟩, fun U hU hW => ⟨rfl, by rw [hU], by rw [hU]; exact hPc, g_K.warm hW hKN, hDc.weaken (fun _ _ _ _ => trivial)⟩⟩ rfl rfl hl.1 rfl (lv_room (Nat.le_of_ble_eq_true rfl)) d_SettingSearch_worth_2 ⟨Nat.le_of_ble_eq_true rfl, Nat.le_of_ble_eq_true rfl⟩) hS (fun q _ h => hFc q h) hFc (fun r_1 u t H1 locs htt hvm hw_2 hBB hzz hkk hS => ?_)
  have hw_2 : r_1 = q_pl p1 k1 := hw_2
  obtain ⟨hPP, hDD⟩ := hBB
  rw [htt] at hPP
  have hPP : va_P (dC, dI) vw_cls [] H1 := hPP
  have hDD : va_D (va_A [] H.size) [] := hDD
  obtain ⟨hP, hD⟩ := va_join (wr := [(a0, .inr (0, [.ref aM, .ref aR, .ref aW, .ref aF, .ref aS, .ref aKR])), (aS, .inr (6, [sv, .int go, .int ak, .int be, .long bw, .int pt, .int ln, .ref aSo])), (aW, .inl (cI, 9, .inl fW))]) (w1 := []) hP hD [] [0, 1, 2] rfl rfl (by decide) (by decide) hkk hFc hPP hDD
  generalize H1 = H at hP hS ⊢
  have hP : va_P (dC, dI) vw_cls [(a0, .inr (0, [.ref aM, .ref aR, .ref aW, .ref aF, .ref aS, .ref aKR])), (aS, .inr (6, [sv, .int go, .int ak, .int be, .long bw, .int pt, .int ln, .ref aSo])), (aW, .inl (cI, 9, .inl fW))] H := hP
  have hD : va_D A [(a0, .inr (0, [.ref aM, .ref aR, .ref aW, .ref aF, .ref aS, .ref aKR])), (aS, .inr (6, [sv, .int go, .int ak, .int be, .long bw, .int pt, .int ln, .ref aSo])), (aW, .inl (cI, 9, .inl fW))] := hD
  refine lv_istore (lv' := [(4, .int r_1), (0, .ref a0), (1, .int p1), (2, .int k1), (3, .int x1)]) hx hb d_SettingSearch_worth_5 hl (by decide) rfl (fun ls hl => ?_)
  refine lv_aload_n hx hb d_SettingSearch_worth_7 rfl (lv_at hl 1 rfl) ?_
  refine va_get (D := (dC, dI)) (ci := 0) (v := .ref aS) (C := R_SettingSearch) (T := T_SettingSearch) (N := 6) hx hb hts in_SettingSearch hown hK hP 0 rfl rfl 4 (by decide) (hts _ tw_183) (fun _ h9 => h9) rfl d_SettingSearch_worth_8 ?_
  refine va_getN (D := (dC, dI)) (ci := 6) (v := .int go) (C := R_Search) (T := T_Search) (N := 8) hx hb hts in_Search hown hK hP 1 rfl rfl 1 (by decide) (g_Nu hN (List.mem_of_getElem? (i := 8) rfl)) (fun _ h9 => h9) rfl d_SettingSearch_worth_11 ?_
  refine lv_if_ne (tgt := 37) hx hb d_SettingSearch_worth_14 (by decide) (fun c_3 => ?_) (fun c_3 => ?_)
  · skip
    have hbad : ¬ (go = 0 ∧ ¬ q_pl p1 k1 = -1 ∧ ¬ x1 < -1000 ∧ x1 ≤ 1000) := fun z => c_3 z.1
    refine lv_iconst (v := 0) hx hb d_SettingSearch_worth_37 (by decide) ?_
    have hP9 := hP.sub (ws' := [(a0, .inr (0, [.ref aM, .ref aR, .ref aW, .ref aF, .ref aS, .ref aKR])), (aS, .inr (6, [sv, .int go, .int ak, .int be, .long bw, .int pt, .int ln, .ref aSo])), (aW, .inl (cI, 9, .inl fW))]) [0, 1, 2] rfl
    have hD9 := hD.sub (ws' := [(a0, .inr (0, [.ref aM, .ref aR, .ref aW, .ref aF, .ref aS, .ref aKR])), (aS, .inr (6, [sv, .int go, .int ak, .int be, .long bw, .int pt, .int ln, .ref aSo])), (aW, .inl (cI, 9, .inl fW))]) [0, 1, 2] (by decide) rfl
    have hpost_4 : ((go = 0 ∧ ¬ q_pl p1 k1 = -1 ∧ ¬ x1 < -1000 ∧ x1 ≤ 1000) ∧ (0 : Int32) = 1 ∧ fW = upd fW (q_pl p1 k1).toNatClampNeg x1) ∨ (¬ (go = 0 ∧ ¬ q_pl p1 k1 = -1 ∧ ¬ x1 < -1000 ∧ x1 ≤ 1000) ∧ (0 : Int32) = 0 ∧ fW = fW) := Or.inr ⟨hbad, rfl, rfl⟩
    exact W.zret (v := 0) hx hb hr (rfl) (fun t ht hW => ⟨⟨0, fW, rfl, hpost_4, by rw [ht]; exact hP9, hD9⟩, hS.F ht⟩) hS.2.2 d_SettingSearch_worth_38
  · skip
    have cg : go = 0 := c_3
    refine lv_iload hx hb d_SettingSearch_worth_17 (lv_at hl 0 rfl) ?_
    refine lv_iconst (v := (-1)) hx hb d_SettingSearch_worth_19 (by decide) ?_
    refine lv_icmp_eq (tgt := 37) hx hb d_SettingSearch_worth_20 (by decide) (fun c_5 => ?_) (fun c_5 => ?_)
    · skip
      have hbad : ¬ (go = 0 ∧ ¬ q_pl p1 k1 = -1 ∧ ¬ x1 < -1000 ∧ x1 ≤ 1000) := fun z => z.2.1 (by rw [← hw_2]; exact c_5)
      refine lv_iconst (v := 0) hx hb d_SettingSearch_worth_37 (by decide) ?_
      have hP9 := hP.sub (ws' := [(a0, .inr (0, [.ref aM, .ref aR, .ref aW, .ref aF, .ref aS, .ref aKR])), (aS, .inr (6, [sv, .int go, .int ak, .int be, .long bw, .int pt, .int ln, .ref aSo])), (aW, .inl (cI, 9, .inl fW))]) [0, 1, 2] rfl
      have hD9 := hD.sub (ws' := [(a0, .inr (0, [.ref aM, .ref aR, .ref aW, .ref aF, .ref aS, .ref aKR])), (aS, .inr (6, [sv, .int go, .int ak, .int be, .long bw, .int pt, .int ln, .ref aSo])), (aW, .inl (cI, 9, .inl fW))]) [0, 1, 2] (by decide) rfl
      have hpost_6 : ((go = 0 ∧ ¬ q_pl p1 k1 = -1 ∧ ¬ x1 < -1000 ∧ x1 ≤ 1000) ∧ (0 : Int32) = 1 ∧ fW = upd fW (q_pl p1 k1).toNatClampNeg x1) ∨ (¬ (go = 0 ∧ ¬ q_pl p1 k1 = -1 ∧ ¬ x1 < -1000 ∧ x1 ≤ 1000) ∧ (0 : Int32) = 0 ∧ fW = fW) := Or.inr ⟨hbad, rfl, rfl⟩
      exact W.zret (v := 0) hx hb hr (rfl) (fun t ht hW => ⟨⟨0, fW, rfl, hpost_6, by rw [ht]; exact hP9, hD9⟩, hS.F ht⟩) hS.2.2 d_SettingSearch_worth_38
    · skip
      have cp : ¬ q_pl p1 k1 = -1 := by rw [← hw_2]; exact c_5
      refine lv_iload_n hx hb d_SettingSearch_worth_23 rfl (lv_at hl 4 rfl) ?_
      refine lv_sipush (v := (-1000)) hx hb d_SettingSearch_worth_24 (by decide) ?_
      refine lv_icmp_lt (tgt := 37) hx hb d_SettingSearch_worth_27 (by decide) (fun c_7 => ?_) (fun c_7 => ?_)
      · skip
        have hbad : ¬ (go = 0 ∧ ¬ q_pl p1 k1 = -1 ∧ ¬ x1 < -1000 ∧ x1 ≤ 1000) := fun z => z.2.2.1 c_7
        refine lv_iconst (v := 0) hx hb d_SettingSearch_worth_37 (by decide) ?_
        have hP9 := hP.sub (ws' := [(a0, .inr (0, [.ref aM, .ref aR, .ref aW, .ref aF, .ref aS, .ref aKR])), (aS, .inr (6, [sv, .int go, .int ak, .int be, .long bw, .int pt, .int ln, .ref aSo])), (aW, .inl (cI, 9, .inl fW))]) [0, 1, 2] rfl
        have hD9 := hD.sub (ws' := [(a0, .inr (0, [.ref aM, .ref aR, .ref aW, .ref aF, .ref aS, .ref aKR])), (aS, .inr (6, [sv, .int go, .int ak, .int be, .long bw, .int pt, .int ln, .ref aSo])), (aW, .inl (cI, 9, .inl fW))]) [0, 1, 2] (by decide) rfl
        have hpost_8 : ((go = 0 ∧ ¬ q_pl p1 k1 = -1 ∧ ¬ x1 < -1000 ∧ x1 ≤ 1000) ∧ (0 : Int32) = 1 ∧ fW = upd fW (q_pl p1 k1).toNatClampNeg x1) ∨ (¬ (go = 0 ∧ ¬ q_pl p1 k1 = -1 ∧ ¬ x1 < -1000 ∧ x1 ≤ 1000) ∧ (0 : Int32) = 0 ∧ fW = fW) := Or.inr ⟨hbad, rfl, rfl⟩
        exact W.zret (v := 0) hx hb hr (rfl) (fun t ht hW => ⟨⟨0, fW, rfl, hpost_8, by rw [ht]; exact hP9, hD9⟩, hS.F ht⟩) hS.2.2 d_SettingSearch_worth_38
      · skip
        have cl := c_7
        refine lv_iload_n hx hb d_SettingSearch_worth_30 rfl (lv_at hl 4 rfl) ?_
        refine lv_sipush (v := 1000) hx hb d_SettingSearch_worth_31 (by decide) ?_
        refine lv_icmp_le (tgt := 39) hx hb d_SettingSearch_worth_34 (by decide) (fun c_9 => ?_) (fun c_9 => ?_)
        · skip
          have hok : (go = 0 ∧ ¬ q_pl p1 k1 = -1 ∧ ¬ x1 < -1000 ∧ x1 ≤ 1000) := ⟨cg, cp, cl, c_9⟩
          refine lv_aload_n hx hb d_SettingSearch_worth_39 rfl (lv_at hl 1 rfl) ?_
          refine va_get (D := (dC, dI)) (ci := 0) (v := .ref aW) (C := R_SettingSearch) (T := T_SettingSearch) (N := 6) hx hb hts in_SettingSearch hown hK hP 0 rfl rfl 2 (by decide) (hts _ tw_181) (fun _ h9 => h9) rfl d_SettingSearch_worth_40 ?_
          refine lv_iload hx hb d_SettingSearch_worth_43 (lv_at hl 0 rfl) ?_
          refine lv_iload_n hx hb d_SettingSearch_worth_45 rfl (lv_at hl 4 rfl) ?_
          have eh_10 : r_1 = nI ((q_pl p1 k1).toNatClampNeg) := by rw [hw_2]; exact (q_pl_ok cp).2.2.2.2.1
          have bh_10 : (q_pl p1 k1).toNatClampNeg < 9 := (q_pl_ok cp).2.2.2.2.2.1
          have h_10 : vp_in r_1 9 := by rw [eh_10]; exact vp_in_nI bh_10 (by decide)
          have kh_10 : r_1.toNatClampNeg = (q_pl p1 k1).toNatClampNeg := by rw [eh_10]; exact nI_clamp (by omega)
          refine va_iast hx hb hK hP hD hS 2 0 rfl rfl h_10 d_SettingSearch_worth_46 (fun H locs hP hD hS => ?_)
          rw [kh_10] at hP hD
          obtain ⟨fW2, efW2⟩ : ∃ y : Nat → Int32, y = upd fW ((q_pl p1 k1).toNatClampNeg) x1 := ⟨_, rfl⟩
          rw [← efW2] at hP hD
          have hP : va_P (dC, dI) vw_cls [(a0, .inr (0, [.ref aM, .ref aR, .ref aW, .ref aF, .ref aS, .ref aKR])), (aS, .inr (6, [sv, .int go, .int ak, .int be, .long bw, .int pt, .int ln, .ref aSo])), (aW, .inl (cI, 9, .inl fW2))] H := hP
          have hD : va_D A [(a0, .inr (0, [.ref aM, .ref aR, .ref aW, .ref aF, .ref aS, .ref aKR])), (aS, .inr (6, [sv, .int go, .int ak, .int be, .long bw, .int pt, .int ln, .ref aSo])), (aW, .inl (cI, 9, .inl fW2))] := hD
          refine lv_iconst (v := 1) hx hb d_SettingSearch_worth_47 (by decide) ?_
          have hP9 := hP.sub (ws' := [(a0, .inr (0, [.ref aM, .ref aR, .ref aW, .ref aF, .ref aS, .ref aKR])), (aS, .inr (6, [sv, .int go, .int ak, .int be, .long bw, .int pt, .int ln, .ref aSo])), (aW, .inl (cI, 9, .inl fW2))]) [0, 1, 2] rfl
          have hD9 := hD.sub (ws' := [(a0, .inr (0, [.ref aM, .ref aR, .ref aW, .ref aF, .ref aS, .ref aKR])), (aS, .inr (6, [sv, .int go, .int ak, .int be, .long bw, .int pt, .int ln, .ref aSo])), (aW, .inl (cI, 9, .inl fW2))]) [0, 1, 2] (by decide) rfl
          have hpost_11 : ((go = 0 ∧ ¬ q_pl p1 k1 = -1 ∧ ¬ x1 < -1000 ∧ x1 ≤ 1000) ∧ (1 : Int32) = 1 ∧ fW2 = upd fW (q_pl p1 k1).toNatClampNeg x1) ∨ (¬ (go = 0 ∧ ¬ q_pl p1 k1 = -1 ∧ ¬ x1 < -1000 ∧ x1 ≤ 1000) ∧ (1 : Int32) = 0 ∧ fW2 = fW) := Or.inl ⟨hok, rfl, efW2⟩
          exact W.zret (v := 1) hx hb hr (rfl) (fun t ht hW => ⟨⟨1, fW2, rfl, hpost_11, by rw [ht]; exact hP9, hD9⟩, hS.F ht⟩) hS.2.2 d_SettingSearch_worth_48
        · skip
          have hbad : ¬ (go = 0 ∧ ¬ q_pl p1 k1 = -1 ∧ ¬ x1 < -1000 ∧ x1 ≤ 1000) := fun z => c_9 z.2.2.2
          refine lv_iconst (v := 0) hx hb d_SettingSearch_worth_37 (by decide) ?_
          have hP9 := hP.sub (ws' := [(a0, .inr (0, [.ref aM, .ref aR, .ref aW, .ref aF, .ref aS, .ref aKR])), (aS, .inr (6, [sv, .int go, .int ak, .int be, .long bw, .int pt, .int ln, .ref aSo])), (aW, .inl (cI, 9, .inl fW))]) [0, 1, 2] rfl
          have hD9 := hD.sub (ws' := [(a0, .inr (0, [.ref aM, .ref aR, .ref aW, .ref aF, .ref aS, .ref aKR])), (aS, .inr (6, [sv, .int go, .int ak, .int be, .long bw, .int pt, .int ln, .ref aSo])), (aW, .inl (cI, 9, .inl fW))]) [0, 1, 2] (by decide) rfl
          have hpost_12 : ((go = 0 ∧ ¬ q_pl p1 k1 = -1 ∧ ¬ x1 < -1000 ∧ x1 ≤ 1000) ∧ (0 : Int32) = 1 ∧ fW = upd fW (q_pl p1 k1).toNatClampNeg x1) ∨ (¬ (go = 0 ∧ ¬ q_pl p1 k1 = -1 ∧ ¬ x1 < -1000 ∧ x1 ≤ 1000) ∧ (0 : Int32) = 0 ∧ fW = fW) := Or.inr ⟨hbad, rfl, rfl⟩
          exact W.zret (v := 0) hx hb hr (rfl) (fun t ht hW => ⟨⟨0, fW, rfl, hpost_12, by rw [ht]; exact hP9, hD9⟩, hS.F ht⟩) hS.2.2 d_SettingSearch_worth_38
set_option maxHeartbeats 4000000 in
set_option maxRecDepth 100000 in
/-- purity -/
theorem f_purity (l : Launch) (dC : Nat → ClassId) (dI : Nat → Nat → Nat) (sz : Nat) (cI : ClassId) (cZ : ClassId) (cQ : ClassId) (a0 : Nat) (aM : Nat) (aR : Nat) (aW : Nat) (aF : Nat) (aS : Nat) (aKR : Nat) (aSo : Nat) (sv : Value) (go : Int32) (ak : Int32) (be : Int32) (bw : Int64) (pt : Int32) (ln : Int32) (aRp : Nat) (aRk : Nat) (aRa : Nat) (aRb : Nat) (aRl : Nat) (pu : Int32) (fPo : Nat → Int32) (fKi : Nat → Int32) (fAb : Nat → Int32) (fBe : Nat → Int32) (p1 : Int32) (k1 : Int32) (o1 : Int32) (u1 : Int32) (np : Nat) (hpu : pu = nI np) (hnp : np ≤ 4) : Met l y_SettingSearch_purity w_SettingSearch_purity ({ frames := 1, cells := 0, slots := 0, locals := 24 } : Room) (va_Pc [.ref a0, .int p1, .int k1, .int o1, .int u1] (fun U => U.heap.size = sz ∧ va_P (dC, dI) vw_cls [(a0, .inr (0, [.ref aM, .ref aR, .ref aW, .ref aF, .ref aS, .ref aKR])), (aS, .inr (6, [sv, .int go, .int ak, .int be, .long bw, .int pt, .int ln, .ref aSo])), (aR, .inr (5, [.int pu, .ref aRp, .ref aRk, .ref aRa, .ref aRb, .ref aRl])), (aRp, .inl (cI, 4, .inl fPo)), (aRk, .inl (cI, 4, .inl fKi)), (aRa, .inl (cI, 4, .inl fAb)), (aRb, .inl (cI, 4, .inl fBe))] U.heap ∧ g_K dC dI [(cI, .int), (cZ, .boolean), (cQ, (.object "SettingSearch$Answers"))] U ∧ va_D (fun _ => True) [(a0, .inr (0, [.ref aM, .ref aR, .ref aW, .ref aF, .ref aS, .ref aKR])), (aS, .inr (6, [sv, .int go, .int ak, .int be, .long bw, .int pt, .int ln, .ref aSo])), (aR, .inr (5, [.int pu, .ref aRp, .ref aRk, .ref aRa, .ref aRb, .ref aRl])), (aRp, .inl (cI, 4, .inl fPo)), (aRk, .inl (cI, 4, .inl fKi)), (aRa, .inl (cI, 4, .inl fAb)), (aRb, .inl (cI, 4, .inl fBe))])) (va_Qi (fun (r : Int32) (u : Int32 × (Nat → Int32) × (Nat → Int32) × (Nat → Int32) × (Nat → Int32)) => (go = 0 ∧ ¬ q_pl p1 k1 = -1 ∧ ((q_puOk pu o1 u1 ∧ r = pu ∧ u.1 = pu + 1 ∧ u.2.1 = upd fPo np p1 ∧ u.2.2.1 = upd fKi np k1 ∧ u.2.2.2.1 = upd fAb np o1 ∧ u.2.2.2.2 = upd fBe np u1) ∨ (¬ q_puOk pu o1 u1 ∧ r = -1 ∧ u.1 = pu ∧ u.2.1 = fPo ∧ u.2.2.1 = fKi ∧ u.2.2.2.1 = fAb ∧ u.2.2.2.2 = fBe))) ∨ ((¬ go = 0 ∨ q_pl p1 k1 = -1) ∧ r = -1 ∧ u.1 = pu ∧ u.2.1 = fPo ∧ u.2.2.1 = fKi ∧ u.2.2.2.1 = fAb ∧ u.2.2.2.2 = fBe)) (fun (u : Int32 × (Nat → Int32) × (Nat → Int32) × (Nat → Int32) × (Nat → Int32)) (t : State) => va_P (dC, dI) vw_cls [(a0, .inr (0, [.ref aM, .ref aR, .ref aW, .ref aF, .ref aS, .ref aKR])), (aS, .inr (6, [sv, .int go, .int ak, .int be, .long bw, .int pt, .int ln, .ref aSo])), (aR, .inr (5, [.int u.1, .ref aRp, .ref aRk, .ref aRa, .ref aRb, .ref aRl])), (aRp, .inl (cI, 4, .inl u.2.1)), (aRk, .inl (cI, 4, .inl u.2.2.1)), (aRa, .inl (cI, 4, .inl u.2.2.2.1)), (aRb, .inl (cI, 4, .inl u.2.2.2.2))] t.heap ∧ va_D (va_A [(a0, .inr (0, [.ref aM, .ref aR, .ref aW, .ref aF, .ref aS, .ref aKR])), (aS, .inr (6, [sv, .int go, .int ak, .int be, .long bw, .int pt, .int ln, .ref aSo])), (aR, .inr (5, [.int pu, .ref aRp, .ref aRk, .ref aRa, .ref aRb, .ref aRl])), (aRp, .inl (cI, 4, .inl fPo)), (aRk, .inl (cI, 4, .inl fKi)), (aRa, .inl (cI, 4, .inl fAb)), (aRb, .inl (cI, 4, .inl fBe))] sz) [(a0, .inr (0, [.ref aM, .ref aR, .ref aW, .ref aF, .ref aS, .ref aKR])), (aS, .inr (6, [sv, .int go, .int ak, .int be, .long bw, .int pt, .int ln, .ref aSo])), (aR, .inr (5, [.int u.1, .ref aRp, .ref aRk, .ref aRa, .ref aRb, .ref aRl])), (aRp, .inl (cI, 4, .inl u.2.1)), (aRk, .inl (cI, 4, .inl u.2.2.1)), (aRa, .inl (cI, 4, .inl u.2.2.2.1)), (aRb, .inl (cI, 4, .inl u.2.2.2.2))]) (va_A [(a0, .inr (0, [.ref aM, .ref aR, .ref aW, .ref aF, .ref aS, .ref aKR])), (aS, .inr (6, [sv, .int go, .int ak, .int be, .long bw, .int pt, .int ln, .ref aSo])), (aR, .inr (5, [.int pu, .ref aRp, .ref aRk, .ref aRa, .ref aRb, .ref aRl])), (aRp, .inl (cI, 4, .inl fPo)), (aRk, .inl (cI, 4, .inl fKi)), (aRa, .inl (cI, 4, .inl fAb)), (aRb, .inl (cI, 4, .inl fBe))] sz)) 0 0 (va_A [(a0, .inr (0, [.ref aM, .ref aR, .ref aW, .ref aF, .ref aS, .ref aKR])), (aS, .inr (6, [sv, .int go, .int ak, .int be, .long bw, .int pt, .int ln, .ref aSo])), (aR, .inr (5, [.int pu, .ref aRp, .ref aRk, .ref aRa, .ref aRb, .ref aRl])), (aRp, .inl (cI, 4, .inl fPo)), (aRk, .inl (cI, 4, .inl fKi)), (aRa, .inl (cI, 4, .inl fAb)), (aRb, .inl (cI, 4, .inl fBe))] sz) := by
  refine Met.ofW (cc := b_SettingSearch_purity) (maxL := 5) (ret := (some .int)) (by decide) rfl ?_
  intro p e s m args below meth c s₁ B hml hv
  obtain ⟨rfl, hsz, hP, hKN, hD0⟩ := hv
  obtain ⟨hK, hN⟩ := id hKN
  have hx := B.exec
  have hb := B.bytes
  have hr := B.returns
  have hts0 := atoms_spec (ws := w_SettingSearch_purity) B.pre
  have hts : ∀ w ∈ lw_g, w.before _ s = true := fun w h => hts0 w (List.mem_cons_of_mem _ h)
  have hown : s.vm.findClass R_SettingSearch = some m.cls := findClass_of_methodNamed B.named
  have hlocks := B.notSynchronized
  subst hsz
  have hD := hD0.self (sz := s.heap.size)
  generalize hAe : va_A [(a0, .inr (0, [.ref aM, .ref aR, .ref aW, .ref aF, .ref aS, .ref aKR])), (aS, .inr (6, [sv, .int go, .int ak, .int be, .long bw, .int pt, .int ln, .ref aSo])), (aR, .inr (5, [.int pu, .ref aRp, .ref aRk, .ref aRa, .ref aRb, .ref aRl])), (aRp, .inl (cI, 4, .inl fPo)), (aRk, .inl (cI, 4, .inl fKi)), (aRa, .inl (cI, 4, .inl fAb)), (aRb, .inl (cI, 4, .inl fBe))] s.heap.size = A at hD ⊢
  have hA : ∀ q : Nat, s.heap.size ≤ q → A q := fun q h => by rw [← hAe]; exact Or.inr h
  have hP : va_P (dC, dI) vw_cls [(a0, .inr (0, [.ref aM, .ref aR, .ref aW, .ref aF, .ref aS, .ref aKR])), (aS, .inr (6, [sv, .int go, .int ak, .int be, .long bw, .int pt, .int ln, .ref aSo])), (aR, .inr (5, [.int pu, .ref aRp, .ref aRk, .ref aRa, .ref aRb, .ref aRl])), (aRp, .inl (cI, 4, .inl fPo)), (aRk, .inl (cI, 4, .inl fKi)), (aRa, .inl (cI, 4, .inl fAb)), (aRb, .inl (cI, 4, .inl fBe))] s.heap := hP
  have hl := lv_entry ([.ref a0, .int p1, .int k1, .int o1, .int u1]) (n := 5) (Nat.le_of_ble_eq_true rfl)
  rw [lg_entry_eq]
  generalize (lg_sl ([.ref a0, .int p1, .int k1, .int o1, .int u1]) ++ List.replicate (5 - (lg_sl ([.ref a0, .int p1, .int k1, .int o1, .int u1])).length) Slot.unset).toArray = ls at hl ⊢
  have hl : lv_has ls 5 [(0, .ref a0), (1, .int p1), (2, .int k1), (3, .int o1), (4, .int u1)] := hl
  refine gw_start (fun H locs hH hlocs => ?_)
  rw [← hH] at hP
  have hS : va_S A s.heap H locs := by rw [hH, hlocs]; exact va_S.rf
  refine lv_aload_n hx hb d_SettingSearch_purity_0 rfl (lv_at hl 0 rfl) ?_
  refine va_get (D := (dC, dI)) (ci := 0) (v := .ref aS) (C := R_SettingSearch) (T := T_SettingSearch) (N := 6) hx hb hts in_SettingSearch hown hK hP 0 rfl rfl 4 (by decide) (hts _ tw_183) (fun _ h9 => h9) rfl d_SettingSearch_purity_1 ?_
  refine va_getN (D := (dC, dI)) (ci := 6) (v := .int go) (C := R_Search) (T := T_Search) (N := 8) hx hb hts in_Search hown hK hP 1 rfl rfl 1 (by decide) (g_Nu hN (List.mem_of_getElem? (i := 8) rfl)) (fun _ h9 => h9) rfl d_SettingSearch_purity_4 ?_
  refine lv_if_ne (tgt := 19) hx hb d_SettingSearch_purity_7 (by decide) (fun c_1 => ?_) (fun c_1 => ?_)
  · skip
    have cg : ¬ go = 0 := c_1
    refine lv_iconst (v := (-1)) hx hb d_SettingSearch_purity_19 (by decide) ?_
    have hP9 := hP.sub (ws' := [(a0, .inr (0, [.ref aM, .ref aR, .ref aW, .ref aF, .ref aS, .ref aKR])), (aS, .inr (6, [sv, .int go, .int ak, .int be, .long bw, .int pt, .int ln, .ref aSo])), (aR, .inr (5, [.int pu, .ref aRp, .ref aRk, .ref aRa, .ref aRb, .ref aRl])), (aRp, .inl (cI, 4, .inl fPo)), (aRk, .inl (cI, 4, .inl fKi)), (aRa, .inl (cI, 4, .inl fAb)), (aRb, .inl (cI, 4, .inl fBe))]) [0, 1, 2, 3, 4, 5, 6] rfl
    have hD9 := hD.sub (ws' := [(a0, .inr (0, [.ref aM, .ref aR, .ref aW, .ref aF, .ref aS, .ref aKR])), (aS, .inr (6, [sv, .int go, .int ak, .int be, .long bw, .int pt, .int ln, .ref aSo])), (aR, .inr (5, [.int pu, .ref aRp, .ref aRk, .ref aRa, .ref aRb, .ref aRl])), (aRp, .inl (cI, 4, .inl fPo)), (aRk, .inl (cI, 4, .inl fKi)), (aRa, .inl (cI, 4, .inl fAb)), (aRb, .inl (cI, 4, .inl fBe))]) [0, 1, 2, 3, 4, 5, 6] (by decide) rfl
    have hpost_2 : (go = 0 ∧ ¬ q_pl p1 k1 = -1 ∧ ((q_puOk pu o1 u1 ∧ ((-1) : Int32) = pu ∧ pu = pu + 1 ∧ fPo = upd fPo np p1 ∧ fKi = upd fKi np k1 ∧ fAb = upd fAb np o1 ∧ fBe = upd fBe np u1) ∨ (¬ q_puOk pu o1 u1 ∧ ((-1) : Int32) = -1 ∧ pu = pu ∧ fPo = fPo ∧ fKi = fKi ∧ fAb = fAb ∧ fBe = fBe))) ∨ ((¬ go = 0 ∨ q_pl p1 k1 = -1) ∧ ((-1) : Int32) = -1 ∧ pu = pu ∧ fPo = fPo ∧ fKi = fKi ∧ fAb = fAb ∧ fBe = fBe) := Or.inr ⟨by first | exact Or.inl cg | exact Or.inr cp, rfl, rfl, rfl, rfl, rfl, rfl⟩
    exact W.iret (v := (-1)) hx hb hr (fun t ht hW => ⟨⟨(-1), (pu, fPo, fKi, fAb, fBe), rfl, hpost_2, by rw [ht]; exact hP9, hD9⟩, hS.F ht⟩) hS.2.2 d_SettingSearch_purity_20
  · skip
    have cg : go = 0 := c_1
    refine lv_iload_n hx hb d_SettingSearch_purity_10 rfl (lv_at hl 1 rfl) ?_
    refine lv_iload_n hx hb d_SettingSearch_purity_11 rfl (lv_at hl 2 rfl) ?_
    have hPc := hP.sub (ws' := []) [] rfl
    have hDc := hD.sub (ws' := []) [] (by decide) rfl
    have hFc := va_free (wc := []) hD hS hA [] rfl
    refine va_calli (va_runS (As := [.int p1, .int k1]) (rest := []) ⟨hx, hb, hml, hown, hts⟩ (k_pl l dC dI H.size cI cZ cQ p1 k1 ) ⟨(callB_of 2 hts (ga_all tw_221) rfl rfl rfl (hts _ tw_22) (hts _ tw_219) (by decide +kernel) ⟨Nat.le_of_ble_eq_true rfl, Nat.le_of_ble_eq_true rfl⟩), hts _ tw_220⟩ ⟨fun a U g mk q => by obtain ⟨q0, q1, qP, qK, qD⟩ := q; exact ⟨q0, q1, qP, g_K.same (u := U) (U := U.calling g mk a) rfl qK, qD⟩, fun U hU hW => ⟨rfl, by rw [hU], by rw [hU]; exact hPc, g_K.warm hW hKN, hDc.weaken (fun _ _ _ _ => trivial)⟩⟩ rfl rfl hl.1 rfl (lv_room (Nat.le_of_ble_eq_true rfl)) d_SettingSearch_purity_12 ⟨Nat.le_of_ble_eq_true rfl, Nat.le_of_ble_eq_true rfl⟩) hS (fun q _ h => hFc q h) hFc (fun r_3 u t H1 locs htt hvm hw_4 hBB hzz hkk hS => ?_)
    have hw_4 : r_3 = q_pl p1 k1 := hw_4
    obtain ⟨hPP, hDD⟩ := hBB
    rw [htt] at hPP
    have hPP : va_P (dC, dI) vw_cls [] H1 := hPP
    have hDD : va_D (va_A [] H.size) [] := hDD
    obtain ⟨hP, hD⟩ := va_join (wr := [(a0, .inr (0, [.ref aM, .ref aR, .ref aW, .ref aF, .ref aS, .ref aKR])), (aS, .inr (6, [sv, .int go, .int ak, .int be, .long bw, .int pt, .int ln, .ref aSo])), (aR, .inr (5, [.int pu, .ref aRp, .ref aRk, .ref aRa, .ref aRb, .ref aRl])), (aRp, .inl (cI, 4, .inl fPo)), (aRk, .inl (cI, 4, .inl fKi)), (aRa, .inl (cI, 4, .inl fAb)), (aRb, .inl (cI, 4, .inl fBe))]) (w1 := []) hP hD [] [0, 1, 2, 3, 4, 5, 6] rfl rfl (by decide) (by decide) hkk hFc hPP hDD
    generalize H1 = H at hP hS ⊢
    have hP : va_P (dC, dI) vw_cls [(a0, .inr (0, [.ref aM, .ref aR, .ref aW, .ref aF, .ref aS, .ref aKR])), (aS, .inr (6, [sv, .int go, .int ak, .int be, .long bw, .int pt, .int ln, .ref aSo])), (aR, .inr (5, [.int pu, .ref aRp, .ref aRk, .ref aRa, .ref aRb, .ref aRl])), (aRp, .inl (cI, 4, .inl fPo)), (aRk, .inl (cI, 4, .inl fKi)), (aRa, .inl (cI, 4, .inl fAb)), (aRb, .inl (cI, 4, .inl fBe))] H := hP
    have hD : va_D A [(a0, .inr (0, [.ref aM, .ref aR, .ref aW, .ref aF, .ref aS, .ref aKR])), (aS, .inr (6, [sv, .int go, .int ak, .int be, .long bw, .int pt, .int ln, .ref aSo])), (aR, .inr (5, [.int pu, .ref aRp, .ref aRk, .ref aRa, .ref aRb, .ref aRl])), (aRp, .inl (cI, 4, .inl fPo)), (aRk, .inl (cI, 4, .inl fKi)), (aRa, .inl (cI, 4, .inl fAb)), (aRb, .inl (cI, 4, .inl fBe))] := hD
    refine lv_iconst (v := (-1)) hx hb d_SettingSearch_purity_15 (by decide) ?_
    refine lv_icmp_ne (tgt := 21) hx hb d_SettingSearch_purity_16 (by decide) (fun c_5 => ?_) (fun c_5 => ?_)
    · skip
      have cp : ¬ q_pl p1 k1 = -1 := by rw [← hw_4]; exact c_5
      refine lv_aload_n hx hb d_SettingSearch_purity_21 rfl (lv_at hl 0 rfl) ?_
      refine va_get (D := (dC, dI)) (ci := 0) (v := .ref aR) (C := R_SettingSearch) (T := T_SettingSearch) (N := 6) hx hb hts in_SettingSearch hown hK hP 0 rfl rfl 1 (by decide) (hts _ tw_180) (fun _ h9 => h9) rfl d_SettingSearch_purity_22 ?_
      refine lv_iload_n hx hb d_SettingSearch_purity_25 rfl (lv_at hl 1 rfl) ?_
      refine lv_iload_n hx hb d_SettingSearch_purity_26 rfl (lv_at hl 2 rfl) ?_
      refine lv_iload_n hx hb d_SettingSearch_purity_27 rfl (lv_at hl 3 rfl) ?_
      refine lv_iload hx hb d_SettingSearch_purity_28 (lv_at hl 4 rfl) ?_
      have hPc := hP.sub (ws' := [(aR, .inr (5, [.int pu, .ref aRp, .ref aRk, .ref aRa, .ref aRb, .ref aRl])), (aRp, .inl (cI, 4, .inl fPo)), (aRk, .inl (cI, 4, .inl fKi)), (aRa, .inl (cI, 4, .inl fAb)), (aRb, .inl (cI, 4, .inl fBe))]) [2, 3, 4, 5, 6] rfl
      have hDc := hD.sub (ws' := [(aR, .inr (5, [.int pu, .ref aRp, .ref aRk, .ref aRa, .ref aRb, .ref aRl])), (aRp, .inl (cI, 4, .inl fPo)), (aRk, .inl (cI, 4, .inl fKi)), (aRa, .inl (cI, 4, .inl fAb)), (aRb, .inl (cI, 4, .inl fBe))]) [2, 3, 4, 5, 6] (by decide) rfl
      have hFc := va_free (wc := [(aR, .inr (5, [.int pu, .ref aRp, .ref aRk, .ref aRa, .ref aRb, .ref aRl])), (aRp, .inl (cI, 4, .inl fPo)), (aRk, .inl (cI, 4, .inl fKi)), (aRa, .inl (cI, 4, .inl fAb)), (aRb, .inl (cI, 4, .inl fBe))]) hD hS hA [2, 3, 4, 5, 6] rfl
      refine va_calli (va_runV (As := [.int p1, .int k1, .int o1, .int u1]) (rest := []) ⟨hx, hb, hml, hown, hts⟩ (k_ap l dC dI H.size cI cZ cQ aR aRp aRk aRa aRb aRl pu fPo fKi fAb fBe p1 k1 o1 u1 np hpu hnp) ⟨(callB_of 4 hts (ga_all tw_229) rfl rfl rfl (hts _ tw_24) (hts _ tw_226) (by decide +kernel) ⟨Nat.le_of_ble_eq_true rfl, Nat.le_of_ble_eq_true rfl⟩), hts _ tw_227, hts _ tw_228⟩ ⟨fun a U g mk q => by obtain ⟨q0, q1, qP, qK, qD⟩ := q; exact ⟨q0, q1, qP, g_K.same (u := U) (U := U.calling g mk a) rfl qK, qD⟩, va_recv hK hPc (ci := 5) (q0 := 0) rfl rfl, fun U hU hW => ⟨rfl, by rw [hU], by rw [hU]; exact hPc, g_K.warm hW hKN, hDc.weaken (fun _ _ _ _ => trivial)⟩⟩ rfl rfl hl.1 rfl (lv_room (Nat.le_of_ble_eq_true rfl)) d_SettingSearch_purity_30 ⟨Nat.le_of_ble_eq_true rfl, Nat.le_of_ble_eq_true rfl⟩) hS (fun q _ h => hFc q h) hFc (fun r_6 u t H1 locs htt hvm hw_7 hBB hzz hkk hS => ?_)
      obtain ⟨pu2_8, fPo2_9, fKi2_10, fAb2_11, fBe2_12⟩ := u
      have hw_7 : (q_puOk pu o1 u1 ∧ r_6 = pu ∧ pu2_8 = pu + 1 ∧ fPo2_9 = upd fPo np p1 ∧ fKi2_10 = upd fKi np k1 ∧ fAb2_11 = upd fAb np o1 ∧ fBe2_12 = upd fBe np u1) ∨ (¬ q_puOk pu o1 u1 ∧ r_6 = -1 ∧ pu2_8 = pu ∧ fPo2_9 = fPo ∧ fKi2_10 = fKi ∧ fAb2_11 = fAb ∧ fBe2_12 = fBe) := hw_7
      obtain ⟨hPP, hDD⟩ := hBB
      rw [htt] at hPP
      have hPP : va_P (dC, dI) vw_cls [(aR, .inr (5, [.int pu2_8, .ref aRp, .ref aRk, .ref aRa, .ref aRb, .ref aRl])), (aRp, .inl (cI, 4, .inl fPo2_9)), (aRk, .inl (cI, 4, .inl fKi2_10)), (aRa, .inl (cI, 4, .inl fAb2_11)), (aRb, .inl (cI, 4, .inl fBe2_12))] H1 := hPP
      have hDD : va_D (va_A [(aR, .inr (5, [.int pu, .ref aRp, .ref aRk, .ref aRa, .ref aRb, .ref aRl])), (aRp, .inl (cI, 4, .inl fPo)), (aRk, .inl (cI, 4, .inl fKi)), (aRa, .inl (cI, 4, .inl fAb)), (aRb, .inl (cI, 4, .inl fBe))] H.size) [(aR, .inr (5, [.int pu2_8, .ref aRp, .ref aRk, .ref aRa, .ref aRb, .ref aRl])), (aRp, .inl (cI, 4, .inl fPo2_9)), (aRk, .inl (cI, 4, .inl fKi2_10)), (aRa, .inl (cI, 4, .inl fAb2_11)), (aRb, .inl (cI, 4, .inl fBe2_12))] := hDD
      obtain ⟨hP, hD⟩ := va_join (wr := [(a0, .inr (0, [.ref aM, .ref aR, .ref aW, .ref aF, .ref aS, .ref aKR])), (aS, .inr (6, [sv, .int go, .int ak, .int be, .long bw, .int pt, .int ln, .ref aSo]))]) (w1 := [(aR, .inr (5, [.int pu2_8, .ref aRp, .ref aRk, .ref aRa, .ref aRb, .ref aRl])), (aRp, .inl (cI, 4, .inl fPo2_9)), (aRk, .inl (cI, 4, .inl fKi2_10)), (aRa, .inl (cI, 4, .inl fAb2_11)), (aRb, .inl (cI, 4, .inl fBe2_12))]) hP hD [2, 3, 4, 5, 6] [0, 1] rfl rfl (by decide) (by decide) hkk hFc hPP hDD
      generalize H1 = H at hP hS ⊢
      have hP : va_P (dC, dI) vw_cls [(a0, .inr (0, [.ref aM, .ref aR, .ref aW, .ref aF, .ref aS, .ref aKR])), (aS, .inr (6, [sv, .int go, .int ak, .int be, .long bw, .int pt, .int ln, .ref aSo])), (aR, .inr (5, [.int pu2_8, .ref aRp, .ref aRk, .ref aRa, .ref aRb, .ref aRl])), (aRp, .inl (cI, 4, .inl fPo2_9)), (aRk, .inl (cI, 4, .inl fKi2_10)), (aRa, .inl (cI, 4, .inl fAb2_11)), (aRb, .inl (cI, 4, .inl fBe2_12))] H := hP
      have hD : va_D A [(a0, .inr (0, [.ref aM, .ref aR, .ref aW, .ref aF, .ref aS, .ref aKR])), (aS, .inr (6, [sv, .int go, .int ak, .int be, .long bw, .int pt, .int ln, .ref aSo])), (aR, .inr (5, [.int pu2_8, .ref aRp, .ref aRk, .ref aRa, .ref aRb, .ref aRl])), (aRp, .inl (cI, 4, .inl fPo2_9)), (aRk, .inl (cI, 4, .inl fKi2_10)), (aRa, .inl (cI, 4, .inl fAb2_11)), (aRb, .inl (cI, 4, .inl fBe2_12))] := hD
      have hP9 := hP.sub (ws' := [(a0, .inr (0, [.ref aM, .ref aR, .ref aW, .ref aF, .ref aS, .ref aKR])), (aS, .inr (6, [sv, .int go, .int ak, .int be, .long bw, .int pt, .int ln, .ref aSo])), (aR, .inr (5, [.int pu2_8, .ref aRp, .ref aRk, .ref aRa, .ref aRb, .ref aRl])), (aRp, .inl (cI, 4, .inl fPo2_9)), (aRk, .inl (cI, 4, .inl fKi2_10)), (aRa, .inl (cI, 4, .inl fAb2_11)), (aRb, .inl (cI, 4, .inl fBe2_12))]) [0, 1, 2, 3, 4, 5, 6] rfl
      have hD9 := hD.sub (ws' := [(a0, .inr (0, [.ref aM, .ref aR, .ref aW, .ref aF, .ref aS, .ref aKR])), (aS, .inr (6, [sv, .int go, .int ak, .int be, .long bw, .int pt, .int ln, .ref aSo])), (aR, .inr (5, [.int pu2_8, .ref aRp, .ref aRk, .ref aRa, .ref aRb, .ref aRl])), (aRp, .inl (cI, 4, .inl fPo2_9)), (aRk, .inl (cI, 4, .inl fKi2_10)), (aRa, .inl (cI, 4, .inl fAb2_11)), (aRb, .inl (cI, 4, .inl fBe2_12))]) [0, 1, 2, 3, 4, 5, 6] (by decide) rfl
      have hpost_13 : (go = 0 ∧ ¬ q_pl p1 k1 = -1 ∧ ((q_puOk pu o1 u1 ∧ (r_6 : Int32) = pu ∧ pu2_8 = pu + 1 ∧ fPo2_9 = upd fPo np p1 ∧ fKi2_10 = upd fKi np k1 ∧ fAb2_11 = upd fAb np o1 ∧ fBe2_12 = upd fBe np u1) ∨ (¬ q_puOk pu o1 u1 ∧ (r_6 : Int32) = -1 ∧ pu2_8 = pu ∧ fPo2_9 = fPo ∧ fKi2_10 = fKi ∧ fAb2_11 = fAb ∧ fBe2_12 = fBe))) ∨ ((¬ go = 0 ∨ q_pl p1 k1 = -1) ∧ (r_6 : Int32) = -1 ∧ pu2_8 = pu ∧ fPo2_9 = fPo ∧ fKi2_10 = fKi ∧ fAb2_11 = fAb ∧ fBe2_12 = fBe) := Or.inl ⟨cg, cp, hw_7⟩
      exact W.iret (v := r_6) hx hb hr (fun t ht hW => ⟨⟨r_6, (pu2_8, fPo2_9, fKi2_10, fAb2_11, fBe2_12), rfl, hpost_13, by rw [ht]; exact hP9, hD9⟩, hS.F ht⟩) hS.2.2 d_SettingSearch_purity_33
    · skip
      have cp : q_pl p1 k1 = -1 := by rw [← hw_4]; exact c_5
      refine lv_iconst (v := (-1)) hx hb d_SettingSearch_purity_19 (by decide) ?_
      have hP9 := hP.sub (ws' := [(a0, .inr (0, [.ref aM, .ref aR, .ref aW, .ref aF, .ref aS, .ref aKR])), (aS, .inr (6, [sv, .int go, .int ak, .int be, .long bw, .int pt, .int ln, .ref aSo])), (aR, .inr (5, [.int pu, .ref aRp, .ref aRk, .ref aRa, .ref aRb, .ref aRl])), (aRp, .inl (cI, 4, .inl fPo)), (aRk, .inl (cI, 4, .inl fKi)), (aRa, .inl (cI, 4, .inl fAb)), (aRb, .inl (cI, 4, .inl fBe))]) [0, 1, 2, 3, 4, 5, 6] rfl
      have hD9 := hD.sub (ws' := [(a0, .inr (0, [.ref aM, .ref aR, .ref aW, .ref aF, .ref aS, .ref aKR])), (aS, .inr (6, [sv, .int go, .int ak, .int be, .long bw, .int pt, .int ln, .ref aSo])), (aR, .inr (5, [.int pu, .ref aRp, .ref aRk, .ref aRa, .ref aRb, .ref aRl])), (aRp, .inl (cI, 4, .inl fPo)), (aRk, .inl (cI, 4, .inl fKi)), (aRa, .inl (cI, 4, .inl fAb)), (aRb, .inl (cI, 4, .inl fBe))]) [0, 1, 2, 3, 4, 5, 6] (by decide) rfl
      have hpost_14 : (go = 0 ∧ ¬ q_pl p1 k1 = -1 ∧ ((q_puOk pu o1 u1 ∧ ((-1) : Int32) = pu ∧ pu = pu + 1 ∧ fPo = upd fPo np p1 ∧ fKi = upd fKi np k1 ∧ fAb = upd fAb np o1 ∧ fBe = upd fBe np u1) ∨ (¬ q_puOk pu o1 u1 ∧ ((-1) : Int32) = -1 ∧ pu = pu ∧ fPo = fPo ∧ fKi = fKi ∧ fAb = fAb ∧ fBe = fBe))) ∨ ((¬ go = 0 ∨ q_pl p1 k1 = -1) ∧ ((-1) : Int32) = -1 ∧ pu = pu ∧ fPo = fPo ∧ fKi = fKi ∧ fAb = fAb ∧ fBe = fBe) := Or.inr ⟨by first | exact Or.inl cg | exact Or.inr cp, rfl, rfl, rfl, rfl, rfl, rfl⟩
      exact W.iret (v := (-1)) hx hb hr (fun t ht hW => ⟨⟨(-1), (pu, fPo, fKi, fAb, fBe), rfl, hpost_14, by rw [ht]; exact hP9, hD9⟩, hS.F ht⟩) hS.2.2 d_SettingSearch_purity_20
set_option maxHeartbeats 4000000 in
set_option maxRecDepth 100000 in
/-- most -/
theorem f_most (l : Launch) (dC : Nat → ClassId) (dI : Nat → Nat → Nat) (sz : Nat) (cI : ClassId) (cZ : ClassId) (cQ : ClassId) (a0 : Nat) (aM : Nat) (aR : Nat) (aW : Nat) (aF : Nat) (aS : Nat) (aKR : Nat) (aSo : Nat) (sv : Value) (go : Int32) (ak : Int32) (be : Int32) (bw : Int64) (pt : Int32) (ln : Int32) (aMS : Nat) (aMC : Nat) (aMT : Nat) (cnt : Int32) (vec : Int32) (aRp : Nat) (aRk : Nat) (aRa : Nat) (aRb : Nat) (aRl : Nat) (pu : Int32) (fM : Nat → Int32) (m1 : Int32) (x1 : Int32) (nc : Nat) (hcnt : cnt = nI nc) (hnc : nc ≤ 5) : Met l y_SettingSearch_most w_SettingSearch_most ({ frames := 1, cells := 0, slots := 0, locals := 21 } : Room) (va_Pc [.ref a0, .int m1, .int x1] (fun U => U.heap.size = sz ∧ va_P (dC, dI) vw_cls [(a0, .inr (0, [.ref aM, .ref aR, .ref aW, .ref aF, .ref aS, .ref aKR])), (aS, .inr (6, [sv, .int go, .int ak, .int be, .long bw, .int pt, .int ln, .ref aSo])), (aM, .inr (4, [.int cnt, .int vec, .ref aMS, .ref aMC, .ref aMT])), (aR, .inr (5, [.int pu, .ref aRp, .ref aRk, .ref aRa, .ref aRb, .ref aRl])), (aRl, .inl (cI, 5, .inl fM))] U.heap ∧ g_K dC dI [(cI, .int), (cZ, .boolean), (cQ, (.object "SettingSearch$Answers"))] U ∧ va_D (fun _ => True) [(a0, .inr (0, [.ref aM, .ref aR, .ref aW, .ref aF, .ref aS, .ref aKR])), (aS, .inr (6, [sv, .int go, .int ak, .int be, .long bw, .int pt, .int ln, .ref aSo])), (aM, .inr (4, [.int cnt, .int vec, .ref aMS, .ref aMC, .ref aMT])), (aR, .inr (5, [.int pu, .ref aRp, .ref aRk, .ref aRa, .ref aRb, .ref aRl])), (aRl, .inl (cI, 5, .inl fM))])) (va_Qi (fun (r : Int32) (u : (Nat → Int32)) => ((go = 0 ∧ ¬ m1 < 0 ∧ ¬ cnt ≤ m1 ∧ ¬ x1 < -1 ∧ x1 ≤ 1000000) ∧ r = 1 ∧ u = upd fM m1.toNatClampNeg x1) ∨ (¬ (go = 0 ∧ ¬ m1 < 0 ∧ ¬ cnt ≤ m1 ∧ ¬ x1 < -1 ∧ x1 ≤ 1000000) ∧ r = 0 ∧ u = fM)) (fun (u : (Nat → Int32)) (t : State) => va_P (dC, dI) vw_cls [(a0, .inr (0, [.ref aM, .ref aR, .ref aW, .ref aF, .ref aS, .ref aKR])), (aS, .inr (6, [sv, .int go, .int ak, .int be, .long bw, .int pt, .int ln, .ref aSo])), (aM, .inr (4, [.int cnt, .int vec, .ref aMS, .ref aMC, .ref aMT])), (aR, .inr (5, [.int pu, .ref aRp, .ref aRk, .ref aRa, .ref aRb, .ref aRl])), (aRl, .inl (cI, 5, .inl u))] t.heap ∧ va_D (va_A [(a0, .inr (0, [.ref aM, .ref aR, .ref aW, .ref aF, .ref aS, .ref aKR])), (aS, .inr (6, [sv, .int go, .int ak, .int be, .long bw, .int pt, .int ln, .ref aSo])), (aM, .inr (4, [.int cnt, .int vec, .ref aMS, .ref aMC, .ref aMT])), (aR, .inr (5, [.int pu, .ref aRp, .ref aRk, .ref aRa, .ref aRb, .ref aRl])), (aRl, .inl (cI, 5, .inl fM))] sz) [(a0, .inr (0, [.ref aM, .ref aR, .ref aW, .ref aF, .ref aS, .ref aKR])), (aS, .inr (6, [sv, .int go, .int ak, .int be, .long bw, .int pt, .int ln, .ref aSo])), (aM, .inr (4, [.int cnt, .int vec, .ref aMS, .ref aMC, .ref aMT])), (aR, .inr (5, [.int pu, .ref aRp, .ref aRk, .ref aRa, .ref aRb, .ref aRl])), (aRl, .inl (cI, 5, .inl u))]) (va_A [(a0, .inr (0, [.ref aM, .ref aR, .ref aW, .ref aF, .ref aS, .ref aKR])), (aS, .inr (6, [sv, .int go, .int ak, .int be, .long bw, .int pt, .int ln, .ref aSo])), (aM, .inr (4, [.int cnt, .int vec, .ref aMS, .ref aMC, .ref aMT])), (aR, .inr (5, [.int pu, .ref aRp, .ref aRk, .ref aRa, .ref aRb, .ref aRl])), (aRl, .inl (cI, 5, .inl fM))] sz)) 0 0 (va_A [(a0, .inr (0, [.ref aM, .ref aR, .ref aW, .ref aF, .ref aS, .ref aKR])), (aS, .inr (6, [sv, .int go, .int ak, .int be, .long bw, .int pt, .int ln, .ref aSo])), (aM, .inr (4, [.int cnt, .int vec, .ref aMS, .ref aMC, .ref aMT])), (aR, .inr (5, [.int pu, .ref aRp, .ref aRk, .ref aRa, .ref aRb, .ref aRl])), (aRl, .inl (cI, 5, .inl fM))] sz) := by
  refine Met.ofW (cc := b_SettingSearch_most) (maxL := 3) (ret := (some .boolean)) (by decide) rfl ?_
  intro p e s m args below meth c s₁ B hml hv
  obtain ⟨rfl, hsz, hP, hKN, hD0⟩ := hv
  obtain ⟨hK, hN⟩ := id hKN
  have hx := B.exec
  have hb := B.bytes
  have hr := B.returns
  have hts0 := atoms_spec (ws := w_SettingSearch_most) B.pre
  have hts : ∀ w ∈ lw_g, w.before _ s = true := fun w h => hts0 w (List.mem_cons_of_mem _ h)
  have hown : s.vm.findClass R_SettingSearch = some m.cls := findClass_of_methodNamed B.named
  have hlocks := B.notSynchronized
  subst hsz
  have hD := hD0.self (sz := s.heap.size)
  generalize hAe : va_A [(a0, .inr (0, [.ref aM, .ref aR, .ref aW, .ref aF, .ref aS, .ref aKR])), (aS, .inr (6, [sv, .int go, .int ak, .int be, .long bw, .int pt, .int ln, .ref aSo])), (aM, .inr (4, [.int cnt, .int vec, .ref aMS, .ref aMC, .ref aMT])), (aR, .inr (5, [.int pu, .ref aRp, .ref aRk, .ref aRa, .ref aRb, .ref aRl])), (aRl, .inl (cI, 5, .inl fM))] s.heap.size = A at hD ⊢
  have hA : ∀ q : Nat, s.heap.size ≤ q → A q := fun q h => by rw [← hAe]; exact Or.inr h
  have hP : va_P (dC, dI) vw_cls [(a0, .inr (0, [.ref aM, .ref aR, .ref aW, .ref aF, .ref aS, .ref aKR])), (aS, .inr (6, [sv, .int go, .int ak, .int be, .long bw, .int pt, .int ln, .ref aSo])), (aM, .inr (4, [.int cnt, .int vec, .ref aMS, .ref aMC, .ref aMT])), (aR, .inr (5, [.int pu, .ref aRp, .ref aRk, .ref aRa, .ref aRb, .ref aRl])), (aRl, .inl (cI, 5, .inl fM))] s.heap := hP
  have hl := lv_entry ([.ref a0, .int m1, .int x1]) (n := 3) (Nat.le_of_ble_eq_true rfl)
  rw [lg_entry_eq]
  generalize (lg_sl ([.ref a0, .int m1, .int x1]) ++ List.replicate (3 - (lg_sl ([.ref a0, .int m1, .int x1])).length) Slot.unset).toArray = ls at hl ⊢
  have hl : lv_has ls 3 [(0, .ref a0), (1, .int m1), (2, .int x1)] := hl
  refine gw_start (fun H locs hH hlocs => ?_)
  rw [← hH] at hP
  have hS : va_S A s.heap H locs := by rw [hH, hlocs]; exact va_S.rf
  refine lv_aload_n hx hb d_SettingSearch_most_0 rfl (lv_at hl 0 rfl) ?_
  refine va_get (D := (dC, dI)) (ci := 0) (v := .ref aS) (C := R_SettingSearch) (T := T_SettingSearch) (N := 6) hx hb hts in_SettingSearch hown hK hP 0 rfl rfl 4 (by decide) (hts _ tw_183) (fun _ h9 => h9) rfl d_SettingSearch_most_1 ?_
  refine va_getN (D := (dC, dI)) (ci := 6) (v := .int go) (C := R_Search) (T := T_Search) (N := 8) hx hb hts in_Search hown hK hP 1 rfl rfl 1 (by decide) (g_Nu hN (List.mem_of_getElem? (i := 8) rfl)) (fun _ h9 => h9) rfl d_SettingSearch_most_4 ?_
  refine lv_if_ne (tgt := 32) hx hb d_SettingSearch_most_7 (by decide) (fun c_1 => ?_) (fun c_1 => ?_)
  · skip
    have hbad : ¬ (go = 0 ∧ ¬ m1 < 0 ∧ ¬ cnt ≤ m1 ∧ ¬ x1 < -1 ∧ x1 ≤ 1000000) := fun z => c_1 z.1
    refine lv_iconst (v := 0) hx hb d_SettingSearch_most_32 (by decide) ?_
    have hP9 := hP.sub (ws' := [(a0, .inr (0, [.ref aM, .ref aR, .ref aW, .ref aF, .ref aS, .ref aKR])), (aS, .inr (6, [sv, .int go, .int ak, .int be, .long bw, .int pt, .int ln, .ref aSo])), (aM, .inr (4, [.int cnt, .int vec, .ref aMS, .ref aMC, .ref aMT])), (aR, .inr (5, [.int pu, .ref aRp, .ref aRk, .ref aRa, .ref aRb, .ref aRl])), (aRl, .inl (cI, 5, .inl fM))]) [0, 1, 2, 3, 4] rfl
    have hD9 := hD.sub (ws' := [(a0, .inr (0, [.ref aM, .ref aR, .ref aW, .ref aF, .ref aS, .ref aKR])), (aS, .inr (6, [sv, .int go, .int ak, .int be, .long bw, .int pt, .int ln, .ref aSo])), (aM, .inr (4, [.int cnt, .int vec, .ref aMS, .ref aMC, .ref aMT])), (aR, .inr (5, [.int pu, .ref aRp, .ref aRk, .ref aRa, .ref aRb, .ref aRl])), (aRl, .inl (cI, 5, .inl fM))]) [0, 1, 2, 3, 4] (by decide) rfl
    have hpost_2 : ((go = 0 ∧ ¬ m1 < 0 ∧ ¬ cnt ≤ m1 ∧ ¬ x1 < -1 ∧ x1 ≤ 1000000) ∧ (0 : Int32) = 1 ∧ fM = upd fM m1.toNatClampNeg x1) ∨ (¬ (go = 0 ∧ ¬ m1 < 0 ∧ ¬ cnt ≤ m1 ∧ ¬ x1 < -1 ∧ x1 ≤ 1000000) ∧ (0 : Int32) = 0 ∧ fM = fM) := Or.inr ⟨hbad, rfl, rfl⟩
    exact W.zret (v := 0) hx hb hr (rfl) (fun t ht hW => ⟨⟨0, fM, rfl, hpost_2, by rw [ht]; exact hP9, hD9⟩, hS.F ht⟩) hS.2.2 d_SettingSearch_most_33
  · skip
    have cg : go = 0 := c_1
    refine lv_aload_n hx hb d_SettingSearch_most_10 rfl (lv_at hl 0 rfl) ?_
    refine va_get (D := (dC, dI)) (ci := 0) (v := .ref aM) (C := R_SettingSearch) (T := T_SettingSearch) (N := 6) hx hb hts in_SettingSearch hown hK hP 0 rfl rfl 0 (by decide) (hts _ tw_179) (fun _ h9 => h9) rfl d_SettingSearch_most_11 ?_
    refine lv_iload_n hx hb d_SettingSearch_most_14 rfl (lv_at hl 1 rfl) ?_
    have hPc := hP.sub (ws' := [(aM, .inr (4, [.int cnt, .int vec, .ref aMS, .ref aMC, .ref aMT]))]) [2] rfl
    have hDc := hD.sub (ws' := [(aM, .inr (4, [.int cnt, .int vec, .ref aMS, .ref aMC, .ref aMT]))]) [2] (by decide) rfl
    have hFc := va_free (wc := [(aM, .inr (4, [.int cnt, .int vec, .ref aMS, .ref aMC, .ref aMT]))]) hD hS hA [2] rfl
    refine va_calli (va_runV (As := [.int m1]) (rest := []) ⟨hx, hb, hml, hown, hts⟩ (k_has l dC dI H.size cI cZ cQ aM aMS aMC aMT cnt vec m1 ) ⟨(callB_of 1 hts (ga_all tw_237) rfl rfl rfl (hts _ tw_23) (hts _ tw_234) (by decide +kernel) ⟨Nat.le_of_ble_eq_true rfl, Nat.le_of_ble_eq_true rfl⟩), hts _ tw_235, hts _ tw_236⟩ ⟨fun a U g mk q => by obtain ⟨q0, q1, qP, qK, qD⟩ := q; exact ⟨q0, q1, qP, g_K.same (u := U) (U := U.calling g mk a) rfl qK, qD⟩, va_recv hK hPc (ci := 4) (q0 := 0) rfl rfl, fun U hU hW => ⟨rfl, by rw [hU], by rw [hU]; exact hPc, g_K.warm hW hKN, hDc.weaken (fun _ _ _ _ => trivial)⟩⟩ rfl rfl hl.1 rfl (lv_room (Nat.le_of_ble_eq_true rfl)) d_SettingSearch_most_15 ⟨Nat.le_of_ble_eq_true rfl, Nat.le_of_ble_eq_true rfl⟩) hS (fun q _ h => hFc q h) hFc (fun r_3 u t H1 locs htt hvm hw_4 hBB hzz hkk hS => ?_)
    have hw_4 : r_3 = q_has cnt m1 := hw_4
    obtain ⟨hPP, hDD⟩ := hBB
    rw [htt] at hPP
    have hPP : va_P (dC, dI) vw_cls [(aM, .inr (4, [.int cnt, .int vec, .ref aMS, .ref aMC, .ref aMT]))] H1 := hPP
    have hDD : va_D (va_A [(aM, .inr (4, [.int cnt, .int vec, .ref aMS, .ref aMC, .ref aMT]))] H.size) [(aM, .inr (4, [.int cnt, .int vec, .ref aMS, .ref aMC, .ref aMT]))] := hDD
    obtain ⟨hP, hD⟩ := va_join (wr := [(a0, .inr (0, [.ref aM, .ref aR, .ref aW, .ref aF, .ref aS, .ref aKR])), (aS, .inr (6, [sv, .int go, .int ak, .int be, .long bw, .int pt, .int ln, .ref aSo])), (aR, .inr (5, [.int pu, .ref aRp, .ref aRk, .ref aRa, .ref aRb, .ref aRl])), (aRl, .inl (cI, 5, .inl fM))]) (w1 := [(aM, .inr (4, [.int cnt, .int vec, .ref aMS, .ref aMC, .ref aMT]))]) hP hD [2] [0, 1, 3, 4] rfl rfl (by decide) (by decide) hkk hFc hPP hDD
    generalize H1 = H at hP hS ⊢
    have hP : va_P (dC, dI) vw_cls [(a0, .inr (0, [.ref aM, .ref aR, .ref aW, .ref aF, .ref aS, .ref aKR])), (aS, .inr (6, [sv, .int go, .int ak, .int be, .long bw, .int pt, .int ln, .ref aSo])), (aR, .inr (5, [.int pu, .ref aRp, .ref aRk, .ref aRa, .ref aRb, .ref aRl])), (aRl, .inl (cI, 5, .inl fM)), (aM, .inr (4, [.int cnt, .int vec, .ref aMS, .ref aMC, .ref aMT]))] H := hP
    have hD : va_D A [(a0, .inr (0, [.ref aM, .ref aR, .ref aW, .ref aF, .ref aS, .ref aKR])), (aS, .inr (6, [sv, .int go, .int ak, .int be, .long bw, .int pt, .int ln, .ref aSo])), (aR, .inr (5, [.int pu, .ref aRp, .ref aRk, .ref aRa, .ref aRb, .ref aRl])), (aRl, .inl (cI, 5, .inl fM)), (aM, .inr (4, [.int cnt, .int vec, .ref aMS, .ref aMC, .ref aMT]))] := hD
    refine lv_if_eq (tgt := 32) hx hb d_SettingSearch_most_18 (by decide) (fun c_5 => ?_) (fun c_5 => ?_)
    · skip
      have hbad : ¬ (go = 0 ∧ ¬ m1 < 0 ∧ ¬ cnt ≤ m1 ∧ ¬ x1 < -1 ∧ x1 ≤ 1000000) := fun z => (q_has_eq hw_4 c_5).elim z.2.1 z.2.2.1
      refine lv_iconst (v := 0) hx hb d_SettingSearch_most_32 (by decide) ?_
      have hP9 := hP.sub (ws' := [(a0, .inr (0, [.ref aM, .ref aR, .ref aW, .ref aF, .ref aS, .ref aKR])), (aS, .inr (6, [sv, .int go, .int ak, .int be, .long bw, .int pt, .int ln, .ref aSo])), (aM, .inr (4, [.int cnt, .int vec, .ref aMS, .ref aMC, .ref aMT])), (aR, .inr (5, [.int pu, .ref aRp, .ref aRk, .ref aRa, .ref aRb, .ref aRl])), (aRl, .inl (cI, 5, .inl fM))]) [0, 1, 4, 2, 3] rfl
      have hD9 := hD.sub (ws' := [(a0, .inr (0, [.ref aM, .ref aR, .ref aW, .ref aF, .ref aS, .ref aKR])), (aS, .inr (6, [sv, .int go, .int ak, .int be, .long bw, .int pt, .int ln, .ref aSo])), (aM, .inr (4, [.int cnt, .int vec, .ref aMS, .ref aMC, .ref aMT])), (aR, .inr (5, [.int pu, .ref aRp, .ref aRk, .ref aRa, .ref aRb, .ref aRl])), (aRl, .inl (cI, 5, .inl fM))]) [0, 1, 4, 2, 3] (by decide) rfl
      have hpost_6 : ((go = 0 ∧ ¬ m1 < 0 ∧ ¬ cnt ≤ m1 ∧ ¬ x1 < -1 ∧ x1 ≤ 1000000) ∧ (0 : Int32) = 1 ∧ fM = upd fM m1.toNatClampNeg x1) ∨ (¬ (go = 0 ∧ ¬ m1 < 0 ∧ ¬ cnt ≤ m1 ∧ ¬ x1 < -1 ∧ x1 ≤ 1000000) ∧ (0 : Int32) = 0 ∧ fM = fM) := Or.inr ⟨hbad, rfl, rfl⟩
      exact W.zret (v := 0) hx hb hr (rfl) (fun t ht hW => ⟨⟨0, fM, rfl, hpost_6, by rw [ht]; exact hP9, hD9⟩, hS.F ht⟩) hS.2.2 d_SettingSearch_most_33
    · skip
      have ch := q_has_ne hw_4 c_5
      refine lv_iload_n hx hb d_SettingSearch_most_21 rfl (lv_at hl 2 rfl) ?_
      refine lv_iconst (v := (-1)) hx hb d_SettingSearch_most_22 (by decide) ?_
      refine lv_icmp_lt (tgt := 32) hx hb d_SettingSearch_most_23 (by decide) (fun c_7 => ?_) (fun c_7 => ?_)
      · skip
        have hbad : ¬ (go = 0 ∧ ¬ m1 < 0 ∧ ¬ cnt ≤ m1 ∧ ¬ x1 < -1 ∧ x1 ≤ 1000000) := fun z => z.2.2.2.1 c_7
        refine lv_iconst (v := 0) hx hb d_SettingSearch_most_32 (by decide) ?_
        have hP9 := hP.sub (ws' := [(a0, .inr (0, [.ref aM, .ref aR, .ref aW, .ref aF, .ref aS, .ref aKR])), (aS, .inr (6, [sv, .int go, .int ak, .int be, .long bw, .int pt, .int ln, .ref aSo])), (aM, .inr (4, [.int cnt, .int vec, .ref aMS, .ref aMC, .ref aMT])), (aR, .inr (5, [.int pu, .ref aRp, .ref aRk, .ref aRa, .ref aRb, .ref aRl])), (aRl, .inl (cI, 5, .inl fM))]) [0, 1, 4, 2, 3] rfl
        have hD9 := hD.sub (ws' := [(a0, .inr (0, [.ref aM, .ref aR, .ref aW, .ref aF, .ref aS, .ref aKR])), (aS, .inr (6, [sv, .int go, .int ak, .int be, .long bw, .int pt, .int ln, .ref aSo])), (aM, .inr (4, [.int cnt, .int vec, .ref aMS, .ref aMC, .ref aMT])), (aR, .inr (5, [.int pu, .ref aRp, .ref aRk, .ref aRa, .ref aRb, .ref aRl])), (aRl, .inl (cI, 5, .inl fM))]) [0, 1, 4, 2, 3] (by decide) rfl
        have hpost_8 : ((go = 0 ∧ ¬ m1 < 0 ∧ ¬ cnt ≤ m1 ∧ ¬ x1 < -1 ∧ x1 ≤ 1000000) ∧ (0 : Int32) = 1 ∧ fM = upd fM m1.toNatClampNeg x1) ∨ (¬ (go = 0 ∧ ¬ m1 < 0 ∧ ¬ cnt ≤ m1 ∧ ¬ x1 < -1 ∧ x1 ≤ 1000000) ∧ (0 : Int32) = 0 ∧ fM = fM) := Or.inr ⟨hbad, rfl, rfl⟩
        exact W.zret (v := 0) hx hb hr (rfl) (fun t ht hW => ⟨⟨0, fM, rfl, hpost_8, by rw [ht]; exact hP9, hD9⟩, hS.F ht⟩) hS.2.2 d_SettingSearch_most_33
      · skip
        have cl := c_7
        refine lv_iload_n hx hb d_SettingSearch_most_26 rfl (lv_at hl 2 rfl) ?_
        refine lv_ldc (v := 1000000) hx hb hown (hts _ tw_238) d_SettingSearch_most_27 ?_
        refine lv_icmp_le (tgt := 34) hx hb d_SettingSearch_most_29 (by decide) (fun c_9 => ?_) (fun c_9 => ?_)
        · skip
          have hok : (go = 0 ∧ ¬ m1 < 0 ∧ ¬ cnt ≤ m1 ∧ ¬ x1 < -1 ∧ x1 ≤ 1000000) := ⟨cg, ch.1, ch.2, cl, c_9⟩
          refine lv_aload_n hx hb d_SettingSearch_most_34 rfl (lv_at hl 0 rfl) ?_
          refine va_get (D := (dC, dI)) (ci := 0) (v := .ref aR) (C := R_SettingSearch) (T := T_SettingSearch) (N := 6) hx hb hts in_SettingSearch hown hK hP 0 rfl rfl 1 (by decide) (hts _ tw_180) (fun _ h9 => h9) rfl d_SettingSearch_most_35 ?_
          refine va_getN (D := (dC, dI)) (ci := 5) (v := .ref aRl) (C := R_Rules) (T := T_Rules) (N := 6) hx hb hts in_Rules hown hK hP 2 rfl rfl 5 (by decide) (g_Nu hN (List.mem_of_getElem? (i := 3) rfl)) (fun _ h9 => h9) rfl d_SettingSearch_most_38 ?_
          refine lv_iload_n hx hb d_SettingSearch_most_41 rfl (lv_at hl 1 rfl) ?_
          refine lv_iload_n hx hb d_SettingSearch_most_42 rfl (lv_at hl 2 rfl) ?_
          have eh_10 : m1 = nI (m1.toNatClampNeg) := ix_ge ch.1
          have bh_10 : m1.toNatClampNeg < 5 := by have q := ix_lt ch.1 ch.2 hcnt (by omega); omega
          have h_10 : vp_in m1 5 := by rw [eh_10]; exact vp_in_nI bh_10 (by decide)
          have kh_10 : m1.toNatClampNeg = m1.toNatClampNeg := rfl
          refine va_iast hx hb hK hP hD hS 3 0 rfl rfl h_10 d_SettingSearch_most_43 (fun H locs hP hD hS => ?_)
          rw [kh_10] at hP hD
          obtain ⟨fM2, efM2⟩ : ∃ y : Nat → Int32, y = upd fM (m1.toNatClampNeg) x1 := ⟨_, rfl⟩
          rw [← efM2] at hP hD
          have hP : va_P (dC, dI) vw_cls [(a0, .inr (0, [.ref aM, .ref aR, .ref aW, .ref aF, .ref aS, .ref aKR])), (aS, .inr (6, [sv, .int go, .int ak, .int be, .long bw, .int pt, .int ln, .ref aSo])), (aR, .inr (5, [.int pu, .ref aRp, .ref aRk, .ref aRa, .ref aRb, .ref aRl])), (aRl, .inl (cI, 5, .inl fM2)), (aM, .inr (4, [.int cnt, .int vec, .ref aMS, .ref aMC, .ref aMT]))] H := hP
          have hD : va_D A [(a0, .inr (0, [.ref aM, .ref aR, .ref aW, .ref aF, .ref aS, .ref aKR])), (aS, .inr (6, [sv, .int go, .int ak, .int be, .long bw, .int pt, .int ln, .ref aSo])), (aR, .inr (5, [.int pu, .ref aRp, .ref aRk, .ref aRa, .ref aRb, .ref aRl])), (aRl, .inl (cI, 5, .inl fM2)), (aM, .inr (4, [.int cnt, .int vec, .ref aMS, .ref aMC, .ref aMT]))] := hD
          refine lv_iconst (v := 1) hx hb d_SettingSearch_most_44 (by decide) ?_
          have hP9 := hP.sub (ws' := [(a0, .inr (0, [.ref aM, .ref aR, .ref aW, .ref aF, .ref aS, .ref aKR])), (aS, .inr (6, [sv, .int go, .int ak, .int be, .long bw, .int pt, .int ln, .ref aSo])), (aM, .inr (4, [.int cnt, .int vec, .ref aMS, .ref aMC, .ref aMT])), (aR, .inr (5, [.int pu, .ref aRp, .ref aRk, .ref aRa, .ref aRb, .ref aRl])), (aRl, .inl (cI, 5, .inl fM2))]) [0, 1, 4, 2, 3] rfl
          have hD9 := hD.sub (ws' := [(a0, .inr (0, [.ref aM, .ref aR, .ref aW, .ref aF, .ref aS, .ref aKR])), (aS, .inr (6, [sv, .int go, .int ak, .int be, .long bw, .int pt, .int ln, .ref aSo])), (aM, .inr (4, [.int cnt, .int vec, .ref aMS, .ref aMC, .ref aMT])), (aR, .inr (5, [.int pu, .ref aRp, .ref aRk, .ref aRa, .ref aRb, .ref aRl])), (aRl, .inl (cI, 5, .inl fM2))]) [0, 1, 4, 2, 3] (by decide) rfl
          have hpost_11 : ((go = 0 ∧ ¬ m1 < 0 ∧ ¬ cnt ≤ m1 ∧ ¬ x1 < -1 ∧ x1 ≤ 1000000) ∧ (1 : Int32) = 1 ∧ fM2 = upd fM m1.toNatClampNeg x1) ∨ (¬ (go = 0 ∧ ¬ m1 < 0 ∧ ¬ cnt ≤ m1 ∧ ¬ x1 < -1 ∧ x1 ≤ 1000000) ∧ (1 : Int32) = 0 ∧ fM2 = fM) := Or.inl ⟨hok, rfl, efM2⟩
          exact W.zret (v := 1) hx hb hr (rfl) (fun t ht hW => ⟨⟨1, fM2, rfl, hpost_11, by rw [ht]; exact hP9, hD9⟩, hS.F ht⟩) hS.2.2 d_SettingSearch_most_45
        · skip
          have hbad : ¬ (go = 0 ∧ ¬ m1 < 0 ∧ ¬ cnt ≤ m1 ∧ ¬ x1 < -1 ∧ x1 ≤ 1000000) := fun z => c_9 z.2.2.2.2
          refine lv_iconst (v := 0) hx hb d_SettingSearch_most_32 (by decide) ?_
          have hP9 := hP.sub (ws' := [(a0, .inr (0, [.ref aM, .ref aR, .ref aW, .ref aF, .ref aS, .ref aKR])), (aS, .inr (6, [sv, .int go, .int ak, .int be, .long bw, .int pt, .int ln, .ref aSo])), (aM, .inr (4, [.int cnt, .int vec, .ref aMS, .ref aMC, .ref aMT])), (aR, .inr (5, [.int pu, .ref aRp, .ref aRk, .ref aRa, .ref aRb, .ref aRl])), (aRl, .inl (cI, 5, .inl fM))]) [0, 1, 4, 2, 3] rfl
          have hD9 := hD.sub (ws' := [(a0, .inr (0, [.ref aM, .ref aR, .ref aW, .ref aF, .ref aS, .ref aKR])), (aS, .inr (6, [sv, .int go, .int ak, .int be, .long bw, .int pt, .int ln, .ref aSo])), (aM, .inr (4, [.int cnt, .int vec, .ref aMS, .ref aMC, .ref aMT])), (aR, .inr (5, [.int pu, .ref aRp, .ref aRk, .ref aRa, .ref aRb, .ref aRl])), (aRl, .inl (cI, 5, .inl fM))]) [0, 1, 4, 2, 3] (by decide) rfl
          have hpost_12 : ((go = 0 ∧ ¬ m1 < 0 ∧ ¬ cnt ≤ m1 ∧ ¬ x1 < -1 ∧ x1 ≤ 1000000) ∧ (0 : Int32) = 1 ∧ fM = upd fM m1.toNatClampNeg x1) ∨ (¬ (go = 0 ∧ ¬ m1 < 0 ∧ ¬ cnt ≤ m1 ∧ ¬ x1 < -1 ∧ x1 ≤ 1000000) ∧ (0 : Int32) = 0 ∧ fM = fM) := Or.inr ⟨hbad, rfl, rfl⟩
          exact W.zret (v := 0) hx hb hr (rfl) (fun t ht hW => ⟨⟨0, fM, rfl, hpost_12, by rw [ht]; exact hP9, hD9⟩, hS.F ht⟩) hS.2.2 d_SettingSearch_most_33
