set_option maxHeartbeats 4000000 in
set_option maxRecDepth 100000 in
/-- Search.forget -/
theorem k_sfo (l : Launch) (dC : Nat → ClassId) (dI : Nat → Nat → Nat) (sz : Nat) (cI : ClassId) (cZ : ClassId) (cQ : ClassId) (aS : Nat) (aSo : Nat) (sv : Value) (go : Int32) (ak : Int32) (be : Int32) (bw : Int64) (pt : Int32) (ln : Int32)  : Met l y_Search_forget w_Search_forget ({ frames := 0, cells := 0, slots := 0, locals := 0 } : Room) (va_Pc [.ref aS] (fun U => U.heap.size = sz ∧ va_P (dC, dI) vw_cls [(aS, .inr (6, [sv, .int go, .int ak, .int be, .long bw, .int pt, .int ln, .ref aSo]))] U.heap ∧ g_K dC dI [(cI, .int), (cZ, .boolean), (cQ, (.object "SettingSearch$Answers"))] U ∧ va_D (fun _ => True) [(aS, .inr (6, [sv, .int go, .int ak, .int be, .long bw, .int pt, .int ln, .ref aSo]))])) (va_Qv (fun (u : Unit) => True) (fun (u : Unit) (t : State) => va_P (dC, dI) vw_cls [(aS, .inr (6, [.null, .int 0, .int (-1), .int (-1), .long (-9223372036854775808), .int 0, .int 0, .ref aSo]))] t.heap ∧ va_D (va_A [(aS, .inr (6, [sv, .int go, .int ak, .int be, .long bw, .int pt, .int ln, .ref aSo]))] sz) [(aS, .inr (6, [.null, .int 0, .int (-1), .int (-1), .long (-9223372036854775808), .int 0, .int 0, .ref aSo]))]) (va_A [(aS, .inr (6, [sv, .int go, .int ak, .int be, .long bw, .int pt, .int ln, .ref aSo]))] sz)) 0 0 (va_A [(aS, .inr (6, [sv, .int go, .int ak, .int be, .long bw, .int pt, .int ln, .ref aSo]))] sz) := by
  refine Met.ofW (cc := b_Search_forget) (maxL := 1) (ret := none) (by decide) rfl ?_
  intro p e s m args below meth c s₁ B hml hv
  obtain ⟨rfl, hsz, hP, hKN, hD0⟩ := hv
  obtain ⟨hK, hN⟩ := id hKN
  have hx := B.exec
  have hb := B.bytes
  have hr := B.returns
  have hts0 := atoms_spec (ws := w_Search_forget) B.pre
  have hts : ∀ w ∈ lw_g, w.before _ s = true := fun w h => hts0 w (List.mem_cons_of_mem _ h)
  have hown : s.vm.findClass R_Search = some m.cls := findClass_of_methodNamed B.named
  have hlocks := B.notSynchronized
  subst hsz
  have hD := hD0.self (sz := s.heap.size)
  generalize hAe : va_A [(aS, .inr (6, [sv, .int go, .int ak, .int be, .long bw, .int pt, .int ln, .ref aSo]))] s.heap.size = A at hD ⊢
  have hA : ∀ q : Nat, s.heap.size ≤ q → A q := fun q h => by rw [← hAe]; exact Or.inr h
  have hP : va_P (dC, dI) vw_cls [(aS, .inr (6, [sv, .int go, .int ak, .int be, .long bw, .int pt, .int ln, .ref aSo]))] s.heap := hP
  have hl := lv_entry ([.ref aS]) (n := 1) (Nat.le_of_ble_eq_true rfl)
  rw [lg_entry_eq]
  generalize (lg_sl ([.ref aS]) ++ List.replicate (1 - (lg_sl ([.ref aS])).length) Slot.unset).toArray = ls at hl ⊢
  have hl : lv_has ls 1 [(0, .ref aS)] := hl
  refine gw_start (fun H locs hH hlocs => ?_)
  rw [← hH] at hP
  have hS : va_S A s.heap H locs := by rw [hH, hlocs]; exact va_S.rf
  refine lv_aload_n hx hb d_Search_forget_0 rfl (lv_at hl 0 rfl) ?_
  refine lv_null hx hb d_Search_forget_1 ?_
  refine va_put (D := (dC, dI)) (ci := 6) (v := .null) (ty := (.object "SettingSearch$Answers")) (C := R_Search) (T := T_Search) (N := 8) hx hb hts in_Search ty_Search ty_Search_ok nm_Search hown hK hP hD hS 0 rfl rfl 0 (by decide) (hts _ tw_146) (fun _ h9 => h9) rfl (by decide +kernel) rfl rfl (Nat.le_of_ble_eq_true rfl) d_Search_forget_2 (fun H locs hP hD hS => ?_)
  have hP : va_P (dC, dI) vw_cls [(aS, .inr (6, [.null, .int go, .int ak, .int be, .long bw, .int pt, .int ln, .ref aSo]))] H := hP
  have hD : va_D A [(aS, .inr (6, [.null, .int go, .int ak, .int be, .long bw, .int pt, .int ln, .ref aSo]))] := hD
  refine lv_aload_n hx hb d_Search_forget_5 rfl (lv_at hl 0 rfl) ?_
  refine lv_iconst (v := 0) hx hb d_Search_forget_6 (by decide) ?_
  refine va_put (D := (dC, dI)) (ci := 6) (v := .int 0) (ty := .boolean) (C := R_Search) (T := T_Search) (N := 8) hx hb hts in_Search ty_Search ty_Search_ok nm_Search hown hK hP hD hS 0 rfl rfl 1 (by decide) (hts _ tw_149) (fun _ h9 => h9) rfl (by decide +kernel) rfl rfl (Nat.le_of_ble_eq_true rfl) d_Search_forget_7 (fun H locs hP hD hS => ?_)
  have hP : va_P (dC, dI) vw_cls [(aS, .inr (6, [.null, .int 0, .int ak, .int be, .long bw, .int pt, .int ln, .ref aSo]))] H := hP
  have hD : va_D A [(aS, .inr (6, [.null, .int 0, .int ak, .int be, .long bw, .int pt, .int ln, .ref aSo]))] := hD
  refine lv_aload_n hx hb d_Search_forget_10 rfl (lv_at hl 0 rfl) ?_
  refine lv_iconst (v := (-1)) hx hb d_Search_forget_11 (by decide) ?_
  refine va_put (D := (dC, dI)) (ci := 6) (v := .int (-1)) (ty := .int) (C := R_Search) (T := T_Search) (N := 8) hx hb hts in_Search ty_Search ty_Search_ok nm_Search hown hK hP hD hS 0 rfl rfl 2 (by decide) (hts _ tw_150) (fun _ h9 => h9) rfl (by decide +kernel) rfl rfl (Nat.le_of_ble_eq_true rfl) d_Search_forget_12 (fun H locs hP hD hS => ?_)
  have hP : va_P (dC, dI) vw_cls [(aS, .inr (6, [.null, .int 0, .int (-1), .int be, .long bw, .int pt, .int ln, .ref aSo]))] H := hP
  have hD : va_D A [(aS, .inr (6, [.null, .int 0, .int (-1), .int be, .long bw, .int pt, .int ln, .ref aSo]))] := hD
  refine lv_aload_n hx hb d_Search_forget_15 rfl (lv_at hl 0 rfl) ?_
  refine lv_iconst (v := (-1)) hx hb d_Search_forget_16 (by decide) ?_
  refine va_put (D := (dC, dI)) (ci := 6) (v := .int (-1)) (ty := .int) (C := R_Search) (T := T_Search) (N := 8) hx hb hts in_Search ty_Search ty_Search_ok nm_Search hown hK hP hD hS 0 rfl rfl 3 (by decide) (hts _ tw_152) (fun _ h9 => h9) rfl (by decide +kernel) rfl rfl (Nat.le_of_ble_eq_true rfl) d_Search_forget_17 (fun H locs hP hD hS => ?_)
  have hP : va_P (dC, dI) vw_cls [(aS, .inr (6, [.null, .int 0, .int (-1), .int (-1), .long bw, .int pt, .int ln, .ref aSo]))] H := hP
  have hD : va_D A [(aS, .inr (6, [.null, .int 0, .int (-1), .int (-1), .long bw, .int pt, .int ln, .ref aSo]))] := hD
  refine lv_aload_n hx hb d_Search_forget_20 rfl (lv_at hl 0 rfl) ?_
  refine lv_ldc2 (v := (-9223372036854775808)) hx hb hown (hts _ tw_145) d_Search_forget_21 ?_
  refine va_put (D := (dC, dI)) (ci := 6) (v := .long (-9223372036854775808)) (ty := .long) (C := R_Search) (T := T_Search) (N := 8) hx hb hts in_Search ty_Search ty_Search_ok nm_Search hown hK hP hD hS 0 rfl rfl 4 (by decide) (hts _ tw_154) (fun _ h9 => h9) rfl (by decide +kernel) rfl rfl (Nat.le_of_ble_eq_true rfl) d_Search_forget_24 (fun H locs hP hD hS => ?_)
  have hP : va_P (dC, dI) vw_cls [(aS, .inr (6, [.null, .int 0, .int (-1), .int (-1), .long (-9223372036854775808), .int pt, .int ln, .ref aSo]))] H := hP
  have hD : va_D A [(aS, .inr (6, [.null, .int 0, .int (-1), .int (-1), .long (-9223372036854775808), .int pt, .int ln, .ref aSo]))] := hD
  refine lv_aload_n hx hb d_Search_forget_27 rfl (lv_at hl 0 rfl) ?_
  refine lv_iconst (v := 0) hx hb d_Search_forget_28 (by decide) ?_
  refine va_put (D := (dC, dI)) (ci := 6) (v := .int 0) (ty := .int) (C := R_Search) (T := T_Search) (N := 8) hx hb hts in_Search ty_Search ty_Search_ok nm_Search hown hK hP hD hS 0 rfl rfl 5 (by decide) (hts _ tw_156) (fun _ h9 => h9) rfl (by decide +kernel) rfl rfl (Nat.le_of_ble_eq_true rfl) d_Search_forget_29 (fun H locs hP hD hS => ?_)
  have hP : va_P (dC, dI) vw_cls [(aS, .inr (6, [.null, .int 0, .int (-1), .int (-1), .long (-9223372036854775808), .int 0, .int ln, .ref aSo]))] H := hP
  have hD : va_D A [(aS, .inr (6, [.null, .int 0, .int (-1), .int (-1), .long (-9223372036854775808), .int 0, .int ln, .ref aSo]))] := hD
  refine lv_aload_n hx hb d_Search_forget_32 rfl (lv_at hl 0 rfl) ?_
  refine lv_iconst (v := 0) hx hb d_Search_forget_33 (by decide) ?_
  refine va_put (D := (dC, dI)) (ci := 6) (v := .int 0) (ty := .int) (C := R_Search) (T := T_Search) (N := 8) hx hb hts in_Search ty_Search ty_Search_ok nm_Search hown hK hP hD hS 0 rfl rfl 6 (by decide) (hts _ tw_158) (fun _ h9 => h9) rfl (by decide +kernel) rfl rfl (Nat.le_of_ble_eq_true rfl) d_Search_forget_34 (fun H locs hP hD hS => ?_)
  have hP : va_P (dC, dI) vw_cls [(aS, .inr (6, [.null, .int 0, .int (-1), .int (-1), .long (-9223372036854775808), .int 0, .int 0, .ref aSo]))] H := hP
  have hD : va_D A [(aS, .inr (6, [.null, .int 0, .int (-1), .int (-1), .long (-9223372036854775808), .int 0, .int 0, .ref aSo]))] := hD
  have hP9 := hP.sub (ws' := [(aS, .inr (6, [.null, .int 0, .int (-1), .int (-1), .long (-9223372036854775808), .int 0, .int 0, .ref aSo]))]) [0] rfl
  have hD9 := hD.sub (ws' := [(aS, .inr (6, [.null, .int 0, .int (-1), .int (-1), .long (-9223372036854775808), .int 0, .int 0, .ref aSo]))]) [0] (by decide) rfl
  have hpost_1 : True := trivial
  exact W.vret hx hb hr (fun t ht hW => ⟨⟨(), rfl, hpost_1, by rw [ht]; exact hP9, hD9⟩, hS.F ht⟩) hS.2.2 d_Search_forget_37
/-- the vectors below n with kk below c, and with kk = c -/
def q_ct (kk : Nat → Nat) (c : Nat) : Nat → Nat
  | 0 => 0
  | v + 1 => q_ct kk c v + if kk v < c then 1 else 0
def q_eq (kk : Nat → Nat) (c : Nat) : Nat → Nat
  | 0 => 0
  | v + 1 => q_eq kk c v + if kk v = c then 1 else 0
theorem q_ct_s (kk : Nat → Nat) (c : Nat) : ∀ n, q_ct kk c n + q_eq kk c n = q_ct kk (c + 1) n
  | 0 => rfl
  | n + 1 => by
    have ih := q_ct_s kk c n
    simp only [q_ct, q_eq]
    by_cases h1 : kk n < c
    · have h2 : ¬ kk n = c := by omega
      have h3 : kk n < c + 1 := by omega
      simp only [h1, h2, h3, if_true, if_false]; omega
    · by_cases h2 : kk n = c
      · have h3 : kk n < c + 1 := by omega
        rw [if_neg h1, if_pos h2, if_pos h3]; omega
      · have h3 : ¬ kk n < c + 1 := by omega
        rw [if_neg h1, if_neg h2, if_neg h3]; omega
theorem q_ct_le (kk : Nat → Nat) (c : Nat) : ∀ n, q_ct kk c n ≤ n
  | 0 => Nat.le_refl _
  | n + 1 => by
    have ih := q_ct_le kk c n
    simp only [q_ct]
    split <;> omega
theorem q_ct_0 (kk : Nat → Nat) : ∀ n, q_ct kk 0 n = 0
  | 0 => rfl
  | n + 1 => by simp [q_ct, q_ct_0 kk n]
theorem q_ct_all (kk : Nat → Nat) (c : Nat) : ∀ n, (∀ v, v < n → kk v < c) → q_ct kk c n = n
  | 0, _ => rfl
  | n + 1, h => by
    simp only [q_ct]
    rw [q_ct_all kk c n (fun v hv => h v (by omega)), if_pos (h n (by omega))]
theorem q_eq_mono (kk : Nat → Nat) (c : Nat) : ∀ a b, a ≤ b → q_eq kk c a ≤ q_eq kk c b := by
  intro a b h
  induction b with
  | zero => rw [show a = 0 by omega]; exact Nat.le_refl _
  | succ b ih =>
    rcases Nat.lt_or_ge a (b + 1) with q | q
    · have := ih (by omega)
      simp only [q_eq]; omega
    · rw [show a = b + 1 by omega]; exact Nat.le_refl _
theorem q_ct_room {kk : Nat → Nat} {c v n : Nat} (hv : v < n) (h : kk v = c) : q_ct kk c n + q_eq kk c v < n := by
  have h1 := q_eq_mono kk c (v + 1) n (by omega)
  have h2 := q_ct_s kk c n
  have h3 := q_ct_le kk (c + 1) n
  have h4 : q_eq kk c (v + 1) = q_eq kk c v + 1 := by simp only [q_eq]; rw [if_pos h]
  omega
/-- the order: the vectors below n whose changes are c, behind those of s -/
def q_in (kk : Nat → Nat) (c : Nat) (s : (Nat → Int32) × Nat) : Nat → (Nat → Int32) × Nat
  | 0 => s
  | v + 1 => if kk v = c then (upd (q_in kk c s v).1 (q_in kk c s v).2 (nI v), (q_in kk c s v).2 + 1) else q_in kk c s v
def q_out (kk : Nat → Nat) (nv : Nat) (f : Nat → Int32) : Nat → (Nat → Int32) × Nat
  | 0 => (f, 0)
  | c + 1 => q_in kk c (q_out kk nv f c) nv
theorem q_in_n (kk : Nat → Nat) (c : Nat) (s : (Nat → Int32) × Nat) : ∀ v, (q_in kk c s v).2 = s.2 + q_eq kk c v
  | 0 => rfl
  | v + 1 => by
    have ih := q_in_n kk c s v
    simp only [q_in, q_eq]
    by_cases h : kk v = c
    · rw [if_pos h, if_pos h]; show (q_in kk c s v).2 + 1 = _; omega
    · rw [if_neg h, if_neg h]; omega
theorem q_out_n (kk : Nat → Nat) (nv : Nat) (f : Nat → Int32) : ∀ c, (q_out kk nv f c).2 = q_ct kk c nv
  | 0 => (q_ct_0 kk nv).symm
  | c + 1 => by rw [q_out, q_in_n, q_out_n kk nv f c, q_ct_s]
/-- a vector's changes, as a number -/
def q_kk (cnt vec : Int32) (fT fC : Nat → Int32) (nc : Nat) (v : Nat) : Nat := (q_chg cnt vec fT fC (nI v) nc).toNatClampNeg
theorem q_chg_nat (cnt vec : Int32) (fT fC : Nat → Int32) (v : Int32) : ∀ n, n < 100 → ∃ k, k ≤ n ∧ q_chg cnt vec fT fC v n = nI k
  | 0, _ => ⟨0, Nat.le_refl _, rfl⟩
  | n + 1, h => by
    obtain ⟨k, hk, e⟩ := q_chg_nat cnt vec fT fC v n (by omega)
    simp only [q_chg]
    by_cases c : q_sin cnt vec fT v (nI n) = fC n
    · rw [if_pos c]; exact ⟨k, by omega, e⟩
    · rw [if_neg c, e]; exact ⟨k + 1, by omega, nI_1 k⟩
theorem q_kk_le {cnt vec : Int32} {fT fC : Nat → Int32} {nc v : Nat} (h : nc ≤ 5) : q_kk cnt vec fT fC nc v ≤ nc ∧ q_chg cnt vec fT fC (nI v) nc = nI (q_kk cnt vec fT fC nc v) := by
  obtain ⟨k, hk, e⟩ := q_chg_nat cnt vec fT fC (nI v) nc (by omega)
  unfold q_kk
  rw [e, nI_clamp (by omega)]
  exact ⟨hk, rfl⟩
set_option maxHeartbeats 4000000 in
set_option maxRecDepth 100000 in
theorem L_bin {p : Program} {l : Launch} {e : Env} {s : State} {m : MethodId} {args : Array Value} {below : List Frame} {meth : Method} {c : Code} {Q : State → Prop} {A : Nat → Prop} (hx : p.tables.exec = Jvm.exec) (hb : c.code = b_Search_begin) (hml : c.maxLocals = 5) (hown : s.vm.findClass R_Search = some m.cls) (hts : ∀ w ∈ lw_g, w.before args s = true) (hA : ∀ q, s.heap.size ≤ q → A q) {dC : Nat → ClassId} {dI : Nat → Nat → Nat} (cI : ClassId) (cZ : ClassId) (cQ : ClassId) (aS : Nat) (aSo : Nat) (aX : Nat) (sv : Value) (go : Int32) (ak : Int32) (be : Int32) (bw : Int64) (pt : Int32) (ln : Int32) (fOr : Nat → Int32) (aM : Nat) (aMS : Nat) (aMC : Nat) (aMT : Nat) (cnt : Int32) (vec : Int32) (fC : Nat → Int32) (fT : Nat → Int32) (nc : Nat) (nv : Nat) (jc : Nat) (xc : Int32) (hcnt : cnt = nI nc) (hvec : vec = nI nv) (hnc : nc ≤ 5) (hnv : nv ≤ 64) (exc : xc = nI jc) (hltc : jc ≤ nc) (hKN : g_K dC dI [(cI, .int), (cZ, .boolean), (cQ, (.object "SettingSearch$Answers"))] s)
    (kx_82 : ∀ (i : Nat) (xi : Int32) (g : Nat → Int32) (m1 : Nat) (ln1 : Int32) (_ : i ≤ nv) (_ : xi = nI i) (_ : g = (q_in (q_kk cnt vec fT fC nc) jc (q_out (q_kk cnt vec fT fC nc) nv fOr jc) i).1) (_ : m1 = (q_in (q_kk cnt vec fT fC nc) jc (q_out (q_kk cnt vec fT fC nc) nv fOr jc) i).2) (_ : ln1 = nI m1) (_ : i = nv) (H : Heap) (locs : List Loc), va_P (dC, dI) vw_cls [(aS, .inr (6, [.ref aX, .int 1, .int (-1), .int (-1), .long (-9223372036854775808), .int 0, .int ln1, .ref aSo])), (aSo, .inl (cI, 64, .inl g)), (aM, .inr (4, [.int cnt, .int vec, .ref aMS, .ref aMC, .ref aMT])), (aMC, .inl (cI, 5, .inl fC)), (aMT, .inl (cI, 320, .inl fT))] H → va_D A [(aS, .inr (6, [.ref aX, .int 1, .int (-1), .int (-1), .long (-9223372036854775808), .int 0, .int ln1, .ref aSo])), (aSo, .inl (cI, 64, .inl g)), (aM, .inr (4, [.int cnt, .int vec, .ref aMS, .ref aMC, .ref aMT])), (aMC, .inl (cI, 5, .inl fC)), (aMT, .inl (cI, 320, .inl fT))] → va_S A s.heap H locs → ∀ (ls : Array Slot), lv_has ls 5 [(0, .ref aS), (1, .ref aX), (2, .ref aM), (3, .int xc), (4, .int xi)] → W p l e ({ frames := 3, cells := 0, slots := 0, locals := 66 } : Room) s m args below meth c H locs 0 0 Q (F0 m 82 ls [])) :
    ∀ (n : Nat) (i : Nat) (xi : Int32) (g : Nat → Int32) (m1 : Nat) (ln1 : Int32) (_ : i ≤ nv) (_ : xi = nI i) (_ : g = (q_in (q_kk cnt vec fT fC nc) jc (q_out (q_kk cnt vec fT fC nc) nv fOr jc) i).1) (_ : m1 = (q_in (q_kk cnt vec fT fC nc) jc (q_out (q_kk cnt vec fT fC nc) nv fOr jc) i).2) (_ : ln1 = nI m1) (_ : nv - i < n) (H : Heap) (locs : List Loc), va_P (dC, dI) vw_cls [(aS, .inr (6, [.ref aX, .int 1, .int (-1), .int (-1), .long (-9223372036854775808), .int 0, .int ln1, .ref aSo])), (aSo, .inl (cI, 64, .inl g)), (aM, .inr (4, [.int cnt, .int vec, .ref aMS, .ref aMC, .ref aMT])), (aMC, .inl (cI, 5, .inl fC)), (aMT, .inl (cI, 320, .inl fT))] H → va_D A [(aS, .inr (6, [.ref aX, .int 1, .int (-1), .int (-1), .long (-9223372036854775808), .int 0, .int ln1, .ref aSo])), (aSo, .inl (cI, 64, .inl g)), (aM, .inr (4, [.int cnt, .int vec, .ref aMS, .ref aMC, .ref aMT])), (aMC, .inl (cI, 5, .inl fC)), (aMT, .inl (cI, 320, .inl fT))] → va_S A s.heap H locs → ∀ (ls : Array Slot), lv_has ls 5 [(0, .ref aS), (1, .ref aX), (2, .ref aM), (3, .int xc), (4, .int xi)] → W p l e ({ frames := 3, cells := 0, slots := 0, locals := 66 } : Room) s m args below meth c H locs 0 0 Q (F0 m 27 ls []) := by
  obtain ⟨hK, hN⟩ := id hKN
  intro n
  induction n with
  | zero =>
    intro i xi g m1 ln1 hi exi eg em eln hm
    exact absurd hm (Nat.not_lt_zero _)
  | succ n ih =>
    intro i xi g m1 ln1 hi exi eg em eln hm H locs hP hD hS ls hl
    refine lv_iload hx hb d_Search_begin_27 (lv_at hl 4 rfl) ?_
    refine lv_aload_n hx hb d_Search_begin_29 rfl (lv_at hl 2 rfl) ?_
    refine va_getN (D := (dC, dI)) (ci := 4) (v := .int vec) (C := R_Machines) (T := T_Machines) (N := 5) hx hb hts in_Machines hown hK hP 2 rfl rfl 1 (by decide) (g_Nu hN (List.mem_of_getElem? (i := 2) rfl)) (fun _ h9 => h9) rfl d_Search_begin_30 ?_
    refine lv_icmp_ge (tgt := 82) hx hb d_Search_begin_33 (by decide) (fun c_1 => ?_) (fun c_1 => ?_)
    · skip
      have hendi := lp_ge (N := nv) c_1 exi hvec hi (by omega)
      exact kx_82 i xi g m1 ln1 hi exi eg em eln hendi H locs (hP.sub [0, 1, 2, 3, 4] rfl) (hD.sub [0, 1, 2, 3, 4] (by decide) rfl) hS ls (lv_sub hl [0, 1, 2, 3, 4] rfl)
    · skip
      have hlti := lp_lt (N := nv) c_1 exi hvec (by omega)
      refine lv_aload_n hx hb d_Search_begin_36 rfl (lv_at hl 0 rfl) ?_
      refine va_get (D := (dC, dI)) (ci := 6) (v := .int ln1) (C := R_Search) (T := T_Search) (N := 8) hx hb hts in_Search hown hK hP 0 rfl rfl 6 (by decide) (hts _ tw_158) (fun _ h9 => h9) rfl d_Search_begin_37 ?_
      refine lv_bipush (v := 64) hx hb d_Search_begin_40 (by decide) ?_
      refine lv_icmp_ge (tgt := 76) hx hb d_Search_begin_42 (by decide) (fun c_2 => ?_) (fun c_2 => ?_)
      · skip
        have cq : ¬ q_kk cnt vec fT fC nc i = jc := fun q => by
          have q1 := q_ct_room hlti q
          have q2 := q_in_n (q_kk cnt vec fT fC nc) jc (q_out (q_kk cnt vec fT fC nc) nv fOr jc) i
          rw [q_out_n] at q2
          have q3 : m1 = (q_in (q_kk cnt vec fT fC nc) jc (q_out (q_kk cnt vec fT fC nc) nv fOr jc) i).2 := em
          exact (show ¬ (64 : Int32) ≤ nI m1 from fun z => nI_ge (show m1 < 64 by omega) (by decide) z) (by rw [← eln]; exact c_2)
        obtain ⟨v_3, ev_3⟩ : ∃ y : Int32, y = xi + 1 := ⟨_, rfl⟩
        refine lv_iinc (v := v_3) (lv' := [(4, .int v_3), (0, .ref aS), (1, .ref aX), (2, .ref aM), (3, .int xc)]) hx hb d_Search_begin_76 hl (k := 4) rfl (by rw [ev_3]; rfl) (by decide) rfl (fun ls hl => ?_)
        refine lv_goto (tgt := 27) hx hb d_Search_begin_79 (by decide) ?_
        exact ih (i + 1) v_3 g m1 ln1 hlti (by rw [ev_3, exi]; exact nI_1 i) (by rw [q_in, if_neg cq]; exact eg) (by rw [q_in, if_neg cq]; exact em) eln (by omega) H locs (hP.sub [0, 1, 2, 3, 4] rfl) (hD.sub [0, 1, 2, 3, 4] (by decide) rfl) hS ls (lv_sub hl [1, 2, 3, 4, 0] rfl)
      · skip
        refine lv_aload_n hx hb d_Search_begin_45 rfl (lv_at hl 2 rfl) ?_
        refine lv_iload hx hb d_Search_begin_46 (lv_at hl 4 rfl) ?_
        have hPc := hP.sub (ws' := [(aM, .inr (4, [.int cnt, .int vec, .ref aMS, .ref aMC, .ref aMT])), (aMC, .inl (cI, 5, .inl fC)), (aMT, .inl (cI, 320, .inl fT))]) [2, 3, 4] rfl
        have hDc := hD.sub (ws' := [(aM, .inr (4, [.int cnt, .int vec, .ref aMS, .ref aMC, .ref aMT])), (aMC, .inl (cI, 5, .inl fC)), (aMT, .inl (cI, 320, .inl fT))]) [2, 3, 4] (by decide) rfl
        have hFc := va_free (wc := [(aM, .inr (4, [.int cnt, .int vec, .ref aMS, .ref aMC, .ref aMT])), (aMC, .inl (cI, 5, .inl fC)), (aMT, .inl (cI, 320, .inl fT))]) hD hS hA [2, 3, 4] rfl
        refine va_calli (va_runV (As := [.int xi]) (rest := []) ⟨hx, hb, hml, hown, hts⟩ (k_chg l dC dI H.size cI cZ cQ aM aMS aMC aMT cnt vec fC fT xi nc nv hcnt hvec hnc hnv) ⟨(callB_of 1 hts (ga_all tw_263) rfl rfl rfl (hts _ tw_23) (hts _ tw_260) (by decide +kernel) ⟨Nat.le_of_ble_eq_true rfl, Nat.le_of_ble_eq_true rfl⟩), hts _ tw_261, hts _ tw_262⟩ ⟨fun a U g mk q => by obtain ⟨q0, q1, qP, qK, qD⟩ := q; exact ⟨q0, q1, qP, g_K.same (u := U) (U := U.calling g mk a) rfl qK, qD⟩, va_recv hK hPc (ci := 4) (q0 := 0) rfl rfl, fun U hU hW => ⟨rfl, by rw [hU], by rw [hU]; exact hPc, g_K.warm hW hKN, hDc.weaken (fun _ _ _ _ => trivial)⟩⟩ rfl rfl hl.1 rfl (lv_room (Nat.le_of_ble_eq_true rfl)) d_Search_begin_48 ⟨Nat.le_of_ble_eq_true rfl, Nat.le_of_ble_eq_true rfl⟩) hS (fun q _ h => hFc q h) hFc (fun r_4 u t H1 locs htt hvm hw_5 hBB hzz hkk hS => ?_)
        have hw_5 : r_4 = q_chg cnt vec fT fC xi nc := hw_5
        obtain ⟨hPP, hDD⟩ := hBB
        rw [htt] at hPP
        have hPP : va_P (dC, dI) vw_cls [(aM, .inr (4, [.int cnt, .int vec, .ref aMS, .ref aMC, .ref aMT])), (aMC, .inl (cI, 5, .inl fC)), (aMT, .inl (cI, 320, .inl fT))] H1 := hPP
        have hDD : va_D (va_A [(aM, .inr (4, [.int cnt, .int vec, .ref aMS, .ref aMC, .ref aMT])), (aMC, .inl (cI, 5, .inl fC)), (aMT, .inl (cI, 320, .inl fT))] H.size) [(aM, .inr (4, [.int cnt, .int vec, .ref aMS, .ref aMC, .ref aMT])), (aMC, .inl (cI, 5, .inl fC)), (aMT, .inl (cI, 320, .inl fT))] := hDD
        obtain ⟨hP, hD⟩ := va_join (wr := [(aS, .inr (6, [.ref aX, .int 1, .int (-1), .int (-1), .long (-9223372036854775808), .int 0, .int ln1, .ref aSo])), (aSo, .inl (cI, 64, .inl g))]) (w1 := [(aM, .inr (4, [.int cnt, .int vec, .ref aMS, .ref aMC, .ref aMT])), (aMC, .inl (cI, 5, .inl fC)), (aMT, .inl (cI, 320, .inl fT))]) hP hD [2, 3, 4] [0, 1] rfl rfl (by decide) (by decide) hkk hFc hPP hDD
        generalize H1 = H at hP hS ⊢
        have hP : va_P (dC, dI) vw_cls [(aS, .inr (6, [.ref aX, .int 1, .int (-1), .int (-1), .long (-9223372036854775808), .int 0, .int ln1, .ref aSo])), (aSo, .inl (cI, 64, .inl g)), (aM, .inr (4, [.int cnt, .int vec, .ref aMS, .ref aMC, .ref aMT])), (aMC, .inl (cI, 5, .inl fC)), (aMT, .inl (cI, 320, .inl fT))] H := hP
        have hD : va_D A [(aS, .inr (6, [.ref aX, .int 1, .int (-1), .int (-1), .long (-9223372036854775808), .int 0, .int ln1, .ref aSo])), (aSo, .inl (cI, 64, .inl g)), (aM, .inr (4, [.int cnt, .int vec, .ref aMS, .ref aMC, .ref aMT])), (aMC, .inl (cI, 5, .inl fC)), (aMT, .inl (cI, 320, .inl fT))] := hD
        refine lv_iload_n hx hb d_Search_begin_51 rfl (lv_at hl 3 rfl) ?_
        refine lv_icmp_ne (tgt := 76) hx hb d_Search_begin_52 (by decide) (fun c_6 => ?_) (fun c_6 => ?_)
        · skip
          have cq : ¬ q_kk cnt vec fT fC nc i = jc := fun q => c_6 (by rw [hw_5, exi, (q_kk_le hnc).2, exc, q])
          obtain ⟨v_7, ev_7⟩ : ∃ y : Int32, y = xi + 1 := ⟨_, rfl⟩
          refine lv_iinc (v := v_7) (lv' := [(4, .int v_7), (0, .ref aS), (1, .ref aX), (2, .ref aM), (3, .int xc)]) hx hb d_Search_begin_76 hl (k := 4) rfl (by rw [ev_7]; rfl) (by decide) rfl (fun ls hl => ?_)
          refine lv_goto (tgt := 27) hx hb d_Search_begin_79 (by decide) ?_
          exact ih (i + 1) v_7 g m1 ln1 hlti (by rw [ev_7, exi]; exact nI_1 i) (by rw [q_in, if_neg cq]; exact eg) (by rw [q_in, if_neg cq]; exact em) eln (by omega) H locs (hP.sub [0, 1, 2, 3, 4] rfl) (hD.sub [0, 1, 2, 3, 4] (by decide) rfl) hS ls (lv_sub hl [1, 2, 3, 4, 0] rfl)
        · skip
          have cq : q_kk cnt vec fT fC nc i = jc := by
            have q := c_6
            rw [hw_5, exi, (q_kk_le hnc).2, exc] at q
            exact (nI_eq (by have := (q_kk_le (cnt := cnt) (vec := vec) (fT := fT) (fC := fC) (v := i) hnc).1; omega) (by omega)).mp q
          have hroom : m1 < 64 := by
            have q1 := q_ct_room hlti cq
            have q2 := q_in_n (q_kk cnt vec fT fC nc) jc (q_out (q_kk cnt vec fT fC nc) nv fOr jc) i
            rw [q_out_n] at q2
            have q3 : m1 = (q_in (q_kk cnt vec fT fC nc) jc (q_out (q_kk cnt vec fT fC nc) nv fOr jc) i).2 := em
            omega
          refine lv_aload_n hx hb d_Search_begin_55 rfl (lv_at hl 0 rfl) ?_
          refine va_get (D := (dC, dI)) (ci := 6) (v := .ref aSo) (C := R_Search) (T := T_Search) (N := 8) hx hb hts in_Search hown hK hP 0 rfl rfl 7 (by decide) (hts _ tw_160) (fun _ h9 => h9) rfl d_Search_begin_56 ?_
          refine lv_aload_n hx hb d_Search_begin_59 rfl (lv_at hl 0 rfl) ?_
          refine va_get (D := (dC, dI)) (ci := 6) (v := .int ln1) (C := R_Search) (T := T_Search) (N := 8) hx hb hts in_Search hown hK hP 0 rfl rfl 6 (by decide) (hts _ tw_158) (fun _ h9 => h9) rfl d_Search_begin_60 ?_
          refine lv_iload hx hb d_Search_begin_63 (lv_at hl 4 rfl) ?_
          have eh_8 : ln1 = nI (m1) := eln
          have bh_8 : m1 < 64 := hroom
          have h_8 : vp_in ln1 64 := by rw [eh_8]; exact vp_in_nI bh_8 (by decide)
          have kh_8 : ln1.toNatClampNeg = m1 := by rw [eh_8]; exact nI_clamp (by omega)
          refine va_iast hx hb hK hP hD hS 1 0 rfl rfl h_8 d_Search_begin_65 (fun H locs hP hD hS => ?_)
          rw [kh_8] at hP hD
          obtain ⟨g2, eg2⟩ : ∃ y : Nat → Int32, y = upd g (m1) xi := ⟨_, rfl⟩
          rw [← eg2] at hP hD
          have hP : va_P (dC, dI) vw_cls [(aS, .inr (6, [.ref aX, .int 1, .int (-1), .int (-1), .long (-9223372036854775808), .int 0, .int ln1, .ref aSo])), (aSo, .inl (cI, 64, .inl g2)), (aM, .inr (4, [.int cnt, .int vec, .ref aMS, .ref aMC, .ref aMT])), (aMC, .inl (cI, 5, .inl fC)), (aMT, .inl (cI, 320, .inl fT))] H := hP
          have hD : va_D A [(aS, .inr (6, [.ref aX, .int 1, .int (-1), .int (-1), .long (-9223372036854775808), .int 0, .int ln1, .ref aSo])), (aSo, .inl (cI, 64, .inl g2)), (aM, .inr (4, [.int cnt, .int vec, .ref aMS, .ref aMC, .ref aMT])), (aMC, .inl (cI, 5, .inl fC)), (aMT, .inl (cI, 320, .inl fT))] := hD
          refine lv_aload_n hx hb d_Search_begin_66 rfl (lv_at hl 0 rfl) ?_
          refine lv_dup hx hb d_Search_begin_67 rfl ?_
          refine va_get (D := (dC, dI)) (ci := 6) (v := .int ln1) (C := R_Search) (T := T_Search) (N := 8) hx hb hts in_Search hown hK hP 0 rfl rfl 6 (by decide) (hts _ tw_158) (fun _ h9 => h9) rfl d_Search_begin_68 ?_
          refine lv_iconst (v := 1) hx hb d_Search_begin_71 (by decide) ?_
          refine lv_iadd hx hb d_Search_begin_72 ?_
          refine lv_topi (fun v_9 ev_9 => ?_)
          refine va_put (D := (dC, dI)) (ci := 6) (v := .int v_9) (ty := .int) (C := R_Search) (T := T_Search) (N := 8) hx hb hts in_Search ty_Search ty_Search_ok nm_Search hown hK hP hD hS 0 rfl rfl 6 (by decide) (hts _ tw_158) (fun _ h9 => h9) rfl (by decide +kernel) rfl rfl (Nat.le_of_ble_eq_true rfl) d_Search_begin_73 (fun H locs hP hD hS => ?_)
          have hP : va_P (dC, dI) vw_cls [(aS, .inr (6, [.ref aX, .int 1, .int (-1), .int (-1), .long (-9223372036854775808), .int 0, .int v_9, .ref aSo])), (aSo, .inl (cI, 64, .inl g2)), (aM, .inr (4, [.int cnt, .int vec, .ref aMS, .ref aMC, .ref aMT])), (aMC, .inl (cI, 5, .inl fC)), (aMT, .inl (cI, 320, .inl fT))] H := hP
          have hD : va_D A [(aS, .inr (6, [.ref aX, .int 1, .int (-1), .int (-1), .long (-9223372036854775808), .int 0, .int v_9, .ref aSo])), (aSo, .inl (cI, 64, .inl g2)), (aM, .inr (4, [.int cnt, .int vec, .ref aMS, .ref aMC, .ref aMT])), (aMC, .inl (cI, 5, .inl fC)), (aMT, .inl (cI, 320, .inl fT))] := hD
          obtain ⟨v_10, ev_10⟩ : ∃ y : Int32, y = xi + 1 := ⟨_, rfl⟩
          refine lv_iinc (v := v_10) (lv' := [(4, .int v_10), (0, .ref aS), (1, .ref aX), (2, .ref aM), (3, .int xc)]) hx hb d_Search_begin_76 hl (k := 4) rfl (by rw [ev_10]; rfl) (by decide) rfl (fun ls hl => ?_)
          refine lv_goto (tgt := 27) hx hb d_Search_begin_79 (by decide) ?_
          exact ih (i + 1) v_10 g2 (m1 + 1) v_9 hlti (by rw [ev_10, exi]; exact nI_1 i) (by rw [eg2, exi]; rw [q_in, if_pos cq, ← em, ← eg]) (by rw [q_in, if_pos cq, ← em]) (by rw [ev_9, eln]; exact nI_1 m1) (by omega) H locs (hP.sub [0, 1, 2, 3, 4] rfl) (hD.sub [0, 1, 2, 3, 4] (by decide) rfl) hS ls (lv_sub hl [1, 2, 3, 4, 0] rfl)
set_option maxHeartbeats 4000000 in
set_option maxRecDepth 100000 in
theorem L_bout {p : Program} {l : Launch} {e : Env} {s : State} {m : MethodId} {args : Array Value} {below : List Frame} {meth : Method} {c : Code} {Q : State → Prop} {A : Nat → Prop} (hx : p.tables.exec = Jvm.exec) (hb : c.code = b_Search_begin) (hml : c.maxLocals = 5) (hown : s.vm.findClass R_Search = some m.cls) (hts : ∀ w ∈ lw_g, w.before args s = true) (hA : ∀ q, s.heap.size ≤ q → A q) {dC : Nat → ClassId} {dI : Nat → Nat → Nat} (cI : ClassId) (cZ : ClassId) (cQ : ClassId) (aS : Nat) (aSo : Nat) (aX : Nat) (sv : Value) (go : Int32) (ak : Int32) (be : Int32) (bw : Int64) (pt : Int32) (ln : Int32) (fOr : Nat → Int32) (aM : Nat) (aMS : Nat) (aMC : Nat) (aMT : Nat) (cnt : Int32) (vec : Int32) (fC : Nat → Int32) (fT : Nat → Int32) (nc : Nat) (nv : Nat)  (hcnt : cnt = nI nc) (hvec : vec = nI nv) (hnc : nc ≤ 5) (hnv : nv ≤ 64)  (hKN : g_K dC dI [(cI, .int), (cZ, .boolean), (cQ, (.object "SettingSearch$Answers"))] s)
    (kx_88 : ∀ (jc : Nat) (xc : Int32) (g : Nat → Int32) (m0 : Nat) (ln1 : Int32) (_ : jc ≤ nc + 1) (_ : xc = nI jc) (_ : g = (q_out (q_kk cnt vec fT fC nc) nv fOr jc).1) (_ : m0 = (q_out (q_kk cnt vec fT fC nc) nv fOr jc).2) (_ : ln1 = nI m0) (_ : jc = nc + 1) (H : Heap) (locs : List Loc), va_P (dC, dI) vw_cls [(aS, .inr (6, [.ref aX, .int 1, .int (-1), .int (-1), .long (-9223372036854775808), .int 0, .int ln1, .ref aSo])), (aSo, .inl (cI, 64, .inl g)), (aM, .inr (4, [.int cnt, .int vec, .ref aMS, .ref aMC, .ref aMT])), (aMC, .inl (cI, 5, .inl fC)), (aMT, .inl (cI, 320, .inl fT))] H → va_D A [(aS, .inr (6, [.ref aX, .int 1, .int (-1), .int (-1), .long (-9223372036854775808), .int 0, .int ln1, .ref aSo])), (aSo, .inl (cI, 64, .inl g)), (aM, .inr (4, [.int cnt, .int vec, .ref aMS, .ref aMC, .ref aMT])), (aMC, .inl (cI, 5, .inl fC)), (aMT, .inl (cI, 320, .inl fT))] → va_S A s.heap H locs → ∀ (ls : Array Slot), lv_has ls 5 [(0, .ref aS), (1, .ref aX), (2, .ref aM), (3, .int xc)] → W p l e ({ frames := 3, cells := 0, slots := 0, locals := 66 } : Room) s m args below meth c H locs 0 0 Q (F0 m 88 ls [])) :
    ∀ (n : Nat) (jc : Nat) (xc : Int32) (g : Nat → Int32) (m0 : Nat) (ln1 : Int32) (_ : jc ≤ nc + 1) (_ : xc = nI jc) (_ : g = (q_out (q_kk cnt vec fT fC nc) nv fOr jc).1) (_ : m0 = (q_out (q_kk cnt vec fT fC nc) nv fOr jc).2) (_ : ln1 = nI m0) (_ : nc + 1 - jc < n) (H : Heap) (locs : List Loc), va_P (dC, dI) vw_cls [(aS, .inr (6, [.ref aX, .int 1, .int (-1), .int (-1), .long (-9223372036854775808), .int 0, .int ln1, .ref aSo])), (aSo, .inl (cI, 64, .inl g)), (aM, .inr (4, [.int cnt, .int vec, .ref aMS, .ref aMC, .ref aMT])), (aMC, .inl (cI, 5, .inl fC)), (aMT, .inl (cI, 320, .inl fT))] H → va_D A [(aS, .inr (6, [.ref aX, .int 1, .int (-1), .int (-1), .long (-9223372036854775808), .int 0, .int ln1, .ref aSo])), (aSo, .inl (cI, 64, .inl g)), (aM, .inr (4, [.int cnt, .int vec, .ref aMS, .ref aMC, .ref aMT])), (aMC, .inl (cI, 5, .inl fC)), (aMT, .inl (cI, 320, .inl fT))] → va_S A s.heap H locs → ∀ (ls : Array Slot), lv_has ls 5 [(0, .ref aS), (1, .ref aX), (2, .ref aM), (3, .int xc)] → W p l e ({ frames := 3, cells := 0, slots := 0, locals := 66 } : Room) s m args below meth c H locs 0 0 Q (F0 m 16 ls []) := by
  obtain ⟨hK, hN⟩ := id hKN
  intro n
  induction n with
  | zero =>
    intro jc xc g m0 ln1 hjc exc eg0 em0 eln0 hm
    exact absurd hm (Nat.not_lt_zero _)
  | succ n ih =>
    intro jc xc g m0 ln1 hjc exc eg0 em0 eln0 hm H locs hP hD hS ls hl
    refine lv_iload_n hx hb d_Search_begin_16 rfl (lv_at hl 3 rfl) ?_
    refine lv_aload_n hx hb d_Search_begin_17 rfl (lv_at hl 2 rfl) ?_
    refine va_getN (D := (dC, dI)) (ci := 4) (v := .int cnt) (C := R_Machines) (T := T_Machines) (N := 5) hx hb hts in_Machines hown hK hP 2 rfl rfl 0 (by decide) (g_Nu hN (List.mem_of_getElem? (i := 1) rfl)) (fun _ h9 => h9) rfl d_Search_begin_18 ?_
    refine lv_icmp_gt (tgt := 88) hx hb d_Search_begin_21 (by decide) (fun c_1 => ?_) (fun c_1 => ?_)
    · skip
      have hendc : nc < jc := by rw [hcnt, exc] at c_1; exact (nI_ltI (by omega) (by omega)).mp c_1
      exact kx_88 jc xc g m0 ln1 hjc exc eg0 em0 eln0 (by omega) H locs (hP.sub [0, 1, 2, 3, 4] rfl) (hD.sub [0, 1, 2, 3, 4] (by decide) rfl) hS ls (lv_sub hl [0, 1, 2, 3] rfl)
    · skip
      have hltc : jc ≤ nc := by
        rcases Nat.lt_or_ge nc jc with q | q
        · exact absurd (by rw [hcnt, exc]; exact nI_lt q (by omega)) c_1
        · exact q
      refine lv_iconst (v := 0) hx hb d_Search_begin_24 (by decide) ?_
      refine lv_istore (lv' := [(4, .int 0), (0, .ref aS), (1, .ref aX), (2, .ref aM), (3, .int xc)]) hx hb d_Search_begin_25 hl (by decide) rfl (fun ls hl => ?_)
      refine L_bin hx hb hml hown hts hA cI cZ cQ aS aSo aX sv go ak be bw pt ln fOr aM aMS aMC aMT cnt vec fC fT nc nv jc xc hcnt hvec hnc hnv exc hltc hKN ?_ (nv - 0 + 1) 0 0 g m0 ln1 (Nat.zero_le _) rfl eg0 em0 eln0 (Nat.lt_succ_self _) H locs (hP.sub [0, 1, 2, 3, 4] rfl) (hD.sub [0, 1, 2, 3, 4] (by decide) rfl) hS ls (lv_sub hl [1, 2, 3, 4, 0] rfl)
      intro i xi g m1 ln1 hi exi eg em eln hendi H locs hP hD hS ls hl
      have hl : lv_has ls 5 [(0, .ref aS), (1, .ref aX), (2, .ref aM), (3, .int xc), (4, .int xi)] := hl
      have hP : va_P (dC, dI) vw_cls [(aS, .inr (6, [.ref aX, .int 1, .int (-1), .int (-1), .long (-9223372036854775808), .int 0, .int ln1, .ref aSo])), (aSo, .inl (cI, 64, .inl g)), (aM, .inr (4, [.int cnt, .int vec, .ref aMS, .ref aMC, .ref aMT])), (aMC, .inl (cI, 5, .inl fC)), (aMT, .inl (cI, 320, .inl fT))] H := hP
      have hD : va_D A [(aS, .inr (6, [.ref aX, .int 1, .int (-1), .int (-1), .long (-9223372036854775808), .int 0, .int ln1, .ref aSo])), (aSo, .inl (cI, 64, .inl g)), (aM, .inr (4, [.int cnt, .int vec, .ref aMS, .ref aMC, .ref aMT])), (aMC, .inl (cI, 5, .inl fC)), (aMT, .inl (cI, 320, .inl fT))] := hD
      obtain ⟨v_2, ev_2⟩ : ∃ y : Int32, y = xc + 1 := ⟨_, rfl⟩
      refine lv_iinc (v := v_2) (lv' := [(3, .int v_2), (0, .ref aS), (1, .ref aX), (2, .ref aM), (4, .int xi)]) hx hb d_Search_begin_82 hl (k := 3) rfl (by rw [ev_2]; rfl) (by decide) rfl (fun ls hl => ?_)
      refine lv_goto (tgt := 16) hx hb d_Search_begin_85 (by decide) ?_
      exact ih (jc + 1) v_2 g m1 ln1 (by omega) (by rw [ev_2, exc]; exact nI_1 jc) (by rw [eg, hendi]; rfl) (by rw [em, hendi]; rfl) eln (by omega) H locs (hP.sub [0, 1, 2, 3, 4] rfl) (hD.sub [0, 1, 2, 3, 4] (by decide) rfl) hS ls (lv_sub hl [1, 2, 3, 0] rfl)
set_option maxHeartbeats 4000000 in
set_option maxRecDepth 100000 in
/-- begin -/
theorem k_beg (l : Launch) (dC : Nat → ClassId) (dI : Nat → Nat → Nat) (sz : Nat) (cI : ClassId) (cZ : ClassId) (cQ : ClassId) (aS : Nat) (aSo : Nat) (aX : Nat) (sv : Value) (go : Int32) (ak : Int32) (be : Int32) (bw : Int64) (pt : Int32) (ln : Int32) (fOr : Nat → Int32) (aM : Nat) (aMS : Nat) (aMC : Nat) (aMT : Nat) (cnt : Int32) (vec : Int32) (fC : Nat → Int32) (fT : Nat → Int32) (nc : Nat) (nv : Nat) (hcnt : cnt = nI nc) (hvec : vec = nI nv) (hnc : nc ≤ 5) (hnv : nv ≤ 64) : Met l y_Search_begin w_Search_begin ({ frames := 3, cells := 0, slots := 0, locals := 66 } : Room) (va_Pc [.ref aS, .ref aX, .ref aM] (fun U => U.heap.size = sz ∧ va_P (dC, dI) vw_cls [(aS, .inr (6, [sv, .int go, .int ak, .int be, .long bw, .int pt, .int ln, .ref aSo])), (aSo, .inl (cI, 64, .inl fOr)), (aM, .inr (4, [.int cnt, .int vec, .ref aMS, .ref aMC, .ref aMT])), (aMC, .inl (cI, 5, .inl fC)), (aMT, .inl (cI, 320, .inl fT))] U.heap ∧ g_K dC dI [(cI, .int), (cZ, .boolean), (cQ, (.object "SettingSearch$Answers"))] U ∧ va_D (fun _ => True) [(aS, .inr (6, [sv, .int go, .int ak, .int be, .long bw, .int pt, .int ln, .ref aSo])), (aSo, .inl (cI, 64, .inl fOr)), (aM, .inr (4, [.int cnt, .int vec, .ref aMS, .ref aMC, .ref aMT])), (aMC, .inl (cI, 5, .inl fC)), (aMT, .inl (cI, 320, .inl fT))])) (va_Qv (fun (u : Int32 × (Nat → Int32)) => u.2 = (q_out (q_kk cnt vec fT fC nc) nv fOr (nc + 1)).1 ∧ u.1 = nI (q_out (q_kk cnt vec fT fC nc) nv fOr (nc + 1)).2) (fun (u : Int32 × (Nat → Int32)) (t : State) => va_P (dC, dI) vw_cls [(aS, .inr (6, [.ref aX, .int 1, .int (-1), .int (-1), .long (-9223372036854775808), .int 0, .int u.1, .ref aSo])), (aSo, .inl (cI, 64, .inl u.2)), (aM, .inr (4, [.int cnt, .int vec, .ref aMS, .ref aMC, .ref aMT])), (aMC, .inl (cI, 5, .inl fC)), (aMT, .inl (cI, 320, .inl fT))] t.heap ∧ va_D (va_A [(aS, .inr (6, [sv, .int go, .int ak, .int be, .long bw, .int pt, .int ln, .ref aSo])), (aSo, .inl (cI, 64, .inl fOr)), (aM, .inr (4, [.int cnt, .int vec, .ref aMS, .ref aMC, .ref aMT])), (aMC, .inl (cI, 5, .inl fC)), (aMT, .inl (cI, 320, .inl fT))] sz) [(aS, .inr (6, [.ref aX, .int 1, .int (-1), .int (-1), .long (-9223372036854775808), .int 0, .int u.1, .ref aSo])), (aSo, .inl (cI, 64, .inl u.2)), (aM, .inr (4, [.int cnt, .int vec, .ref aMS, .ref aMC, .ref aMT])), (aMC, .inl (cI, 5, .inl fC)), (aMT, .inl (cI, 320, .inl fT))]) (va_A [(aS, .inr (6, [sv, .int go, .int ak, .int be, .long bw, .int pt, .int ln, .ref aSo])), (aSo, .inl (cI, 64, .inl fOr)), (aM, .inr (4, [.int cnt, .int vec, .ref aMS, .ref aMC, .ref aMT])), (aMC, .inl (cI, 5, .inl fC)), (aMT, .inl (cI, 320, .inl fT))] sz)) 0 0 (va_A [(aS, .inr (6, [sv, .int go, .int ak, .int be, .long bw, .int pt, .int ln, .ref aSo])), (aSo, .inl (cI, 64, .inl fOr)), (aM, .inr (4, [.int cnt, .int vec, .ref aMS, .ref aMC, .ref aMT])), (aMC, .inl (cI, 5, .inl fC)), (aMT, .inl (cI, 320, .inl fT))] sz) := by
  refine Met.ofW (cc := b_Search_begin) (maxL := 5) (ret := none) (by decide) rfl ?_
  intro p e s m args below meth c s₁ B hml hv
  obtain ⟨rfl, hsz, hP, hKN, hD0⟩ := hv
  obtain ⟨hK, hN⟩ := id hKN
  have hx := B.exec
  have hb := B.bytes
  have hr := B.returns
  have hts0 := atoms_spec (ws := w_Search_begin) B.pre
  have hts : ∀ w ∈ lw_g, w.before _ s = true := fun w h => hts0 w (List.mem_cons_of_mem _ h)
  have hown : s.vm.findClass R_Search = some m.cls := findClass_of_methodNamed B.named
  have hlocks := B.notSynchronized
  subst hsz
  have hD := hD0.self (sz := s.heap.size)
  generalize hAe : va_A [(aS, .inr (6, [sv, .int go, .int ak, .int be, .long bw, .int pt, .int ln, .ref aSo])), (aSo, .inl (cI, 64, .inl fOr)), (aM, .inr (4, [.int cnt, .int vec, .ref aMS, .ref aMC, .ref aMT])), (aMC, .inl (cI, 5, .inl fC)), (aMT, .inl (cI, 320, .inl fT))] s.heap.size = A at hD ⊢
  have hA : ∀ q : Nat, s.heap.size ≤ q → A q := fun q h => by rw [← hAe]; exact Or.inr h
  have hP : va_P (dC, dI) vw_cls [(aS, .inr (6, [sv, .int go, .int ak, .int be, .long bw, .int pt, .int ln, .ref aSo])), (aSo, .inl (cI, 64, .inl fOr)), (aM, .inr (4, [.int cnt, .int vec, .ref aMS, .ref aMC, .ref aMT])), (aMC, .inl (cI, 5, .inl fC)), (aMT, .inl (cI, 320, .inl fT))] s.heap := hP
  have hl := lv_entry ([.ref aS, .ref aX, .ref aM]) (n := 5) (Nat.le_of_ble_eq_true rfl)
  rw [lg_entry_eq]
  generalize (lg_sl ([.ref aS, .ref aX, .ref aM]) ++ List.replicate (5 - (lg_sl ([.ref aS, .ref aX, .ref aM])).length) Slot.unset).toArray = ls at hl ⊢
  have hl : lv_has ls 5 [(0, .ref aS), (1, .ref aX), (2, .ref aM)] := hl
  refine gw_start (fun H locs hH hlocs => ?_)
  rw [← hH] at hP
  have hS : va_S A s.heap H locs := by rw [hH, hlocs]; exact va_S.rf
  refine lv_aload_n hx hb d_Search_begin_0 rfl (lv_at hl 0 rfl) ?_
  have hPc := hP.sub (ws' := [(aS, .inr (6, [sv, .int go, .int ak, .int be, .long bw, .int pt, .int ln, .ref aSo]))]) [0] rfl
  have hDc := hD.sub (ws' := [(aS, .inr (6, [sv, .int go, .int ak, .int be, .long bw, .int pt, .int ln, .ref aSo]))]) [0] (by decide) rfl
  have hFc := va_free (wc := [(aS, .inr (6, [sv, .int go, .int ak, .int be, .long bw, .int pt, .int ln, .ref aSo]))]) hD hS hA [0] rfl
  refine va_callv (va_runV (As := []) (rest := []) ⟨hx, hb, hml, hown, hts⟩ (k_sfo l dC dI H.size cI cZ cQ aS aSo sv go ak be bw pt ln ) ⟨(callB_of 0 hts (ga_all tw_144) rfl rfl rfl (hts _ tw_28) (hts _ tw_141) (by decide +kernel) ⟨Nat.le_of_ble_eq_true rfl, Nat.le_of_ble_eq_true rfl⟩), hts _ tw_142, hts _ tw_143⟩ ⟨fun a U g mk q => by obtain ⟨q0, q1, qP, qK, qD⟩ := q; exact ⟨q0, q1, qP, g_K.same (u := U) (U := U.calling g mk a) rfl qK, qD⟩, va_recv hK hPc (ci := 6) (q0 := 0) rfl rfl, fun U hU hW => ⟨rfl, by rw [hU], by rw [hU]; exact hPc, g_K.warm hW hKN, hDc.weaken (fun _ _ _ _ => trivial)⟩⟩ rfl rfl hl.1 rfl (lv_room (Nat.le_of_ble_eq_true rfl)) d_Search_begin_1 ⟨Nat.le_of_ble_eq_true rfl, Nat.le_of_ble_eq_true rfl⟩) hS (fun q _ h => hFc q h) hFc (fun u t H1 locs htt hvm hw_2 hBB hzz hkk hS => ?_)
  have hw_2 : True := hw_2
  obtain ⟨hPP, hDD⟩ := hBB
  rw [htt] at hPP
  have hPP : va_P (dC, dI) vw_cls [(aS, .inr (6, [.null, .int 0, .int (-1), .int (-1), .long (-9223372036854775808), .int 0, .int 0, .ref aSo]))] H1 := hPP
  have hDD : va_D (va_A [(aS, .inr (6, [sv, .int go, .int ak, .int be, .long bw, .int pt, .int ln, .ref aSo]))] H.size) [(aS, .inr (6, [.null, .int 0, .int (-1), .int (-1), .long (-9223372036854775808), .int 0, .int 0, .ref aSo]))] := hDD
  obtain ⟨hP, hD⟩ := va_join (wr := [(aSo, .inl (cI, 64, .inl fOr)), (aM, .inr (4, [.int cnt, .int vec, .ref aMS, .ref aMC, .ref aMT])), (aMC, .inl (cI, 5, .inl fC)), (aMT, .inl (cI, 320, .inl fT))]) (w1 := [(aS, .inr (6, [.null, .int 0, .int (-1), .int (-1), .long (-9223372036854775808), .int 0, .int 0, .ref aSo]))]) hP hD [0] [1, 2, 3, 4] rfl rfl (by decide) (by decide) hkk hFc hPP hDD
  generalize H1 = H at hP hS ⊢
  have hP : va_P (dC, dI) vw_cls [(aSo, .inl (cI, 64, .inl fOr)), (aM, .inr (4, [.int cnt, .int vec, .ref aMS, .ref aMC, .ref aMT])), (aMC, .inl (cI, 5, .inl fC)), (aMT, .inl (cI, 320, .inl fT)), (aS, .inr (6, [.null, .int 0, .int (-1), .int (-1), .long (-9223372036854775808), .int 0, .int 0, .ref aSo]))] H := hP
  have hD : va_D A [(aSo, .inl (cI, 64, .inl fOr)), (aM, .inr (4, [.int cnt, .int vec, .ref aMS, .ref aMC, .ref aMT])), (aMC, .inl (cI, 5, .inl fC)), (aMT, .inl (cI, 320, .inl fT)), (aS, .inr (6, [.null, .int 0, .int (-1), .int (-1), .long (-9223372036854775808), .int 0, .int 0, .ref aSo]))] := hD
  refine lv_aload_n hx hb d_Search_begin_4 rfl (lv_at hl 0 rfl) ?_
  refine lv_aload_n hx hb d_Search_begin_5 rfl (lv_at hl 1 rfl) ?_
  refine va_put (D := (dC, dI)) (ci := 6) (v := .ref aX) (ty := (.object "SettingSearch$Answers")) (C := R_Search) (T := T_Search) (N := 8) hx hb hts in_Search ty_Search ty_Search_ok nm_Search hown hK hP hD hS 4 rfl rfl 0 (by decide) (hts _ tw_146) (fun _ h9 => h9) rfl (by decide +kernel) rfl rfl (Nat.le_of_ble_eq_true rfl) d_Search_begin_6 (fun H locs hP hD hS => ?_)
  have hP : va_P (dC, dI) vw_cls [(aSo, .inl (cI, 64, .inl fOr)), (aM, .inr (4, [.int cnt, .int vec, .ref aMS, .ref aMC, .ref aMT])), (aMC, .inl (cI, 5, .inl fC)), (aMT, .inl (cI, 320, .inl fT)), (aS, .inr (6, [.ref aX, .int 0, .int (-1), .int (-1), .long (-9223372036854775808), .int 0, .int 0, .ref aSo]))] H := hP
  have hD : va_D A [(aSo, .inl (cI, 64, .inl fOr)), (aM, .inr (4, [.int cnt, .int vec, .ref aMS, .ref aMC, .ref aMT])), (aMC, .inl (cI, 5, .inl fC)), (aMT, .inl (cI, 320, .inl fT)), (aS, .inr (6, [.ref aX, .int 0, .int (-1), .int (-1), .long (-9223372036854775808), .int 0, .int 0, .ref aSo]))] := hD
  refine lv_aload_n hx hb d_Search_begin_9 rfl (lv_at hl 0 rfl) ?_
  refine lv_iconst (v := 1) hx hb d_Search_begin_10 (by decide) ?_
  refine va_put (D := (dC, dI)) (ci := 6) (v := .int 1) (ty := .boolean) (C := R_Search) (T := T_Search) (N := 8) hx hb hts in_Search ty_Search ty_Search_ok nm_Search hown hK hP hD hS 4 rfl rfl 1 (by decide) (hts _ tw_149) (fun _ h9 => h9) rfl (by decide +kernel) rfl rfl (Nat.le_of_ble_eq_true rfl) d_Search_begin_11 (fun H locs hP hD hS => ?_)
  have hP : va_P (dC, dI) vw_cls [(aSo, .inl (cI, 64, .inl fOr)), (aM, .inr (4, [.int cnt, .int vec, .ref aMS, .ref aMC, .ref aMT])), (aMC, .inl (cI, 5, .inl fC)), (aMT, .inl (cI, 320, .inl fT)), (aS, .inr (6, [.ref aX, .int 1, .int (-1), .int (-1), .long (-9223372036854775808), .int 0, .int 0, .ref aSo]))] H := hP
  have hD : va_D A [(aSo, .inl (cI, 64, .inl fOr)), (aM, .inr (4, [.int cnt, .int vec, .ref aMS, .ref aMC, .ref aMT])), (aMC, .inl (cI, 5, .inl fC)), (aMT, .inl (cI, 320, .inl fT)), (aS, .inr (6, [.ref aX, .int 1, .int (-1), .int (-1), .long (-9223372036854775808), .int 0, .int 0, .ref aSo]))] := hD
  refine lv_iconst (v := 0) hx hb d_Search_begin_14 (by decide) ?_
  refine lv_istore_n (lv' := [(3, .int 0), (0, .ref aS), (1, .ref aX), (2, .ref aM)]) hx hb d_Search_begin_15 rfl hl (by decide) rfl (fun ls hl => ?_)
  refine L_bout hx hb hml hown hts hA cI cZ cQ aS aSo aX sv go ak be bw pt ln fOr aM aMS aMC aMT cnt vec fC fT nc nv hcnt hvec hnc hnv hKN ?_ (nc + 1 - 0 + 1) 0 0 fOr 0 0 (Nat.zero_le _) rfl rfl rfl rfl (Nat.lt_succ_self _) H locs (hP.sub [4, 0, 1, 2, 3] rfl) (hD.sub [4, 0, 1, 2, 3] (by decide) rfl) hS ls (lv_sub hl [1, 2, 3, 0] rfl)
  intro jc xc g m0 ln1 hjc exc eg0 em0 eln0 hcc H locs hP hD hS ls hl
  have hl : lv_has ls 5 [(0, .ref aS), (1, .ref aX), (2, .ref aM), (3, .int xc)] := hl
  have hP : va_P (dC, dI) vw_cls [(aS, .inr (6, [.ref aX, .int 1, .int (-1), .int (-1), .long (-9223372036854775808), .int 0, .int ln1, .ref aSo])), (aSo, .inl (cI, 64, .inl g)), (aM, .inr (4, [.int cnt, .int vec, .ref aMS, .ref aMC, .ref aMT])), (aMC, .inl (cI, 5, .inl fC)), (aMT, .inl (cI, 320, .inl fT))] H := hP
  have hD : va_D A [(aS, .inr (6, [.ref aX, .int 1, .int (-1), .int (-1), .long (-9223372036854775808), .int 0, .int ln1, .ref aSo])), (aSo, .inl (cI, 64, .inl g)), (aM, .inr (4, [.int cnt, .int vec, .ref aMS, .ref aMC, .ref aMT])), (aMC, .inl (cI, 5, .inl fC)), (aMT, .inl (cI, 320, .inl fT))] := hD
  have hP9 := hP.sub (ws' := [(aS, .inr (6, [.ref aX, .int 1, .int (-1), .int (-1), .long (-9223372036854775808), .int 0, .int ln1, .ref aSo])), (aSo, .inl (cI, 64, .inl g)), (aM, .inr (4, [.int cnt, .int vec, .ref aMS, .ref aMC, .ref aMT])), (aMC, .inl (cI, 5, .inl fC)), (aMT, .inl (cI, 320, .inl fT))]) [0, 1, 2, 3, 4] rfl
  have hD9 := hD.sub (ws' := [(aS, .inr (6, [.ref aX, .int 1, .int (-1), .int (-1), .long (-9223372036854775808), .int 0, .int ln1, .ref aSo])), (aSo, .inl (cI, 64, .inl g)), (aM, .inr (4, [.int cnt, .int vec, .ref aMS, .ref aMC, .ref aMT])), (aMC, .inl (cI, 5, .inl fC)), (aMT, .inl (cI, 320, .inl fT))]) [0, 1, 2, 3, 4] (by decide) rfl
  have hpost_3 : g = (q_out (q_kk cnt vec fT fC nc) nv fOr (nc + 1)).1 ∧ ln1 = nI (q_out (q_kk cnt vec fT fC nc) nv fOr (nc + 1)).2 := ⟨by rw [eg0, hcc], by rw [eln0, em0, hcc]⟩
  exact W.vret hx hb hr (fun t ht hW => ⟨⟨(ln1, g), rfl, hpost_3, by rw [ht]; exact hP9, hD9⟩, hS.F ht⟩) hS.2.2 d_Search_begin_88
