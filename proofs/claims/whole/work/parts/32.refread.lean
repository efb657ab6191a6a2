/-- what is left of a vector's number when j machines, from the last one on, are divided out -/
def q_rest (uS : Nat → Int32) (nc jv : Nat) : Nat → Nat
  | 0 => jv
  | j + 1 => q_rest uS nc jv j / (uS (nc - 1 - j)).toNatClampNeg
theorem q_rest_le (uS : Nat → Int32) (nc jv : Nat) : ∀ j, q_rest uS nc jv j ≤ jv
  | 0 => Nat.le_refl _
  | j + 1 => Nat.le_trans (Nat.div_le_self _ _) (q_rest_le uS nc jv j)
def q_dg (uS : Nat → Int32) (nc jv jm : Nat) : Nat := q_rest uS nc jv (nc - 1 - jm) % (uS jm).toNatClampNeg
def q_chr (uS uC : Nat → Int32) (nc jv : Nat) : Nat → Int32
  | 0 => 0
  | k + 1 => q_chr uS uC nc jv k + if nI (q_dg uS nc jv k) = uC k then 0 else 1
def q_allr (uCa : Nat → Int32) (jt po : Nat) : Nat → Int64
  | 0 => 0
  | k + 1 => q_allr uCa jt po k + (uCa (9 * jt + 3 * po + k)).toInt64
def q_ke (uCe uA uB uM uCa uL : Nat → Int32) (nc np jt jr : Nat) : Int32 :=
  if 4 ≤ jr then (if nc ≤ jr - 4 then 1 else if uM (jr - 4) < 0 then 1 else if uM (jr - 4) < uL (5 * jt + (jr - 4)) then 0 else 1)
  else if np ≤ jr then 1
  else if (uCa (9 * jt + (uCe jr).toNatClampNeg)).toInt64 * (uB jr).toInt64 < (uA jr).toInt64 * q_allr uCa jt ((uCe jr).toNatClampNeg / 3) 3 then 0 else 1
theorem q_ke01 (uCe uA uB uM uCa uL : Nat → Int32) (nc np jt jr : Nat) : q_ke uCe uA uB uM uCa uL nc np jt jr = 0 ∨ q_ke uCe uA uB uM uCa uL nc np jt jr = 1 := by
  unfold q_ke
  repeat' split
  all_goals simp
def q_st (ke : Nat → Int32) (bt : Int32) : Nat → Int32
  | 0 => 1
  | k + 1 => if q_st ke bt k = 0 then 0 else if nI k = bt then 1 else if ke k = 0 then 0 else 1
theorem q_st01 (ke : Nat → Int32) (bt : Int32) : ∀ k, q_st ke bt k = 0 ∨ q_st ke bt k = 1
  | 0 => Or.inr rfl
  | k + 1 => by
    simp only [q_st]
    repeat' split
    all_goals simp
def q_wor (uCa uW : Nat → Int32) (jt : Nat) : Nat → Int64
  | 0 => 0
  | k + 1 => q_wor uCa uW jt k + (uCa (9 * jt + k)).toInt64 * (uW k).toInt64
def q_it (uM : Nat → Int32) (nc np jr : Nat) : Int32 := if 4 ≤ jr then (if nc ≤ jr - 4 then 0 else if uM (jr - 4) < 0 then 0 else 1) else if np ≤ jr then 0 else 1
def q_fa (uG : Nat → Int32) (g : Int64) : Nat → Nat → Int32
  | 0, _ => -1
  | n + 1, j => if (uG j).toInt64 = g then nI j else q_fa uG g n (j + 1)
theorem nI_add1 {a b : Nat} (h : b ≤ a) : nI a - nI b = nI (a - b) := pk_sub h
theorem q_fa_s {uG : Nat → Int32} {g : Int64} {nf i : Nat} (h : i < nf) : q_fa uG g (nf - i) i = if (uG i).toInt64 = g then nI i else q_fa uG g (nf - (i + 1)) (i + 1) := by
  rw [show nf - i = (nf - (i + 1)) + 1 by omega, q_fa]
theorem q_fa_r {uG : Nat → Int32} {g : Int64} : ∀ (n j : Nat), n + j ≤ 4 → (q_fa uG g n j = -1) ∨ ∃ k, k < n + j ∧ q_fa uG g n j = nI k
  | 0, j, _ => Or.inl rfl
  | n + 1, j, h => by
    simp only [q_fa]
    split
    · exact Or.inr ⟨j, by omega, rfl⟩
    · rcases q_fa_r n (j + 1) (by omega) with q | ⟨k, hk, e⟩
      · exact Or.inl q
      · exact Or.inr ⟨k, by omega, e⟩
theorem so_end {x m : Int32} {nc j jm : Nat} (h : x ≤ m) (ex : x = nI (nc - j) - 1) (em : m = nI jm) (hj : j ≤ nc - 1 - jm) (hjm : jm < nc) (hn : nc < 2 ^ 31) : nc - 1 - j = jm := by
  rw [ex, nI_down (by omega), em] at h
  have := (nI_leI (by omega) (by omega)).mp h
  omega
theorem so_in {x m : Int32} {nc j jm : Nat} (h : ¬ x ≤ m) (ex : x = nI (nc - j) - 1) (em : m = nI jm) (hj : j ≤ nc - 1 - jm) (hjm : jm < nc) (hn : nc < 2 ^ 31) : jm < nc - 1 - j := by
  rw [ex, nI_down (by omega), em] at h
  rcases Nat.lt_or_ge jm (nc - 1 - j) with q | q
  · exact q
  · exact absurd (nI_le q (by omega)) h
theorem so_div {v w rest : Int32} {uS : Nat → Int32} {nc jv j : Nat} (ev : v = rest / w) (ew : w = uS (nc - 1 - j)) (er : rest = nI (q_rest uS nc jv j)) (hS : uS (nc - 1 - j) = nI (uS (nc - 1 - j)).toNatClampNeg ∧ 1 ≤ (uS (nc - 1 - j)).toNatClampNeg ∧ (uS (nc - 1 - j)).toNatClampNeg ≤ 4) (hjv : jv < 64) : v = nI (q_rest uS nc jv (j + 1)) := by
  have h1 := q_rest_le uS nc jv j
  rw [ev, ew, er]
  conv => lhs; rw [hS.1]
  rw [pk_div (by omega) (by omega) (by omega)]
  rfl
theorem so_rem {v w rest : Int32} {uS : Nat → Int32} {nc jv jm : Nat} (ev : v = rest - rest / w * w) (ew : w = uS jm) (er : rest = nI (q_rest uS nc jv (nc - 1 - jm))) (hS : uS jm = nI (uS jm).toNatClampNeg ∧ 1 ≤ (uS jm).toNatClampNeg ∧ (uS jm).toNatClampNeg ≤ 4) (hjv : jv < 64) : v = nI (q_dg uS nc jv jm) := by
  have h1 := q_rest_le uS nc jv (nc - 1 - jm)
  rw [ev, ew, er]
  conv => lhs; rw [hS.1]
  rw [pk_rem (by omega) (by omega) (by omega)]
  rfl
set_option maxHeartbeats 4000000 in
set_option maxRecDepth 100000 in
theorem L_so {p : Program} {l : Launch} {e : Env} {s : State} {m : MethodId} {args : Array Value} {below : List Frame} {meth : Method} {c : Code} {Q : State → Prop} {A : Nat → Prop} (hx : p.tables.exec = Jvm.exec) (hb : c.code = b_Ref_settingOf) (hml : c.maxLocals = 5) (hown : s.vm.findClass R_Ref = some m.cls) (hts : ∀ w ∈ lw_g, w.before args s = true) (hA : ∀ q, s.heap.size ≤ q → A q) {dC : Nat → ClassId} {dI : Nat → Nat → Nat} (cI : ClassId) (cZ : ClassId) (cQ : ClassId) (b0 : Nat) (rc : Int32) (bS : Nat) (bC : Nat) (rv : Int32) (bW : Nat) (rp : Int32) (bCe : Nat) (bA : Nat) (bB : Nat) (bM : Nat) (rf : Int32) (bG : Nat) (bK : Nat) (bCa : Nat) (bL : Nat) (rd : Int32) (rg : Int32) (re : Int32) (bO : Nat) (rl : Int32) (rq : Int32) (rb : Int32) (rz : Int64) (uS : Nat → Int32) (v1 : Int32) (jv : Nat) (m1 : Int32) (jm : Nat) (nc : Nat)  (hrc : rc = nI nc) (hnc : nc ≤ 5) (hS1 : q_okS uS nc) (hv1 : v1 = nI jv) (hjv : jv < 64) (hm1 : m1 = nI jm) (hjm : jm < nc)  (hKN : g_K dC dI [(cI, .int), (cZ, .boolean), (cQ, (.object "SettingSearch$Answers"))] s)
    (kx_32 : ∀ (j : Nat) (xm : Int32) (rest : Int32) (_ : j ≤ nc - 1 - jm) (_ : xm = nI (nc - j) - 1) (_ : rest = nI (q_rest uS nc jv j)) (_ : nc - 1 - j = jm) (H : Heap) (locs : List Loc), va_P (dC, dI) vw_cls [(b0, .inr (1, [.int rc, .ref bS, .ref bC, .int rv, .ref bW, .int rp, .ref bCe, .ref bA, .ref bB, .ref bM, .int rf, .ref bG, .ref bK, .ref bCa, .ref bL, .int rd, .int rg, .int re, .ref bO, .int rl, .int rq, .int rb, .long rz])), (bS, .inl (cI, 5, .inl uS))] H → va_D A [(b0, .inr (1, [.int rc, .ref bS, .ref bC, .int rv, .ref bW, .int rp, .ref bCe, .ref bA, .ref bB, .ref bM, .int rf, .ref bG, .ref bK, .ref bCa, .ref bL, .int rd, .int rg, .int re, .ref bO, .int rl, .int rq, .int rb, .long rz])), (bS, .inl (cI, 5, .inl uS))] → va_S A s.heap H locs → ∀ (ls : Array Slot), lv_has ls 5 [(0, .ref b0), (1, .int v1), (2, .int m1), (3, .int rest), (4, .int xm)] → W p l e ({ frames := 0, cells := 0, slots := 0, locals := 0 } : Room) s m args below meth c H locs 0 0 Q (F0 m 32 ls [])) :
    ∀ (n : Nat) (j : Nat) (xm : Int32) (rest : Int32) (_ : j ≤ nc - 1 - jm) (_ : xm = nI (nc - j) - 1) (_ : rest = nI (q_rest uS nc jv j)) (_ : nc - j < n) (H : Heap) (locs : List Loc), va_P (dC, dI) vw_cls [(b0, .inr (1, [.int rc, .ref bS, .ref bC, .int rv, .ref bW, .int rp, .ref bCe, .ref bA, .ref bB, .ref bM, .int rf, .ref bG, .ref bK, .ref bCa, .ref bL, .int rd, .int rg, .int re, .ref bO, .int rl, .int rq, .int rb, .long rz])), (bS, .inl (cI, 5, .inl uS))] H → va_D A [(b0, .inr (1, [.int rc, .ref bS, .ref bC, .int rv, .ref bW, .int rp, .ref bCe, .ref bA, .ref bB, .ref bM, .int rf, .ref bG, .ref bK, .ref bCa, .ref bL, .int rd, .int rg, .int re, .ref bO, .int rl, .int rq, .int rb, .long rz])), (bS, .inl (cI, 5, .inl uS))] → va_S A s.heap H locs → ∀ (ls : Array Slot), lv_has ls 5 [(0, .ref b0), (1, .int v1), (2, .int m1), (3, .int rest), (4, .int xm)] → W p l e ({ frames := 0, cells := 0, slots := 0, locals := 0 } : Room) s m args below meth c H locs 0 0 Q (F0 m 10 ls []) := by
  obtain ⟨hK, hN⟩ := id hKN
  intro n
  induction n with
  | zero =>
    intro j xm rest hj exm erest hm
    exact absurd hm (Nat.not_lt_zero _)
  | succ n ih =>
    intro j xm rest hj exm erest hm H locs hP hD hS ls hl
    refine lv_iload hx hb d_Ref_settingOf_10 (lv_at hl 4 rfl) ?_
    refine lv_iload_n hx hb d_Ref_settingOf_12 rfl (lv_at hl 2 rfl) ?_
    refine lv_icmp_le (tgt := 32) hx hb d_Ref_settingOf_13 (by decide) (fun c_1 => ?_) (fun c_1 => ?_)
    · skip
      have hend : nc - 1 - j = jm := so_end c_1 exm hm1 hj hjm (by omega)
      exact kx_32 j xm rest hj exm erest hend H locs (hP.sub [0, 1] rfl) (hD.sub [0, 1] (by decide) rfl) hS ls (lv_sub hl [0, 1, 2, 3, 4] rfl)
    · skip
      have hlt : jm < nc - 1 - j := so_in c_1 exm hm1 hj hjm (by omega)
      have exm2 : xm = nI (nc - 1 - j) := by rw [exm]; exact nI_down (by omega)
      refine lv_iload_n hx hb d_Ref_settingOf_16 rfl (lv_at hl 3 rfl) ?_
      refine lv_aload_n hx hb d_Ref_settingOf_17 rfl (lv_at hl 0 rfl) ?_
      refine va_get (D := (dC, dI)) (ci := 1) (v := .ref bS) (C := R_Ref) (T := T_Ref) (N := 23) hx hb hts in_Ref hown hK hP 0 rfl rfl 1 (by decide) (hts _ tw_430) (fun _ h9 => h9) rfl d_Ref_settingOf_18 ?_
      refine lv_iload hx hb d_Ref_settingOf_21 (lv_at hl 4 rfl) ?_
      have eh_2 : xm = nI (nc - 1 - j) := exm2
      have bh_2 : nc - 1 - j < 5 := by omega
      have h_2 : vp_in xm 5 := by rw [eh_2]; exact vp_in_nI bh_2 (by decide)
      have kh_2 : xm.toNatClampNeg = nc - 1 - j := by rw [eh_2]; exact nI_clamp (by omega)
      refine va_iald hx hb hK hP 1 0 rfl rfl h_2 d_Ref_settingOf_23 ?_
      rw [kh_2]
      refine lv_topi (fun v_3 ev_3 => ?_)
      refine lv_idiv hx hb d_Ref_settingOf_24 (by rw [ev_3, (hS1 (nc - 1 - j) (by omega)).1]; exact nI_ne0 (by have := (hS1 (nc - 1 - j) (by omega)).2; omega) (by have := (hS1 (nc - 1 - j) (by omega)).2; omega)) ?_
      refine lv_topi (fun v_4 ev_4 => ?_)
      refine lv_istore_n (lv' := [(3, .int v_4), (0, .ref b0), (1, .int v1), (2, .int m1), (4, .int xm)]) hx hb d_Ref_settingOf_25 rfl hl (by decide) rfl (fun ls hl => ?_)
      obtain ⟨v_5, ev_5⟩ : ∃ y : Int32, y = xm + (-1) := ⟨_, rfl⟩
      refine lv_iinc (v := v_5) (lv' := [(4, .int v_5), (3, .int v_4), (0, .ref b0), (1, .int v1), (2, .int m1)]) hx hb d_Ref_settingOf_26 hl (k := 4) rfl (by rw [ev_5]; rfl) (by decide) rfl (fun ls hl => ?_)
      refine lv_goto (tgt := 10) hx hb d_Ref_settingOf_29 (by decide) ?_
      exact ih (j + 1) v_5 v_4 (by omega) (by rw [ev_5, exm2]; exact down2 (by omega)) (so_div ev_4 ev_3 erest (hS1 (nc - 1 - j) (by omega)) hjv) (by omega) H locs (hP.sub [0, 1] rfl) (hD.sub [0, 1] (by decide) rfl) hS ls (lv_sub hl [2, 3, 4, 1, 0] rfl)
set_option maxHeartbeats 4000000 in
set_option maxRecDepth 100000 in
/-- the reference: settingOf -/
theorem m_so (l : Launch) (dC : Nat → ClassId) (dI : Nat → Nat → Nat) (sz : Nat) (cI : ClassId) (cZ : ClassId) (cQ : ClassId) (b0 : Nat) (rc : Int32) (bS : Nat) (bC : Nat) (rv : Int32) (bW : Nat) (rp : Int32) (bCe : Nat) (bA : Nat) (bB : Nat) (bM : Nat) (rf : Int32) (bG : Nat) (bK : Nat) (bCa : Nat) (bL : Nat) (rd : Int32) (rg : Int32) (re : Int32) (bO : Nat) (rl : Int32) (rq : Int32) (rb : Int32) (rz : Int64) (uS : Nat → Int32) (v1 : Int32) (jv : Nat) (m1 : Int32) (jm : Nat) (nc : Nat) (hrc : rc = nI nc) (hnc : nc ≤ 5) (hS1 : q_okS uS nc) (hv1 : v1 = nI jv) (hjv : jv < 64) (hm1 : m1 = nI jm) (hjm : jm < nc) : Met l y_Ref_settingOf w_Ref_settingOf ({ frames := 0, cells := 0, slots := 0, locals := 0 } : Room) (va_Pc [.ref b0, .int v1, .int m1] (fun U => U.heap.size = sz ∧ va_P (dC, dI) vw_cls [(b0, .inr (1, [.int rc, .ref bS, .ref bC, .int rv, .ref bW, .int rp, .ref bCe, .ref bA, .ref bB, .ref bM, .int rf, .ref bG, .ref bK, .ref bCa, .ref bL, .int rd, .int rg, .int re, .ref bO, .int rl, .int rq, .int rb, .long rz])), (bS, .inl (cI, 5, .inl uS))] U.heap ∧ g_K dC dI [(cI, .int), (cZ, .boolean), (cQ, (.object "SettingSearch$Answers"))] U ∧ va_D (fun _ => True) [(b0, .inr (1, [.int rc, .ref bS, .ref bC, .int rv, .ref bW, .int rp, .ref bCe, .ref bA, .ref bB, .ref bM, .int rf, .ref bG, .ref bK, .ref bCa, .ref bL, .int rd, .int rg, .int re, .ref bO, .int rl, .int rq, .int rb, .long rz])), (bS, .inl (cI, 5, .inl uS))])) (va_Qi (fun (r : Int32) (u : Unit) => r = nI (q_dg uS nc jv jm)) (fun (u : Unit) (t : State) => va_P (dC, dI) vw_cls [(b0, .inr (1, [.int rc, .ref bS, .ref bC, .int rv, .ref bW, .int rp, .ref bCe, .ref bA, .ref bB, .ref bM, .int rf, .ref bG, .ref bK, .ref bCa, .ref bL, .int rd, .int rg, .int re, .ref bO, .int rl, .int rq, .int rb, .long rz])), (bS, .inl (cI, 5, .inl uS))] t.heap ∧ va_D (va_A [(b0, .inr (1, [.int rc, .ref bS, .ref bC, .int rv, .ref bW, .int rp, .ref bCe, .ref bA, .ref bB, .ref bM, .int rf, .ref bG, .ref bK, .ref bCa, .ref bL, .int rd, .int rg, .int re, .ref bO, .int rl, .int rq, .int rb, .long rz])), (bS, .inl (cI, 5, .inl uS))] sz) [(b0, .inr (1, [.int rc, .ref bS, .ref bC, .int rv, .ref bW, .int rp, .ref bCe, .ref bA, .ref bB, .ref bM, .int rf, .ref bG, .ref bK, .ref bCa, .ref bL, .int rd, .int rg, .int re, .ref bO, .int rl, .int rq, .int rb, .long rz])), (bS, .inl (cI, 5, .inl uS))]) (va_A [(b0, .inr (1, [.int rc, .ref bS, .ref bC, .int rv, .ref bW, .int rp, .ref bCe, .ref bA, .ref bB, .ref bM, .int rf, .ref bG, .ref bK, .ref bCa, .ref bL, .int rd, .int rg, .int re, .ref bO, .int rl, .int rq, .int rb, .long rz])), (bS, .inl (cI, 5, .inl uS))] sz)) 0 0 (va_A [(b0, .inr (1, [.int rc, .ref bS, .ref bC, .int rv, .ref bW, .int rp, .ref bCe, .ref bA, .ref bB, .ref bM, .int rf, .ref bG, .ref bK, .ref bCa, .ref bL, .int rd, .int rg, .int re, .ref bO, .int rl, .int rq, .int rb, .long rz])), (bS, .inl (cI, 5, .inl uS))] sz) := by
  refine Met.ofW (cc := b_Ref_settingOf) (maxL := 5) (ret := (some .int)) (by decide) rfl ?_
  intro p e s m args below meth c s₁ B hml hv
  obtain ⟨rfl, hsz, hP, hKN, hD0⟩ := hv
  obtain ⟨hK, hN⟩ := id hKN
  have hx := B.exec
  have hb := B.bytes
  have hr := B.returns
  have hts0 := atoms_spec (ws := w_Ref_settingOf) B.pre
  have hts : ∀ w ∈ lw_g, w.before _ s = true := fun w h => hts0 w (List.mem_cons_of_mem _ h)
  have hown : s.vm.findClass R_Ref = some m.cls := findClass_of_methodNamed B.named
  have hlocks := B.notSynchronized
  subst hsz
  have hD := hD0.self (sz := s.heap.size)
  generalize hAe : va_A [(b0, .inr (1, [.int rc, .ref bS, .ref bC, .int rv, .ref bW, .int rp, .ref bCe, .ref bA, .ref bB, .ref bM, .int rf, .ref bG, .ref bK, .ref bCa, .ref bL, .int rd, .int rg, .int re, .ref bO, .int rl, .int rq, .int rb, .long rz])), (bS, .inl (cI, 5, .inl uS))] s.heap.size = A at hD ⊢
  have hA : ∀ q : Nat, s.heap.size ≤ q → A q := fun q h => by rw [← hAe]; exact Or.inr h
  have hP : va_P (dC, dI) vw_cls [(b0, .inr (1, [.int rc, .ref bS, .ref bC, .int rv, .ref bW, .int rp, .ref bCe, .ref bA, .ref bB, .ref bM, .int rf, .ref bG, .ref bK, .ref bCa, .ref bL, .int rd, .int rg, .int re, .ref bO, .int rl, .int rq, .int rb, .long rz])), (bS, .inl (cI, 5, .inl uS))] s.heap := hP
  have hl := lv_entry ([.ref b0, .int v1, .int m1]) (n := 5) (Nat.le_of_ble_eq_true rfl)
  rw [lg_entry_eq]
  generalize (lg_sl ([.ref b0, .int v1, .int m1]) ++ List.replicate (5 - (lg_sl ([.ref b0, .int v1, .int m1])).length) Slot.unset).toArray = ls at hl ⊢
  have hl : lv_has ls 5 [(0, .ref b0), (1, .int v1), (2, .int m1)] := hl
  refine gw_start (fun H locs hH hlocs => ?_)
  rw [← hH] at hP
  have hS : va_S A s.heap H locs := by rw [hH, hlocs]; exact va_S.rf
  refine lv_iload_n hx hb d_Ref_settingOf_0 rfl (lv_at hl 1 rfl) ?_
  refine lv_istore_n (lv' := [(3, .int v1), (0, .ref b0), (1, .int v1), (2, .int m1)]) hx hb d_Ref_settingOf_1 rfl hl (by decide) rfl (fun ls hl => ?_)
  refine lv_aload_n hx hb d_Ref_settingOf_2 rfl (lv_at hl 1 rfl) ?_
  refine va_get (D := (dC, dI)) (ci := 1) (v := .int rc) (C := R_Ref) (T := T_Ref) (N := 23) hx hb hts in_Ref hown hK hP 0 rfl rfl 0 (by decide) (hts _ tw_429) (fun _ h9 => h9) rfl d_Ref_settingOf_3 ?_
  refine lv_iconst (v := 1) hx hb d_Ref_settingOf_6 (by decide) ?_
  refine lv_isub hx hb d_Ref_settingOf_7 ?_
  refine lv_topi (fun v_1 ev_1 => ?_)
  refine lv_istore (lv' := [(4, .int v_1), (3, .int v1), (0, .ref b0), (1, .int v1), (2, .int m1)]) hx hb d_Ref_settingOf_8 hl (by decide) rfl (fun ls hl => ?_)
  refine L_so hx hb hml hown hts hA cI cZ cQ b0 rc bS bC rv bW rp bCe bA bB bM rf bG bK bCa bL rd rg re bO rl rq rb rz uS v1 jv m1 jm nc hrc hnc hS1 hv1 hjv hm1 hjm hKN ?_ (nc - 0 + 1) 0 v_1 v1 (Nat.zero_le _) (by rw [ev_1, hrc]; rfl) hv1 (Nat.lt_succ_self _) H locs (hP.sub [0, 1] rfl) (hD.sub [0, 1] (by decide) rfl) hS ls (lv_sub hl [2, 3, 4, 1, 0] rfl)
  intro j xm rest hj exm erest hend H locs hP hD hS ls hl
  have hl : lv_has ls 5 [(0, .ref b0), (1, .int v1), (2, .int m1), (3, .int rest), (4, .int xm)] := hl
  have hP : va_P (dC, dI) vw_cls [(b0, .inr (1, [.int rc, .ref bS, .ref bC, .int rv, .ref bW, .int rp, .ref bCe, .ref bA, .ref bB, .ref bM, .int rf, .ref bG, .ref bK, .ref bCa, .ref bL, .int rd, .int rg, .int re, .ref bO, .int rl, .int rq, .int rb, .long rz])), (bS, .inl (cI, 5, .inl uS))] H := hP
  have hD : va_D A [(b0, .inr (1, [.int rc, .ref bS, .ref bC, .int rv, .ref bW, .int rp, .ref bCe, .ref bA, .ref bB, .ref bM, .int rf, .ref bG, .ref bK, .ref bCa, .ref bL, .int rd, .int rg, .int re, .ref bO, .int rl, .int rq, .int rb, .long rz])), (bS, .inl (cI, 5, .inl uS))] := hD
  refine lv_iload_n hx hb d_Ref_settingOf_32 rfl (lv_at hl 3 rfl) ?_
  refine lv_aload_n hx hb d_Ref_settingOf_33 rfl (lv_at hl 0 rfl) ?_
  refine va_get (D := (dC, dI)) (ci := 1) (v := .ref bS) (C := R_Ref) (T := T_Ref) (N := 23) hx hb hts in_Ref hown hK hP 0 rfl rfl 1 (by decide) (hts _ tw_430) (fun _ h9 => h9) rfl d_Ref_settingOf_34 ?_
  refine lv_iload_n hx hb d_Ref_settingOf_37 rfl (lv_at hl 2 rfl) ?_
  have eh_2 : m1 = nI (jm) := hm1
  have bh_2 : jm < 5 := by omega
  have h_2 : vp_in m1 5 := by rw [eh_2]; exact vp_in_nI bh_2 (by decide)
  have kh_2 : m1.toNatClampNeg = jm := by rw [eh_2]; exact nI_clamp (by omega)
  refine va_iald hx hb hK hP 1 0 rfl rfl h_2 d_Ref_settingOf_38 ?_
  rw [kh_2]
  refine lv_topi (fun v_3 ev_3 => ?_)
  refine lv_irem hx hb d_Ref_settingOf_39 (by rw [ev_3, (hS1 (jm) (by omega)).1]; exact nI_ne0 (by have := (hS1 (jm) (by omega)).2; omega) (by have := (hS1 (jm) (by omega)).2; omega)) ?_
  refine lv_topi (fun v_4 ev_4 => ?_)
  have hP9 := hP.sub (ws' := [(b0, .inr (1, [.int rc, .ref bS, .ref bC, .int rv, .ref bW, .int rp, .ref bCe, .ref bA, .ref bB, .ref bM, .int rf, .ref bG, .ref bK, .ref bCa, .ref bL, .int rd, .int rg, .int re, .ref bO, .int rl, .int rq, .int rb, .long rz])), (bS, .inl (cI, 5, .inl uS))]) [0, 1] rfl
  have hD9 := hD.sub (ws' := [(b0, .inr (1, [.int rc, .ref bS, .ref bC, .int rv, .ref bW, .int rp, .ref bCe, .ref bA, .ref bB, .ref bM, .int rf, .ref bG, .ref bK, .ref bCa, .ref bL, .int rd, .int rg, .int re, .ref bO, .int rl, .int rq, .int rb, .long rz])), (bS, .inl (cI, 5, .inl uS))]) [0, 1] (by decide) rfl
  have hpost_5 : (v_4 : Int32) = nI (q_dg uS nc jv jm) := so_rem ev_4 ev_3 (by rw [erest, show j = nc - 1 - jm by omega]) (hS1 jm hjm) hjv
  exact W.iret (v := v_4) hx hb hr (fun t ht hW => ⟨⟨v_4, (), rfl, hpost_5, by rw [ht]; exact hP9, hD9⟩, hS.F ht⟩) hS.2.2 d_Ref_settingOf_40
set_option maxHeartbeats 4000000 in
set_option maxRecDepth 100000 in
theorem L_cr {p : Program} {l : Launch} {e : Env} {s : State} {m : MethodId} {args : Array Value} {below : List Frame} {meth : Method} {c : Code} {Q : State → Prop} {A : Nat → Prop} (hx : p.tables.exec = Jvm.exec) (hb : c.code = b_Ref_changesOf) (hml : c.maxLocals = 4) (hown : s.vm.findClass R_Ref = some m.cls) (hts : ∀ w ∈ lw_g, w.before args s = true) (hA : ∀ q, s.heap.size ≤ q → A q) {dC : Nat → ClassId} {dI : Nat → Nat → Nat} (cI : ClassId) (cZ : ClassId) (cQ : ClassId) (b0 : Nat) (rc : Int32) (bS : Nat) (bC : Nat) (rv : Int32) (bW : Nat) (rp : Int32) (bCe : Nat) (bA : Nat) (bB : Nat) (bM : Nat) (rf : Int32) (bG : Nat) (bK : Nat) (bCa : Nat) (bL : Nat) (rd : Int32) (rg : Int32) (re : Int32) (bO : Nat) (rl : Int32) (rq : Int32) (rb : Int32) (rz : Int64) (uS : Nat → Int32) (uC : Nat → Int32) (v1 : Int32) (jv : Nat) (nc : Nat)  (hrc : rc = nI nc) (hnc : nc ≤ 5) (hS1 : q_okS uS nc) (hv1 : v1 = nI jv) (hjv : jv < 64)  (hKN : g_K dC dI [(cI, .int), (cZ, .boolean), (cQ, (.object "SettingSearch$Answers"))] s)
    (kx_41 : ∀ (i : Nat) (xi : Int32) (acc : Int32) (_ : i ≤ nc) (_ : xi = nI i) (_ : acc = q_chr uS uC nc jv i) (_ : i = nc) (H : Heap) (locs : List Loc), va_P (dC, dI) vw_cls [(b0, .inr (1, [.int rc, .ref bS, .ref bC, .int rv, .ref bW, .int rp, .ref bCe, .ref bA, .ref bB, .ref bM, .int rf, .ref bG, .ref bK, .ref bCa, .ref bL, .int rd, .int rg, .int re, .ref bO, .int rl, .int rq, .int rb, .long rz])), (bS, .inl (cI, 5, .inl uS)), (bC, .inl (cI, 5, .inl uC))] H → va_D A [(b0, .inr (1, [.int rc, .ref bS, .ref bC, .int rv, .ref bW, .int rp, .ref bCe, .ref bA, .ref bB, .ref bM, .int rf, .ref bG, .ref bK, .ref bCa, .ref bL, .int rd, .int rg, .int re, .ref bO, .int rl, .int rq, .int rb, .long rz])), (bS, .inl (cI, 5, .inl uS)), (bC, .inl (cI, 5, .inl uC))] → va_S A s.heap H locs → ∀ (ls : Array Slot), lv_has ls 4 [(0, .ref b0), (1, .int v1), (2, .int acc), (3, .int xi)] → W p l e ({ frames := 1, cells := 0, slots := 0, locals := 24 } : Room) s m args below meth c H locs 0 0 Q (F0 m 41 ls [])) :
    ∀ (n : Nat) (i : Nat) (xi : Int32) (acc : Int32) (_ : i ≤ nc) (_ : xi = nI i) (_ : acc = q_chr uS uC nc jv i) (_ : nc - i < n) (H : Heap) (locs : List Loc), va_P (dC, dI) vw_cls [(b0, .inr (1, [.int rc, .ref bS, .ref bC, .int rv, .ref bW, .int rp, .ref bCe, .ref bA, .ref bB, .ref bM, .int rf, .ref bG, .ref bK, .ref bCa, .ref bL, .int rd, .int rg, .int re, .ref bO, .int rl, .int rq, .int rb, .long rz])), (bS, .inl (cI, 5, .inl uS)), (bC, .inl (cI, 5, .inl uC))] H → va_D A [(b0, .inr (1, [.int rc, .ref bS, .ref bC, .int rv, .ref bW, .int rp, .ref bCe, .ref bA, .ref bB, .ref bM, .int rf, .ref bG, .ref bK, .ref bCa, .ref bL, .int rd, .int rg, .int re, .ref bO, .int rl, .int rq, .int rb, .long rz])), (bS, .inl (cI, 5, .inl uS)), (bC, .inl (cI, 5, .inl uC))] → va_S A s.heap H locs → ∀ (ls : Array Slot), lv_has ls 4 [(0, .ref b0), (1, .int v1), (2, .int acc), (3, .int xi)] → W p l e ({ frames := 1, cells := 0, slots := 0, locals := 24 } : Room) s m args below meth c H locs 0 0 Q (F0 m 4 ls []) := by
  obtain ⟨hK, hN⟩ := id hKN
  intro n
  induction n with
  | zero =>
    intro i xi acc hi exi eacc hm
    exact absurd hm (Nat.not_lt_zero _)
  | succ n ih =>
    intro i xi acc hi exi eacc hm H locs hP hD hS ls hl
    refine lv_iload_n hx hb d_Ref_changesOf_4 rfl (lv_at hl 3 rfl) ?_
    refine lv_aload_n hx hb d_Ref_changesOf_5 rfl (lv_at hl 0 rfl) ?_
    refine va_get (D := (dC, dI)) (ci := 1) (v := .int rc) (C := R_Ref) (T := T_Ref) (N := 23) hx hb hts in_Ref hown hK hP 0 rfl rfl 0 (by decide) (hts _ tw_429) (fun _ h9 => h9) rfl d_Ref_changesOf_6 ?_
    refine lv_icmp_ge (tgt := 41) hx hb d_Ref_changesOf_9 (by decide) (fun c_1 => ?_) (fun c_1 => ?_)
    · skip
      have hendi := lp_ge (N := nc) c_1 exi hrc hi (by omega)
      exact kx_41 i xi acc hi exi eacc hendi H locs (hP.sub [0, 1, 2] rfl) (hD.sub [0, 1, 2] (by decide) rfl) hS ls (lv_sub hl [0, 1, 2, 3] rfl)
    · skip
      have hlti := lp_lt (N := nc) c_1 exi hrc (by omega)
      refine lv_iload_n hx hb d_Ref_changesOf_12 rfl (lv_at hl 2 rfl) ?_
      refine lv_aload_n hx hb d_Ref_changesOf_13 rfl (lv_at hl 0 rfl) ?_
      refine lv_iload_n hx hb d_Ref_changesOf_14 rfl (lv_at hl 1 rfl) ?_
      refine lv_iload_n hx hb d_Ref_changesOf_15 rfl (lv_at hl 3 rfl) ?_
      have hPc := hP.sub (ws' := [(b0, .inr (1, [.int rc, .ref bS, .ref bC, .int rv, .ref bW, .int rp, .ref bCe, .ref bA, .ref bB, .ref bM, .int rf, .ref bG, .ref bK, .ref bCa, .ref bL, .int rd, .int rg, .int re, .ref bO, .int rl, .int rq, .int rb, .long rz])), (bS, .inl (cI, 5, .inl uS))]) [0, 1] rfl
      have hDc := hD.sub (ws' := [(b0, .inr (1, [.int rc, .ref bS, .ref bC, .int rv, .ref bW, .int rp, .ref bCe, .ref bA, .ref bB, .ref bM, .int rf, .ref bG, .ref bK, .ref bCa, .ref bL, .int rd, .int rg, .int re, .ref bO, .int rl, .int rq, .int rb, .long rz])), (bS, .inl (cI, 5, .inl uS))]) [0, 1] (by decide) rfl
      have hFc := va_free (wc := [(b0, .inr (1, [.int rc, .ref bS, .ref bC, .int rv, .ref bW, .int rp, .ref bCe, .ref bA, .ref bB, .ref bM, .int rf, .ref bG, .ref bK, .ref bCa, .ref bL, .int rd, .int rg, .int re, .ref bO, .int rl, .int rq, .int rb, .long rz])), (bS, .inl (cI, 5, .inl uS))]) hD hS hA [0, 1] rfl
      refine va_calli (va_runV (As := [.int v1, .int xi]) (rest := [.int acc]) ⟨hx, hb, hml, hown, hts⟩ (m_so l dC dI H.size cI cZ cQ b0 rc bS bC rv bW rp bCe bA bB bM rf bG bK bCa bL rd rg re bO rl rq rb rz uS v1 jv xi i nc hrc hnc hS1 hv1 hjv exi hlti) ⟨(callB_of 2 hts (ga_all tw_546) rfl rfl rfl (hts _ tw_29) (hts _ tw_543) (by decide +kernel) ⟨Nat.le_of_ble_eq_true rfl, Nat.le_of_ble_eq_true rfl⟩), hts _ tw_545, hts _ tw_12⟩ ⟨fun a U g mk q => by obtain ⟨q0, q1, qP, qK, qD⟩ := q; exact ⟨q0, q1, qP, g_K.same (u := U) (U := U.calling g mk a) rfl qK, qD⟩, va_recv hK hPc (ci := 1) (q0 := 0) rfl rfl, fun U hU hW => ⟨rfl, by rw [hU], by rw [hU]; exact hPc, g_K.warm hW hKN, hDc.weaken (fun _ _ _ _ => trivial)⟩⟩ rfl rfl hl.1 rfl (lv_room (Nat.le_of_ble_eq_true rfl)) d_Ref_changesOf_16 ⟨Nat.le_of_ble_eq_true rfl, Nat.le_of_ble_eq_true rfl⟩) hS (fun q _ h => hFc q h) hFc (fun r_2 u t H1 locs htt hvm hw_3 hBB hzz hkk hS => ?_)
      have hw_3 : r_2 = nI (q_dg uS nc jv i) := hw_3
      obtain ⟨hPP, hDD⟩ := hBB
      rw [htt] at hPP
      have hPP : va_P (dC, dI) vw_cls [(b0, .inr (1, [.int rc, .ref bS, .ref bC, .int rv, .ref bW, .int rp, .ref bCe, .ref bA, .ref bB, .ref bM, .int rf, .ref bG, .ref bK, .ref bCa, .ref bL, .int rd, .int rg, .int re, .ref bO, .int rl, .int rq, .int rb, .long rz])), (bS, .inl (cI, 5, .inl uS))] H1 := hPP
      have hDD : va_D (va_A [(b0, .inr (1, [.int rc, .ref bS, .ref bC, .int rv, .ref bW, .int rp, .ref bCe, .ref bA, .ref bB, .ref bM, .int rf, .ref bG, .ref bK, .ref bCa, .ref bL, .int rd, .int rg, .int re, .ref bO, .int rl, .int rq, .int rb, .long rz])), (bS, .inl (cI, 5, .inl uS))] H.size) [(b0, .inr (1, [.int rc, .ref bS, .ref bC, .int rv, .ref bW, .int rp, .ref bCe, .ref bA, .ref bB, .ref bM, .int rf, .ref bG, .ref bK, .ref bCa, .ref bL, .int rd, .int rg, .int re, .ref bO, .int rl, .int rq, .int rb, .long rz])), (bS, .inl (cI, 5, .inl uS))] := hDD
      obtain ⟨hP, hD⟩ := va_join (wr := [(bC, .inl (cI, 5, .inl uC))]) (w1 := [(b0, .inr (1, [.int rc, .ref bS, .ref bC, .int rv, .ref bW, .int rp, .ref bCe, .ref bA, .ref bB, .ref bM, .int rf, .ref bG, .ref bK, .ref bCa, .ref bL, .int rd, .int rg, .int re, .ref bO, .int rl, .int rq, .int rb, .long rz])), (bS, .inl (cI, 5, .inl uS))]) hP hD [0, 1] [2] rfl rfl (by decide) (by decide) hkk hFc hPP hDD
      generalize H1 = H at hP hS ⊢
      have hP : va_P (dC, dI) vw_cls [(bC, .inl (cI, 5, .inl uC)), (b0, .inr (1, [.int rc, .ref bS, .ref bC, .int rv, .ref bW, .int rp, .ref bCe, .ref bA, .ref bB, .ref bM, .int rf, .ref bG, .ref bK, .ref bCa, .ref bL, .int rd, .int rg, .int re, .ref bO, .int rl, .int rq, .int rb, .long rz])), (bS, .inl (cI, 5, .inl uS))] H := hP
      have hD : va_D A [(bC, .inl (cI, 5, .inl uC)), (b0, .inr (1, [.int rc, .ref bS, .ref bC, .int rv, .ref bW, .int rp, .ref bCe, .ref bA, .ref bB, .ref bM, .int rf, .ref bG, .ref bK, .ref bCa, .ref bL, .int rd, .int rg, .int re, .ref bO, .int rl, .int rq, .int rb, .long rz])), (bS, .inl (cI, 5, .inl uS))] := hD
      refine lv_aload_n hx hb d_Ref_changesOf_19 rfl (lv_at hl 0 rfl) ?_
      refine va_get (D := (dC, dI)) (ci := 1) (v := .ref bC) (C := R_Ref) (T := T_Ref) (N := 23) hx hb hts in_Ref hown hK hP 1 rfl rfl 2 (by decide) (hts _ tw_431) (fun _ h9 => h9) rfl d_Ref_changesOf_20 ?_
      refine lv_iload_n hx hb d_Ref_changesOf_23 rfl (lv_at hl 3 rfl) ?_
      have eh_4 : xi = nI (i) := exi
      have bh_4 : i < 5 := by omega
      have h_4 : vp_in xi 5 := by rw [eh_4]; exact vp_in_nI bh_4 (by decide)
      have kh_4 : xi.toNatClampNeg = i := by rw [eh_4]; exact nI_clamp (by omega)
      refine va_iald hx hb hK hP 0 0 rfl rfl h_4 d_Ref_changesOf_24 ?_
      rw [kh_4]
      refine lv_topi (fun v_5 ev_5 => ?_)
      refine lv_icmp_eq (tgt := 32) hx hb d_Ref_changesOf_25 (by decide) (fun c_6 => ?_) (fun c_6 => ?_)
      · skip
        have cq : nI (q_dg uS nc jv i) = uC i := by rw [← hw_3, c_6, ev_5]
        refine lv_iconst (v := 0) hx hb d_Ref_changesOf_32 (by decide) ?_
        refine lv_iadd hx hb d_Ref_changesOf_33 ?_
        refine lv_topi (fun v_7 ev_7 => ?_)
        refine lv_istore_n (lv' := [(2, .int v_7), (0, .ref b0), (1, .int v1), (3, .int xi)]) hx hb d_Ref_changesOf_34 rfl hl (by decide) rfl (fun ls hl => ?_)
        obtain ⟨v_8, ev_8⟩ : ∃ y : Int32, y = xi + 1 := ⟨_, rfl⟩
        refine lv_iinc (v := v_8) (lv' := [(3, .int v_8), (2, .int v_7), (0, .ref b0), (1, .int v1)]) hx hb d_Ref_changesOf_35 hl (k := 3) rfl (by rw [ev_8]; rfl) (by decide) rfl (fun ls hl => ?_)
        refine lv_goto (tgt := 4) hx hb d_Ref_changesOf_38 (by decide) ?_
        exact ih (i + 1) v_8 v_7 hlti (by rw [ev_8, exi]; exact nI_1 i) (by rw [ev_7, q_chr]; first | rw [if_pos cq, eacc] | rw [if_neg cq, eacc]) (by omega) H locs (hP.sub [1, 2, 0] rfl) (hD.sub [1, 2, 0] (by decide) rfl) hS ls (lv_sub hl [2, 3, 1, 0] rfl)
      · skip
        have cq : ¬ nI (q_dg uS nc jv i) = uC i := by rw [← hw_3, ← ev_5]; exact c_6
        refine lv_iconst (v := 1) hx hb d_Ref_changesOf_28 (by decide) ?_
        refine lv_goto (tgt := 33) hx hb d_Ref_changesOf_29 (by decide) ?_
        refine lv_iadd hx hb d_Ref_changesOf_33 ?_
        refine lv_topi (fun v_9 ev_9 => ?_)
        refine lv_istore_n (lv' := [(2, .int v_9), (0, .ref b0), (1, .int v1), (3, .int xi)]) hx hb d_Ref_changesOf_34 rfl hl (by decide) rfl (fun ls hl => ?_)
        obtain ⟨v_10, ev_10⟩ : ∃ y : Int32, y = xi + 1 := ⟨_, rfl⟩
        refine lv_iinc (v := v_10) (lv' := [(3, .int v_10), (2, .int v_9), (0, .ref b0), (1, .int v1)]) hx hb d_Ref_changesOf_35 hl (k := 3) rfl (by rw [ev_10]; rfl) (by decide) rfl (fun ls hl => ?_)
        refine lv_goto (tgt := 4) hx hb d_Ref_changesOf_38 (by decide) ?_
        exact ih (i + 1) v_10 v_9 hlti (by rw [ev_10, exi]; exact nI_1 i) (by rw [ev_9, q_chr]; first | rw [if_pos cq, eacc] | rw [if_neg cq, eacc]) (by omega) H locs (hP.sub [1, 2, 0] rfl) (hD.sub [1, 2, 0] (by decide) rfl) hS ls (lv_sub hl [2, 3, 1, 0] rfl)
set_option maxHeartbeats 4000000 in
set_option maxRecDepth 100000 in
/-- the reference: changesOf -/
theorem m_ch (l : Launch) (dC : Nat → ClassId) (dI : Nat → Nat → Nat) (sz : Nat) (cI : ClassId) (cZ : ClassId) (cQ : ClassId) (b0 : Nat) (rc : Int32) (bS : Nat) (bC : Nat) (rv : Int32) (bW : Nat) (rp : Int32) (bCe : Nat) (bA : Nat) (bB : Nat) (bM : Nat) (rf : Int32) (bG : Nat) (bK : Nat) (bCa : Nat) (bL : Nat) (rd : Int32) (rg : Int32) (re : Int32) (bO : Nat) (rl : Int32) (rq : Int32) (rb : Int32) (rz : Int64) (uS : Nat → Int32) (uC : Nat → Int32) (v1 : Int32) (jv : Nat) (nc : Nat) (hrc : rc = nI nc) (hnc : nc ≤ 5) (hS1 : q_okS uS nc) (hv1 : v1 = nI jv) (hjv : jv < 64) : Met l y_Ref_changesOf w_Ref_changesOf ({ frames := 1, cells := 0, slots := 0, locals := 24 } : Room) (va_Pc [.ref b0, .int v1] (fun U => U.heap.size = sz ∧ va_P (dC, dI) vw_cls [(b0, .inr (1, [.int rc, .ref bS, .ref bC, .int rv, .ref bW, .int rp, .ref bCe, .ref bA, .ref bB, .ref bM, .int rf, .ref bG, .ref bK, .ref bCa, .ref bL, .int rd, .int rg, .int re, .ref bO, .int rl, .int rq, .int rb, .long rz])), (bS, .inl (cI, 5, .inl uS)), (bC, .inl (cI, 5, .inl uC))] U.heap ∧ g_K dC dI [(cI, .int), (cZ, .boolean), (cQ, (.object "SettingSearch$Answers"))] U ∧ va_D (fun _ => True) [(b0, .inr (1, [.int rc, .ref bS, .ref bC, .int rv, .ref bW, .int rp, .ref bCe, .ref bA, .ref bB, .ref bM, .int rf, .ref bG, .ref bK, .ref bCa, .ref bL, .int rd, .int rg, .int re, .ref bO, .int rl, .int rq, .int rb, .long rz])), (bS, .inl (cI, 5, .inl uS)), (bC, .inl (cI, 5, .inl uC))])) (va_Qi (fun (r : Int32) (u : Unit) => r = q_chr uS uC nc jv nc) (fun (u : Unit) (t : State) => va_P (dC, dI) vw_cls [(b0, .inr (1, [.int rc, .ref bS, .ref bC, .int rv, .ref bW, .int rp, .ref bCe, .ref bA, .ref bB, .ref bM, .int rf, .ref bG, .ref bK, .ref bCa, .ref bL, .int rd, .int rg, .int re, .ref bO, .int rl, .int rq, .int rb, .long rz])), (bS, .inl (cI, 5, .inl uS)), (bC, .inl (cI, 5, .inl uC))] t.heap ∧ va_D (va_A [(b0, .inr (1, [.int rc, .ref bS, .ref bC, .int rv, .ref bW, .int rp, .ref bCe, .ref bA, .ref bB, .ref bM, .int rf, .ref bG, .ref bK, .ref bCa, .ref bL, .int rd, .int rg, .int re, .ref bO, .int rl, .int rq, .int rb, .long rz])), (bS, .inl (cI, 5, .inl uS)), (bC, .inl (cI, 5, .inl uC))] sz) [(b0, .inr (1, [.int rc, .ref bS, .ref bC, .int rv, .ref bW, .int rp, .ref bCe, .ref bA, .ref bB, .ref bM, .int rf, .ref bG, .ref bK, .ref bCa, .ref bL, .int rd, .int rg, .int re, .ref bO, .int rl, .int rq, .int rb, .long rz])), (bS, .inl (cI, 5, .inl uS)), (bC, .inl (cI, 5, .inl uC))]) (va_A [(b0, .inr (1, [.int rc, .ref bS, .ref bC, .int rv, .ref bW, .int rp, .ref bCe, .ref bA, .ref bB, .ref bM, .int rf, .ref bG, .ref bK, .ref bCa, .ref bL, .int rd, .int rg, .int re, .ref bO, .int rl, .int rq, .int rb, .long rz])), (bS, .inl (cI, 5, .inl uS)), (bC, .inl (cI, 5, .inl uC))] sz)) 0 0 (va_A [(b0, .inr (1, [.int rc, .ref bS, .ref bC, .int rv, .ref bW, .int rp, .ref bCe, .ref bA, .ref bB, .ref bM, .int rf, .ref bG, .ref bK, .ref bCa, .ref bL, .int rd, .int rg, .int re, .ref bO, .int rl, .int rq, .int rb, .long rz])), (bS, .inl (cI, 5, .inl uS)), (bC, .inl (cI, 5, .inl uC))] sz) := by
  refine Met.ofW (cc := b_Ref_changesOf) (maxL := 4) (ret := (some .int)) (by decide) rfl ?_
  intro p e s m args below meth c s₁ B hml hv
  obtain ⟨rfl, hsz, hP, hKN, hD0⟩ := hv
  obtain ⟨hK, hN⟩ := id hKN
  have hx := B.exec
  have hb := B.bytes
  have hr := B.returns
  have hts0 := atoms_spec (ws := w_Ref_changesOf) B.pre
  have hts : ∀ w ∈ lw_g, w.before _ s = true := fun w h => hts0 w (List.mem_cons_of_mem _ h)
  have hown : s.vm.findClass R_Ref = some m.cls := findClass_of_methodNamed B.named
  have hlocks := B.notSynchronized
  subst hsz
  have hD := hD0.self (sz := s.heap.size)
  generalize hAe : va_A [(b0, .inr (1, [.int rc, .ref bS, .ref bC, .int rv, .ref bW, .int rp, .ref bCe, .ref bA, .ref bB, .ref bM, .int rf, .ref bG, .ref bK, .ref bCa, .ref bL, .int rd, .int rg, .int re, .ref bO, .int rl, .int rq, .int rb, .long rz])), (bS, .inl (cI, 5, .inl uS)), (bC, .inl (cI, 5, .inl uC))] s.heap.size = A at hD ⊢
  have hA : ∀ q : Nat, s.heap.size ≤ q → A q := fun q h => by rw [← hAe]; exact Or.inr h
  have hP : va_P (dC, dI) vw_cls [(b0, .inr (1, [.int rc, .ref bS, .ref bC, .int rv, .ref bW, .int rp, .ref bCe, .ref bA, .ref bB, .ref bM, .int rf, .ref bG, .ref bK, .ref bCa, .ref bL, .int rd, .int rg, .int re, .ref bO, .int rl, .int rq, .int rb, .long rz])), (bS, .inl (cI, 5, .inl uS)), (bC, .inl (cI, 5, .inl uC))] s.heap := hP
  have hl := lv_entry ([.ref b0, .int v1]) (n := 4) (Nat.le_of_ble_eq_true rfl)
  rw [lg_entry_eq]
  generalize (lg_sl ([.ref b0, .int v1]) ++ List.replicate (4 - (lg_sl ([.ref b0, .int v1])).length) Slot.unset).toArray = ls at hl ⊢
  have hl : lv_has ls 4 [(0, .ref b0), (1, .int v1)] := hl
  refine gw_start (fun H locs hH hlocs => ?_)
  rw [← hH] at hP
  have hS : va_S A s.heap H locs := by rw [hH, hlocs]; exact va_S.rf
  refine lv_iconst (v := 0) hx hb d_Ref_changesOf_0 (by decide) ?_
  refine lv_istore_n (lv' := [(2, .int 0), (0, .ref b0), (1, .int v1)]) hx hb d_Ref_changesOf_1 rfl hl (by decide) rfl (fun ls hl => ?_)
  refine lv_iconst (v := 0) hx hb d_Ref_changesOf_2 (by decide) ?_
  refine lv_istore_n (lv' := [(3, .int 0), (2, .int 0), (0, .ref b0), (1, .int v1)]) hx hb d_Ref_changesOf_3 rfl hl (by decide) rfl (fun ls hl => ?_)
  refine L_cr hx hb hml hown hts hA cI cZ cQ b0 rc bS bC rv bW rp bCe bA bB bM rf bG bK bCa bL rd rg re bO rl rq rb rz uS uC v1 jv nc hrc hnc hS1 hv1 hjv hKN ?_ (nc - 0 + 1) 0 0 0 (Nat.zero_le _) rfl rfl (Nat.lt_succ_self _) H locs (hP.sub [0, 1, 2] rfl) (hD.sub [0, 1, 2] (by decide) rfl) hS ls (lv_sub hl [2, 3, 1, 0] rfl)
  intro i xi acc hi exi eacc hendi H locs hP hD hS ls hl
  have hl : lv_has ls 4 [(0, .ref b0), (1, .int v1), (2, .int acc), (3, .int xi)] := hl
  have hP : va_P (dC, dI) vw_cls [(b0, .inr (1, [.int rc, .ref bS, .ref bC, .int rv, .ref bW, .int rp, .ref bCe, .ref bA, .ref bB, .ref bM, .int rf, .ref bG, .ref bK, .ref bCa, .ref bL, .int rd, .int rg, .int re, .ref bO, .int rl, .int rq, .int rb, .long rz])), (bS, .inl (cI, 5, .inl uS)), (bC, .inl (cI, 5, .inl uC))] H := hP
  have hD : va_D A [(b0, .inr (1, [.int rc, .ref bS, .ref bC, .int rv, .ref bW, .int rp, .ref bCe, .ref bA, .ref bB, .ref bM, .int rf, .ref bG, .ref bK, .ref bCa, .ref bL, .int rd, .int rg, .int re, .ref bO, .int rl, .int rq, .int rb, .long rz])), (bS, .inl (cI, 5, .inl uS)), (bC, .inl (cI, 5, .inl uC))] := hD
  refine lv_iload_n hx hb d_Ref_changesOf_41 rfl (lv_at hl 2 rfl) ?_
  have hP9 := hP.sub (ws' := [(b0, .inr (1, [.int rc, .ref bS, .ref bC, .int rv, .ref bW, .int rp, .ref bCe, .ref bA, .ref bB, .ref bM, .int rf, .ref bG, .ref bK, .ref bCa, .ref bL, .int rd, .int rg, .int re, .ref bO, .int rl, .int rq, .int rb, .long rz])), (bS, .inl (cI, 5, .inl uS)), (bC, .inl (cI, 5, .inl uC))]) [0, 1, 2] rfl
  have hD9 := hD.sub (ws' := [(b0, .inr (1, [.int rc, .ref bS, .ref bC, .int rv, .ref bW, .int rp, .ref bCe, .ref bA, .ref bB, .ref bM, .int rf, .ref bG, .ref bK, .ref bCa, .ref bL, .int rd, .int rg, .int re, .ref bO, .int rl, .int rq, .int rb, .long rz])), (bS, .inl (cI, 5, .inl uS)), (bC, .inl (cI, 5, .inl uC))]) [0, 1, 2] (by decide) rfl
  have hpost_1 : (acc : Int32) = q_chr uS uC nc jv nc := by rw [eacc, hendi]
  exact W.iret (v := acc) hx hb hr (fun t ht hW => ⟨⟨acc, (), rfl, hpost_1, by rw [ht]; exact hP9, hD9⟩, hS.F ht⟩) hS.2.2 d_Ref_changesOf_42
