/-! Rows of our own under the walks: a start whose heap and marks have names, numbers. -/
theorem gw_start {p : Program} {l : Launch} {e : Env} {R : Room} {s : State} {m : MethodId} {args : Array Value} {below : List Frame} {meth : Method} {c : Code} {cells slots : Nat} {Q : State → Prop} {g : JFrame} (h : ∀ (H : Heap) (locs : List Loc), H = s.heap → locs = [] → W p l e R s m args below meth c H locs cells slots Q g) : W p l e R s m args below meth c s.heap [] cells slots Q g := h _ _ rfl rfl
/-- the nest mates' links stand -/
def g_N (U : State) : Prop := (∀ w ∈ nw_ls, va_Nw w U) ∧ va_AO "SettingSearch$Answers" U
theorem nw_on : ∀ w ∈ nw_ls, w.onTables = true := by
  intro w h
  have : nw_ls.all (fun w => w.onTables) = true := rfl
  exact List.all_eq_true.mp this w h
theorem g_Nu {s : State} (h : g_N s) {w : Cond} {args : Array Value} (hw : w ∈ nw_ls) : w.before args s = true := va_Nw.use (nw_on w hw) (h.1 w hw)
theorem g_N.same {u U : State} (h : u.vm = U.vm) (hN : g_N u) : g_N U := ⟨fun w hw => va_Nw.same (nw_on w hw) h (hN.1 w hw), va_AO.moved (by rw [h]; exact Vm.Alike.refl U.vm) hN.2⟩
def nw_is (w : Cond) : Bool := match w with
  | .fieldLinkNest .. => true
  | .methodLinkNest .. => true
  | _ => false
theorem nw_isall : ∀ w ∈ nw_ls, nw_is w = true := by
  intro w h
  have : nw_ls.all nw_is = true := rfl
  exact List.all_eq_true.mp this w h
theorem g_N.warm {s U : State} (hW : s.WarmedH U.vm) (hN : g_N s) : g_N U := by
  refine ⟨?_, va_AO.moved hW.alike hN.2⟩
  intro w hw
  have h1 := nw_isall w hw
  have h2 := hN.1 w hw
  cases w with
  | fieldLinkNest a i b n d h => exact va_Nw.warmF hW h2
  | methodLinkNest a i x h => exact va_Nw.warmM hW h2
  | _ => cases h1
def g_K (dC : Nat → ClassId) (dI : Nat → Nat → Nat) (tys : List (ClassId × FieldType)) (U : State) : Prop := va_K (dC, dI) vw_cls tys U ∧ g_N U
theorem g_K.same {dC : Nat → ClassId} {dI : Nat → Nat → Nat} {tys : List (ClassId × FieldType)} {u U : State} (h : u.vm = U.vm) (hK : g_K dC dI tys u) : g_K dC dI tys U := ⟨va_K.moved (by rw [h]; exact Vm.Alike.refl U.vm) hK.1, hK.2.same h⟩
theorem g_K.warm {dC : Nat → ClassId} {dI : Nat → Nat → Nat} {tys : List (ClassId × FieldType)} {s U : State} (hW : s.WarmedH U.vm) (hK : g_K dC dI tys s) : g_K dC dI tys U := ⟨va_K.moved hW.alike hK.1, hK.2.warm hW⟩
theorem ix_ge {x : Int32} (h : ¬ x < 0) : x = nI x.toNatClampNeg := by
  obtain ⟨j, hj, rfl⟩ := nI_of h
  rw [nI_clamp hj]
theorem ix_lt {x y : Int32} {n : Nat} (h : ¬ x < 0) (h1 : ¬ y ≤ x) (hy : y = nI n) (hn : n < 2 ^ 31) : x.toNatClampNeg < n := by
  obtain ⟨j, hj, rfl⟩ := nI_of h
  rw [nI_clamp hj]
  rcases Nat.lt_or_ge j n with q | q
  · exact q
  · exact absurd (by rw [hy]; exact nI_le q hj) h1
theorem ix_lt2 {x y : Int32} {n : Nat} (h : ¬ x < 0) (h1 : x < y) (hy : y = nI n) (hn : n < 2 ^ 31) : x.toNatClampNeg < n := by
  obtain ⟨j, hj, rfl⟩ := nI_of h
  rw [nI_clamp hj]
  rw [hy] at h1
  exact (nI_ltI hj hn).mp h1
theorem ix_5 {v k : Int32} (h : ¬ v < 0) (h1 : ¬ k < 0) : v * 5 + k = nI (v.toNatClampNeg * 5 + k.toNatClampNeg) := by
  have e1 := ix_ge h
  have e2 := ix_ge h1
  generalize v.toNatClampNeg = a at *
  generalize k.toNatClampNeg = b at *
  rw [e1, e2]
  show nI a * nI 5 + nI b = _
  rw [pk_mul, nI_add]
theorem ix_9 {v k : Int32} (h : ¬ v < 0) (h1 : ¬ k < 0) : v * 9 + k = nI (v.toNatClampNeg * 9 + k.toNatClampNeg) := by
  have e1 := ix_ge h
  have e2 := ix_ge h1
  generalize v.toNatClampNeg = a at *
  generalize k.toNatClampNeg = b at *
  rw [e1, e2]
  show nI a * nI 9 + nI b = _
  rw [pk_mul, nI_add]
theorem lp_ge {x b : Int32} {i N : Nat} (h : b ≤ x) (ex : x = nI i) (eb : b = nI N) (hi : i ≤ N) (hN : N < 2 ^ 31) : i = N := by
  rcases Nat.lt_or_ge i N with q | q
  · rw [ex, eb] at h; exact absurd h (nI_ge q hN)
  · omega
theorem lp_lt {x b : Int32} {i N : Nat} (h : ¬ b ≤ x) (ex : x = nI i) (eb : b = nI N) (hi : i < 2 ^ 31) : i < N := by
  rcases Nat.lt_or_ge i N with q | q
  · exact q
  · exact absurd (by rw [ex, eb]; exact nI_le q hi) h
theorem nI_down {nc j : Nat} (h : j < nc) : nI (nc - j) - 1 = nI (nc - 1 - j) := by
  have e : nc - j = (nc - 1 - j) + 1 := by omega
  rw [e, nI_pred]
theorem ix_m5 {a b : Nat} : nI a * 5 + nI b = nI (a * 5 + b) := by
  show nI a * nI 5 + nI b = _
  rw [pk_mul, nI_add]
theorem ix_m9 {a b : Nat} : nI a * 9 + nI b = nI (a * 9 + b) := by
  show nI a * nI 9 + nI b = _
  rw [pk_mul, nI_add]
theorem nI_back (i : Nat) : nI (i + 1) - 1 = nI i := nI_pred i
