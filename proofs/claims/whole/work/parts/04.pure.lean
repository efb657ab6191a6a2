/-! What the methods of the class answer, as functions of its cells: loops as recursions on how often the body ran. -/
def q_has (cnt k : Int32) : Int32 := if k < 0 then 0 else if cnt ≤ k then 0 else 1
def q_sin (cnt vec : Int32) (fT : Nat → Int32) (v k : Int32) : Int32 := if v < 0 then -1 else if vec ≤ v then -1 else if k < 0 then -1 else if cnt ≤ k then -1 else fT (v.toNatClampNeg * 5 + k.toNatClampNeg)
def q_chg (cnt vec : Int32) (fT fC : Nat → Int32) (v : Int32) : Nat → Int32
  | 0 => 0
  | k + 1 => if q_sin cnt vec fT v (nI k) = fC k then q_chg cnt vec fT fC v k else q_chg cnt vec fT fC v k + 1
def q_bec (cnt vec : Int32) (fT fC : Nat → Int32) (v : Int32) : Nat → Nat → Int32
  | 0 => fC
  | k + 1 => upd (q_bec cnt vec fT fC v k) k (q_sin cnt vec fT v (nI k))
/-- a row of the table: j machines done, from the last one on: the table, and what is carried -/
def q_rowT (fS : Nat → Int32) (nc v : Nat) (T : Nat → Int32) : Nat → (Nat → Int32) × Int32
  | 0 => (T, 1)
  | j + 1 =>
    (upd (q_rowT fS nc v T j).1 (v * 5 + (nc - 1 - j)) (if (q_rowT fS nc v T j).1 ((v - 1) * 5 + (nc - 1 - j)) + (q_rowT fS nc v T j).2 = fS (nc - 1 - j) then 0 else (q_rowT fS nc v T j).1 ((v - 1) * 5 + (nc - 1 - j)) + (q_rowT fS nc v T j).2),
     if (q_rowT fS nc v T j).1 ((v - 1) * 5 + (nc - 1 - j)) + (q_rowT fS nc v T j).2 = fS (nc - 1 - j) then 1 else 0)
/-- rows 1 .. i of the table -/
def q_fill (fS : Nat → Int32) (nc : Nat) (T : Nat → Int32) : Nat → Nat → Int32
  | 0 => T
  | i + 1 => (q_rowT fS nc (i + 1) (q_fill fS nc T i) nc).1
theorem q_rowT_1 {fS T : Nat → Int32} {nc v j : Nat} (h : (q_rowT fS nc v T j).1 ((v - 1) * 5 + (nc - 1 - j)) + (q_rowT fS nc v T j).2 = fS (nc - 1 - j)) : q_rowT fS nc v T (j + 1) = (upd (q_rowT fS nc v T j).1 (v * 5 + (nc - 1 - j)) 0, 1) := by
  rw [q_rowT, if_pos h, if_pos h]
theorem q_rowT_0 {fS T : Nat → Int32} {nc v j : Nat} (h : ¬ (q_rowT fS nc v T j).1 ((v - 1) * 5 + (nc - 1 - j)) + (q_rowT fS nc v T j).2 = fS (nc - 1 - j)) : q_rowT fS nc v T (j + 1) = (upd (q_rowT fS nc v T j).1 (v * 5 + (nc - 1 - j)) ((q_rowT fS nc v T j).1 ((v - 1) * 5 + (nc - 1 - j)) + (q_rowT fS nc v T j).2), 0) := by
  rw [q_rowT, if_neg h, if_neg h]
abbrev q_addOk (cnt vec k : Int32) : Prop := ¬ 5 ≤ cnt ∧ ¬ k < 1 ∧ ¬ 4 < k ∧ ¬ 64 < vec * k
theorem q_add_fit {cnt vec k : Int32} {nc nv : Nat} (h : q_addOk cnt vec k) (hc : cnt = nI nc) (hv : vec = nI nv) (hnc : nc ≤ 5) (hnv : nv ≤ 64) (h1 : 1 ≤ nv) : nc + 1 ≤ 5 ∧ ∃ kk : Nat, k = nI kk ∧ 1 ≤ kk ∧ kk ≤ 4 ∧ vec * k = nI (nv * kk) ∧ nv * kk ≤ 64 := by
  obtain ⟨a, b, c, d⟩ := h
  have hk0 : ¬ k < 0 := fun q => b (by
    have e1 : (k : Int32).toInt < 0 := Int32.lt_iff_toInt_lt.mp q
    exact Int32.lt_iff_toInt_lt.mpr (by have : (1 : Int32).toInt = 1 := by decide
                                        omega))
  obtain ⟨kk, hkk, rfl⟩ := nI_of hk0
  have hkle : kk ≤ 4 := by
    rcases Nat.lt_or_ge 4 kk with q | q
    · exact absurd (nI_lt q hkk) c
    · exact q
  have hkge : 1 ≤ kk := by
    rcases Nat.lt_or_ge kk 1 with q | q
    · exact absurd (nI_lt q (by decide)) b
    · exact q
  refine ⟨?_, kk, rfl, hkge, hkle, by rw [hv, pk_mul], ?_⟩
  · rcases Nat.lt_or_ge nc 5 with q | q
    · omega
    · exact absurd (by rw [hc]; exact nI_le q (by omega)) a
  · rw [hv, pk_mul] at d
    rcases Nat.lt_or_ge 64 (nv * kk) with q | q
    · exact absurd (nI_lt q (by have : nv * kk ≤ 64 * 4 := Nat.mul_le_mul hnv hkle; omega)) d
    · exact q
