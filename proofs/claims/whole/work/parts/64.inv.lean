/-! What ties the class's state to the reference's, group by group. -/
def i_M (nc nv : Nat) (cnt vec rc rv : Int32) (fS fC fT uS uC : Nat → Int32) : Prop := cnt = nI nc ∧ rc = nI nc ∧ nc ≤ 5 ∧ vec = nI nv ∧ rv = nI nv ∧ 1 ≤ nv ∧ nv ≤ 64 ∧ uS = fS ∧ uC = fC ∧ q_okS fS nc ∧ e_tab fT fS nc nv
def i_R (np nc : Nat) (pu rp : Int32) (fPo fKi fAb fBe fM uCe uA uB uM : Nat → Int32) : Prop := pu = nI np ∧ rp = nI np ∧ np ≤ 4 ∧ e_ru fPo fKi uCe fM np nc ∧ uA = fAb ∧ uB = fBe ∧ uM = fM
def i_W (fW uW : Nat → Int32) : Prop := uW = fW ∧ ∀ j, j < 9 → fW j ≤ 1000
def i_F (nf : Nat) (us rf : Int32) (FD : Nat → Int64) (uG : Nat → Int32) : Prop := us = nI nf ∧ rf = nI nf ∧ nf ≤ 4 ∧ ∀ j, j < nf → FD j = (uG j).toInt64 ∧ 1 ≤ (uG j).toInt ∧ (uG j).toInt ≤ 1000000
def i_K (nf nv : Nat) (CT : Nat → Int32) (FK : Nat → Nat → Int32) (uK : Nat → Int32) : Prop := (∀ j, j < nf → ∀ v, v < 64 → FK j v = uK (64 * j + v) ∧ (FK j v = 0 ∨ FK j v = 1) ∧ (nv ≤ v → FK j v = 0)) ∧ (∀ j, j < nf → CT j = q_kc uK (64 * j) 64) ∧ ∀ j, nf ≤ j → j < 4 → ∀ v, v < 64 → uK (64 * j + v) = 0
def i_G (FG FO : Nat → Nat → Int32) (uCa uL : Nat → Int32) : Prop := ∀ j, j < 4 → ∀ v, v < 64 → e_cp (FG j) (FO j) uCa uL v (64 * j + v) ∧ ∀ k, k < 9 → ¬ FG j (v * 9 + k) < 0
def i_S (nf nv n0 : Nat) (AA : Nat → Nat) (sv : Value) (go ak be : Int32) (bw : Int64) (pt ln rd rg re rl rq rb : Int32) (rz : Int64) (fOr uO : Nat → Int32) : Prop :=
  rg = go ∧ (go = 0 ∨ go = 1) ∧ rq = ak ∧ uO = fOr ∧ (ak = -1 ∨ (go = 1 ∧ ∃ a, a < nv ∧ ak = nI a)) ∧ ((be = -1 ∧ rb = -1 ∧ bw = -9223372036854775808) ∨ ((∃ a, a < nv ∧ be = nI a) ∧ rb = be ∧ rz = bw)) ∧
  ((sv = .null ∧ rd = -1 ∧ go = 0 ∧ re = 0 ∧ be = -1) ∨ (∃ j, j < nf ∧ sv = .ref (AA j) ∧ rd = nI j ∧ re = (if go = 0 then 1 else 0) ∧ (¬ go = 0 → pt = nI n0) ∧ rl = nI n0 ∧ n0 ≤ nv ∧ ln = nI nv ∧ ∀ i, i < nv → ∃ a, a < nv ∧ fOr i = nI a))
theorem i_S_go0 {nf nv n0 : Nat} {AA : Nat → Nat} {sv : Value} {go ak be : Int32} {bw : Int64} {pt ln rd rg re rl rq rb : Int32} {rz : Int64} {fOr uO : Nat → Int32} (h : i_S nf nv n0 AA sv go ak be bw pt ln rd rg re rl rq rb rz fOr uO) (hg : go = 0) : ak = -1 := by
  obtain ⟨_, _, _, _, ha, _⟩ := h
  rcases ha with a | ⟨a, _⟩
  · exact a
  · rw [hg] at a; exact absurd a (by decide)
theorem e_z (f : Nat → Int32) (b k : Nat) : ∀ n, q_z f b n k = if b ≤ k ∧ k < b + n then 0 else f k
  | 0 => by rw [q_z, if_neg (by omega)]
  | n + 1 => by
    rw [q_z, e_upd, e_z f b k n]
    by_cases h : k = b + n
    · rw [if_pos h, if_pos (by omega)]
    · rw [if_neg h]
      by_cases q : b ≤ k ∧ k < b + n
      · rw [if_pos q, if_pos (by omega)]
      · rw [if_neg q, if_neg (by omega)]
