/-! making policies -/
theorem xb_iff {P R : Prop} [Decidable P] [Decidable R] (h : P ↔ R) : xb P = xb R := by
  by_cases q : P
  · rw [xb, xb, if_pos q, if_pos (h.mp q)]
  · rw [xb, xb, if_neg q, if_neg (fun z => q (h.mpr z))]
theorem xb_1 {P : Prop} [Decidable P] (h : P) : 1 = xb P := (if_pos h).symm
theorem xb_0 {P : Prop} [Decidable P] (h : ¬ P) : 0 = xb P := (if_neg h).symm
abbrev pP0 (k : Int32) : Prop := k = 0 ∨ k = 1 ∨ k = 2 ∨ k = 4 ∨ k = 7
abbrev pSaid (x : xSt) (k a b c : Int32) : Prop :=
  (pP0 k ∧ pBelow a 256) ∨ (k = 3 ∧ pBelow a 256 ∧ pBelow b 100) ∨ (k = 5 ∧ pBelow a 256 ∧ pBelow b 8) ∨ (k = 6 ∧ pBelow a 3) ∨ (pPair k ∧ pBelow a (x.2 0) ∧ pBelow b (x.2 0)) ∨ (k = 12 ∧ pBelow a 256 ∧ pBelow b (x.2 0)) ∨ (k = 13 ∧ pBelow a (x.2 0)) ∨ (k = 14 ∧ pBelow a (x.2 0) ∧ pTurn b ∧ (c = 0 ∨ pTurn c))
theorem pSaid_0 {x : xSt} {k a b c : Int32} (h : pP0 k) : pSaid x k a b c ↔ pBelow a 256 := by
  rcases h with rfl | rfl | rfl | rfl | rfl <;> simp [pSaid, pP0, pPair]
theorem pSaid_3 {x : xSt} {k a b c : Int32} (h : k = 3) : pSaid x k a b c ↔ pBelow a 256 ∧ pBelow b 100 := by
  subst h; simp [pSaid, pP0, pPair]
theorem pSaid_5 {x : xSt} {k a b c : Int32} (h : k = 5) : pSaid x k a b c ↔ pBelow a 256 ∧ pBelow b 8 := by
  subst h; simp [pSaid, pP0, pPair]
theorem pSaid_6 {x : xSt} {k a b c : Int32} (h : k = 6) : pSaid x k a b c ↔ pBelow a 3 := by
  subst h; simp [pSaid, pP0, pPair]
theorem pSaid_8 {x : xSt} {k a b c : Int32} (h : pPair k) : pSaid x k a b c ↔ pBelow a (x.2 0) ∧ pBelow b (x.2 0) := by
  rcases h with rfl | rfl | rfl | rfl <;> simp [pSaid, pP0, pPair]
theorem pSaid_12 {x : xSt} {k a b c : Int32} (h : k = 12) : pSaid x k a b c ↔ pBelow a 256 ∧ pBelow b (x.2 0) := by
  subst h; simp [pSaid, pP0, pPair]
theorem pSaid_13 {x : xSt} {k a b c : Int32} (h : k = 13) : pSaid x k a b c ↔ pBelow a (x.2 0) := by
  subst h; simp [pSaid, pP0, pPair]
theorem pSaid_14 {x : xSt} {k a b c : Int32} (h : k = 14) : pSaid x k a b c ↔ pBelow a (x.2 0) ∧ pTurn b ∧ (c = 0 ∨ pTurn c) := by
  subst h; simp [pSaid, pP0, pPair]
abbrev pTaken (x : xSt) (k a b : Int32) : Prop := (pA k ∧ ¬ x.1 5 (tn a) = 0) ∨ (pB k ∧ ¬ x.1 5 (tn b) = 0) ∨ (pPair k ∧ a = b)
def xLa (x : xSt) (k a : Int32) : Int32 := if pA k then x.1 4 (tn a) else 0
def xLb (x : xSt) (k b : Int32) : Int32 := if pB k then x.1 4 (tn b) else 0
def xLev (x : xSt) (k a b : Int32) : Int32 := (if xLa x k a < xLb x k b then xLb x k b else xLa x k a) + 1
def xU (x : xSt) (P : Prop) [Decidable P] (a : Int32) : xSt := if P then xA x 5 (upd (x.1 5) (tn a) 1) else x
def xPut (x : xSt) (k i : Nat) (v : Int32) : xSt := xA x k (upd (x.1 k) i v)
def xNew (x : xSt) (k a b c v : Int32) : xSt := xPut (xPut (xPut (xPut (xPut x 0 (tn (x.2 0)) k) 1 (tn (x.2 0)) a) 2 (tn (x.2 0)) b) 3 (tn (x.2 0)) c) 4 (tn (x.2 0)) v
def xAdd (x : xSt) (k a b c v : Int32) : xSt := xI (xU (xU (xNew x k a b c v) (pA k) a) (pB k) b) 0 (x.2 0 + 1)
/-- there are at most forty -/
def xN (x : xSt) : Prop := ∃ N : Nat, N ≤ 40 ∧ x.2 0 = nI N
theorem xN_in {x : xSt} (h : xN x) {a : Int32} (ha : pBelow a (x.2 0)) : vp_in a 40 := by
  obtain ⟨N, h1, h2⟩ := h
  obtain ⟨j, h3, rfl⟩ := pBelow_nat ha h2 (by omega)
  exact vp_in_nI (by omega) (by decide)
def xState (x : xSt) (p : Int32) : Int32 := if pBelow p (x.2 0) then (if x.1 0 (tn p) = 3 ∨ x.1 0 (tn p) = 6 then x.1 6 (tn p) else -1) else -1
def xNoted (x : xSt) (k : Int32) : Int32 := if pBelow k 16 ∧ k < x.2 1 then x.1 10 (tn (xF16 (x.2 1 - 1 - k))) else -1
def xCount (x : xSt) (w : Int32) : Int32 :=
  if w = 0 then x.2 0 else if w = 1 then x.2 1 else if w = 2 then x.2 2 else if w = 3 then x.2 3 else if w = 4 then x.2 4 else if w = 5 then (if x.2 6 = 0 then 0 else 1) else if w = 6 then x.2 5 else -1
