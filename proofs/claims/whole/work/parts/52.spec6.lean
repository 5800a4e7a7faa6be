/-! the calls of the face that may throw -/
abbrev pTab (k t s n : Int32) : Prop := pBelow k 3 ∧ pBelow t 4 ∧ pBelow s 8 ∧ pBelow n 6
def xTabO (x : xSt) (k t s n : Int32) : Int32 ⊕ String := if pTab k t s n then .inl (x.1 8 (tn (xPlace k t s))) else .inr "java/lang/IllegalArgumentException"
def xTab (x : xSt) (k t s n : Int32) : xSt := if pTab k t s n then xPut x 8 (tn (xPlace k t s)) n else x
def xPolO (x : xSt) (k a b c : Int32) : Int32 ⊕ String :=
  if pSaid x k a b c then (if pTaken x k a b then .inr "java/lang/IllegalStateException" else if xLev x k a b ≤ 7 then (if x.2 0 < 40 then .inl (x.2 0) else .inr "java/lang/ArithmeticException") else .inr "java/lang/UnsupportedOperationException") else .inr "java/lang/IllegalArgumentException"
def xPol (x : xSt) (k a b c : Int32) : xSt := if pSaid x k a b c then (if pTaken x k a b then x else if xLev x k a b ≤ 7 then (if x.2 0 < 40 then xAdd x k a b c (xLev x k a b) else x) else x) else x
def xAskO (x : xSt) (s v : Int32) : Int32 ⊕ String := if pBelow s 8 then .inl (xKind (xNow x s v)) else .inr "java/lang/IllegalArgumentException"
def xTotO (x : xSt) (s : Int32) : Int32 ⊕ String := if pBelow s 8 then .inl (x.1 9 (tn s)) else .inr "java/lang/IllegalArgumentException"
def xDetO (x : xSt) (s v w : Int32) : Int32 ⊕ String := if pBelow s 8 ∧ pBelow w 3 then (if xKind (xNow x s v) = (if w = 2 then 3 else 2) then (if w = 1 then .inl (x.1 3 (tn (xSrc (xNow x s v)))) else .inl (x.1 2 (tn (xSrc (xNow x s v))))) else .inr "java/lang/IllegalStateException") else .inr "java/lang/IllegalArgumentException"
theorem xSo_of {s : Int32} (h : pBelow s 8) : xSo s := pBelow_nat h rfl (by decide)
theorem pTab_in {k t s n : Int32} (h : pTab k t s n) : vp_in (xPlace k t s) 96 := by
  obtain ⟨h1, h2, h3, -⟩ := h
  obtain ⟨a, q1, rfl⟩ := pBelow_nat h1 (show (3 : Int32) = nI 3 from rfl) (by decide)
  obtain ⟨b, q2, rfl⟩ := pBelow_nat h2 (show (4 : Int32) = nI 4 from rfl) (by decide)
  obtain ⟨c, q3, rfl⟩ := pBelow_nat h3 (show (8 : Int32) = nI 8 from rfl) (by decide)
  rw [xPlace_nI]
  exact vp_in_nI (by omega) (by decide)
theorem said_A {x : xSt} {k a b c : Int32} (h : pSaid x k a b c) (hA : pA k) : pBelow a (x.2 0) := by
  rcases hA with q | q | q
  · exact ((pSaid_8 q).mp h).1
  · exact (pSaid_13 q).mp h
  · exact ((pSaid_14 q).mp h).1
theorem said_B {x : xSt} {k a b c : Int32} (h : pSaid x k a b c) (hB : pB k) : pBelow b (x.2 0) := by
  rcases hB with q | q
  · exact ((pSaid_8 q).mp h).2
  · exact ((pSaid_12 q).mp h).2
theorem xN_lt {x : xSt} (h : xN x) (h2 : x.2 0 < 40) : vp_in (x.2 0) 40 := by
  obtain ⟨N, h3, h4⟩ := h
  rw [h4] at h2 ⊢
  have h5 : N < 40 := (nI_ltI (by omega) (by decide)).mp (show nI N < nI 40 from h2)
  exact vp_in_nI h5 (by decide)
theorem xNow_src {x : xSt} {s v g : Int32} (hi : xInst x) (hV : xV x) (hg : g = xNow x s v) (hk : xKind g = 3 ∨ xKind g = 2) : vp_in (xSrc g) 40 := by
  by_cases h : x.2 5 = -1
  · rw [hg, xNow, if_pos h] at hk
    exact absurd hk (by decide)
  · have h7 := hi.resolve_left h
    have his : xIs x g := by rw [hg, xNow, if_neg h]; exact xSug_is hV s v 7 _ h7
    obtain ⟨i, h1, h2, -⟩ := xIs_src his hk.symm
    rw [h2]
    exact vp_in_nI h1 (by decide)
