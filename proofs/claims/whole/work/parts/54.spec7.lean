/-! install and act -/
def xIns (x : xSt) (p : Int32) : xSt := xI (xI x 5 p) 6 0
def xInsO (x : xSt) (p : Int32) : Int32 ⊕ String := if pBelow p (x.2 0) then .inl 0 else .inr "java/lang/IllegalArgumentException"
def xInsX (x : xSt) (p : Int32) : xSt := if pBelow p (x.2 0) then xA (xIns x p) 6 (xZ (x.1 6)) else x
def xActR (x : xSt) (s v : Int32) : Int32 × xSt := if x.2 6 = 0 then xAct 4 x s v else (2, x)
def xFin (r : Int32 × xSt) : xSt := xA r.2 7 (xZ (r.2.1 7))
def xThr (r : Int32 × xSt) : xSt := xI (xFin r) 4 ((xFin r).2 4 + 1)
def xActO (x : xSt) (s v : Int32) : Int32 ⊕ String :=
  if pBelow s 8 then (if (xActR x s v).1 = 0 then .inl ((xFin (xActR x s v)).2 7) else if (xActR x s v).1 = 2 then .inr "java/lang/UnsupportedOperationException" else if (xActR x s v).1 = 1 then .inr "java/lang/IllegalStateException" else .inr "java/lang/ArithmeticException") else .inr "java/lang/IllegalArgumentException"
def xActX (x : xSt) (s v : Int32) : xSt :=
  if pBelow s 8 then (if (xActR x s v).1 = 0 then xFin (xActR x s v) else if (xActR x s v).1 = 2 then xI (xThr (xActR x s v)) 6 1 else xThr (xActR x s v)) else x
theorem xAct_a {x : xSt} {s v : Int32} {r : Int32 × xSt} (hs : pBelow s 8) (hr : xActR x s v = r) (h : r.1 = 0) : xActO x s v = .inl ((xFin r).2 7) ∧ xActX x s v = xFin r := by
  subst hr
  exact ⟨by rw [xActO, if_pos hs, if_pos h], by rw [xActX, if_pos hs, if_pos h]⟩
theorem xAct_b {x : xSt} {s v : Int32} {r : Int32 × xSt} (hs : pBelow s 8) (hr : xActR x s v = r) (h : r.1 = 2) : xActO x s v = .inr "java/lang/UnsupportedOperationException" ∧ xActX x s v = xI (xThr r) 6 1 := by
  subst hr
  have h0 : ¬ (xActR x s v).1 = 0 := by rw [h]; decide
  exact ⟨by rw [xActO, if_pos hs, if_neg h0, if_pos h], by rw [xActX, if_pos hs, if_neg h0, if_pos h]⟩
theorem xAct_c {x : xSt} {s v : Int32} {r : Int32 × xSt} (hs : pBelow s 8) (hr : xActR x s v = r) (h0 : ¬ r.1 = 0) (h2 : ¬ r.1 = 2) : xActO x s v = (if r.1 = 1 then .inr "java/lang/IllegalStateException" else .inr "java/lang/ArithmeticException") ∧ xActX x s v = xThr r := by
  subst hr
  exact ⟨by rw [xActO, if_pos hs, if_neg h0, if_neg h2], by rw [xActX, if_pos hs, if_neg h0, if_neg h2]⟩
