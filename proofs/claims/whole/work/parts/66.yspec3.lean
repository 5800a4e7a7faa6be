/-! the reference's notes -/
def yShf (g : Nat → Int32) : Nat → Int32 := fun j => if j = 0 then g 0 else yPush g 0 j
theorem xA_xA (x : xSt) (k : Nat) (f g : Nat → Int32) : xA (xA x k f) k g = xA x k g := by
  have h : va_up (va_up x.1 k f) k g = va_up x.1 k g := funext fun j => by
    by_cases q : j = k
    · rw [q]; simp [va_up]
    · rw [va_up_ne _ _ q, va_up_ne _ _ q, va_up_ne _ _ q]
  show (va_up (va_up x.1 k f) k g, x.2) = _
  rw [h]
  rfl
theorem yNoteIn_w (x : xSt) {n z : Int32} (hz : z = x.2 2 + 1) : xI (xA (xA x 10 (yShf (x.1 10))) 10 (upd ((xA x 10 (yShf (x.1 10))).1 10) (tn 0) n)) 2 z = yNoteIn x n := by
  have h : upd ((xA x 10 (yShf (x.1 10))).1 10) (tn 0) n = yPush (x.1 10) n := funext fun j => by
    show upd (yShf (x.1 10)) 0 n j = _
    by_cases q : j = 0
    · rw [q, pk_us]; rfl
    · rw [pk_un q, yShf, if_neg q, yPush, yPush, if_neg q, if_neg q]
  rw [h, xA_xA, hz]
  rfl
def yDo (x : xSt) (s v : Int32) : xSt := xI (xI (xA x 9 (upd (x.1 9) (tn s) (x.1 9 (tn s) + v))) 7 (x.1 9 (tn s) + v)) 3 (x.2 3 + 1)
theorem yDo_w {x : xSt} {s v : Int32} {z1 z2 z3 : Int32} (h1 : z1 = x.1 9 (tn s) + v) (h3 : z3 = (xA x 9 (upd (x.1 9) (tn s) z1)).1 9 (tn s)) (h2 : z2 = x.2 3 + 1) : xI (xI (xA x 9 (upd (x.1 9) (tn s) z1)) 7 z3) 3 z2 = yDo x s v := by
  have h4 : z3 = z1 := h3.trans (by show upd (x.1 9) (tn s) z1 (tn s) = z1; exact pk_us)
  rw [h4, h2, h1]
  rfl
theorem nI_m1 (k : Nat) : nI (k + 1) + (-1) = nI k := by
  have h : nI (k + 1) + (-1) = nI (k + 1) - nI 1 := (Int32.sub_eq_add_neg (nI (k + 1)) (nI 1)).symm
  rw [h]
  exact pk_sub (a := k + 1) (b := 1) (by omega)
