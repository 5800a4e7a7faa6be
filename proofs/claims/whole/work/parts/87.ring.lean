/-- where a note stands: by its number modulo 16 -/
def xIx (a : Int32) : Nat := (a.toInt % 16).toNat
theorem xF_tn (a : Int32) : tn (xF16 a) = xIx a := by
  show (xF16 a).toInt.toNat = _
  rw [xF_int]
  rfl
theorem xIx_lt (a : Int32) : xIx a < 16 := by
  unfold xIx
  omega
theorem xIx_sub (c : Int32) {k : Nat} (hk : k < 17) : xIx (c - nI k) = ((c.toInt - k) % 16).toNat := by
  unfold xIx
  have h1 : (nI k).toInt = k := nI_toInt (by omega)
  rw [Int32.toInt_sub, h1, Int.bmod_def]
  congr 1
  split <;> omega
