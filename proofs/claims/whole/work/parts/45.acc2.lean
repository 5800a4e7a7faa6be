theorem c_accept (l : Launch) (D : va_G) (cI cZ cJ : ClassId) (q : Nat → Nat) : ∀ (d : Nat) (x : xSt) (p s v : Int32), xG x d p → xSo s → kc_M l yX0_accept cX0_accept 6 none (2 * d + 3) (53 * d + 90) 0 0 [.ref (q 0), .int p, .int s, .int v] D vwCl (tyL cI cZ cJ) (wX cI cZ q x) none (wX cI cZ q (xAcc d x p s v)) := by
  intro d
  induction d with
  | zero => intro x p s v hg; exact hg.elim
  | succ d ih =>
    intro x p s v hg hs
    have e1 : 2 * (d + 1) + 3 = 2 * d + 5 := by omega
    have e2 : 53 * (d + 1) + 90 = 53 * d + 143 := by omega
    rw [e1, e2]
    exact c_accept_step l D cI cZ cJ q d ih x p s v hg hs
