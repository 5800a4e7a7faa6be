theorem c_suggest (l : Launch) (D : va_G) (cI cZ cJ : ClassId) (q : Nat → Nat) : ∀ (d : Nat) (x : xSt) (p s v n : Int32), xG x d p → xSo s → kc_M l yX0_suggest cX0_suggest 7 (some .int) (2 * d + 2) (53 * d + 60) 0 0 [.ref (q 0), .int p, .int s, .int v, .int n] D vwCl (tyL cI cZ cJ) (wX cI cZ q x) (some (.int (xSug x d p s v))) (wX cI cZ q (xAsk x d p s v n)) := by
  intro d
  induction d with
  | zero => intro x p s v n hg; exact hg.elim
  | succ d ih =>
    intro x p s v n hg hs
    have e1 : 2 * (d + 1) + 2 = 2 * d + 4 := by omega
    have e2 : 53 * (d + 1) + 60 = 53 * d + 113 := by omega
    rw [e1, e2]
    exact c_suggest_step l D cI cZ cJ q d ih x p s v n hg hs
theorem c_suggest0 (l : Launch) (D : va_G) (cI cZ cJ : ClassId) (q : Nat → Nat) (d : Nat) (x : xSt) (p s v : Int32) (hg : xG x d p) (hs : xSo s) : kc_M l yX0_suggest cX0_suggest 7 (some .int) (2 * d + 2) (53 * d + 60) 0 0 [.ref (q 0), .int p, .int s, .int v, .int 0] D vwCl (tyL cI cZ cJ) (wX cI cZ q x) (some (.int (xSug x d p s v))) (wX cI cZ q x) := by
  have h := c_suggest l D cI cZ cJ q d x p s v 0 hg hs
  rw [xAsk, if_pos rfl] at h
  exact h
