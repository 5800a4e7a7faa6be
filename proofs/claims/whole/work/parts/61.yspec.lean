/-! what the reference's small methods answer -/
abbrev pOut (v a b : Int32) : Prop := v < a ∨ ¬ v ≤ b
abbrev pNA (k : Int32) : Prop := (¬ k ≤ 7 ∧ k < 12) ∨ ¬ k ≤ 12
abbrev pNB (k : Int32) : Prop := ¬ k ≤ 7 ∧ ¬ 13 ≤ k
abbrev pNo (x : xSt) (p : Int32) : Prop := p < 0 ∨ ¬ p < x.2 0
def ySug (x : xSt) (p k : Int32) : xSt := xPut (xPut x 11 (tn p) k) 14 (tn p) (-1)
def ySame (x : xSt) (p r : Int32) : xSt := xPut (xPut (xPut (xPut x 11 (tn p) (x.1 11 (tn r))) 12 (tn p) (x.1 12 (tn r))) 13 (tn p) (x.1 13 (tn r))) 14 (tn p) (x.1 14 (tn r))
abbrev pTA (x : xSt) (k a b : Int32) : Prop := (k = 10 ∧ ¬ x.1 11 (tn a) = 0) ∨ (¬ k = 10 ∧ k = 11 ∧ ¬ x.1 11 (tn a) ≤ 1) ∨ (¬ k = 10 ∧ ¬ k = 11 ∧ (x.1 11 (tn b) = 0 ∨ (¬ x.1 11 (tn a) = 0 ∧ ¬ x.1 11 (tn b) < x.1 11 (tn a))))
def yNext (x : xSt) (p t s : Int32) : Int32 :=
  if 8 ≤ x.1 0 (tn p) then
    (if x.1 0 (tn p) = 12 then (if t = 0 ∧ pIn (x.1 1 (tn p)) s then x.1 2 (tn p) else -1)
     else if t = 0 then x.1 1 (tn p) else if 1 < t ∨ ¬ x.1 0 (tn p) ≤ 12 then -1
     else if ¬ x.1 0 (tn p) ≤ 9 ∧ pTA x (x.1 0 (tn p)) (x.1 1 (tn p)) 0 then -1 else x.1 2 (tn p))
  else -1
