/-! the class's state as a value, and the world of its cells -/
abbrev vwCl : List vw_C := [(RX0, TX0, 19), (RX1, TX1, 28)]
abbrev tyL (cI cZ cJ : ClassId) : List (ClassId × FieldType) := [(cI, .int), (cZ, .boolean), (cJ, .long)]
/-! the class's state as a value: rows of ints by number, ints by number; what its methods do, as functions
rows: 0 kinds, 1 operandA, 2 operandB, 3 operandC, 4 levels, 5 used, 6 progress, 7 spent, 8 entries, 9 totals, 10 notes
ints: 0 policyCount, 1 noteCount, 2 doneCount, 3 replacedCount, 4 thrownCount, 5 installed, 6 stopped, 7 answer -/
abbrev xSt : Type := (Nat → Nat → Int32) × (Nat → Int32)
def xA (x : xSt) (k : Nat) (f : Nat → Int32) : xSt := (va_up x.1 k f, x.2)
def xI (x : xSt) (j : Nat) (v : Int32) : xSt := (x.1, va_up x.2 j v)
/-- the object's cell and its rows'; q: their addresses -/
def wX (cI cZ : ClassId) (q : Nat → Nat) (x : xSt) : va_W := [(q 0, .inr (0, [.ref (q 1), .ref (q 2), .ref (q 3), .ref (q 4), .ref (q 5), .ref (q 6), .ref (q 7), .ref (q 8), .ref (q 9), .ref (q 10), .ref (q 11), .int (x.2 0), .int (x.2 1), .int (x.2 2), .int (x.2 3), .int (x.2 4), .int (x.2 5), .int (x.2 6), .int (x.2 7)])), (q 1, .inl (cI, 40, .inl (x.1 0))), (q 2, .inl (cI, 40, .inl (x.1 1))), (q 3, .inl (cI, 40, .inl (x.1 2))), (q 4, .inl (cI, 40, .inl (x.1 3))), (q 5, .inl (cI, 40, .inl (x.1 4))), (q 6, .inl (cZ, 40, .inl (x.1 5))), (q 7, .inl (cI, 40, .inl (x.1 6))), (q 8, .inl (cZ, 40, .inl (x.1 7))), (q 9, .inl (cI, 96, .inl (x.1 8))), (q 10, .inl (cI, 8, .inl (x.1 9))), (q 11, .inl (cI, 16, .inl (x.1 10)))]
abbrev tn (i : Int32) : Nat := i.toNatClampNeg
abbrev xb (P : Prop) [Decidable P] : Int32 := if P then 1 else 0
abbrev pBelow (a b : Int32) : Prop := ¬ a < 0 ∧ ¬ b ≤ a
abbrev pIn (a s : Int32) : Prop := (a >>> (s &&& 31)) &&& 1 = 1
abbrev pPair (k : Int32) : Prop := k = 8 ∨ k = 9 ∨ k = 10 ∨ k = 11
abbrev pA (k : Int32) : Prop := pPair k ∨ k = 13 ∨ k = 14
abbrev pB (k : Int32) : Prop := pPair k ∨ k = 12
abbrev pTurn (k : Int32) : Prop := k = 1 ∨ k = 4 ∨ k = 5
def xKind (g : Int32) : Int32 := g - g / 8 * 8
def xSrc (g : Int32) : Int32 := g / 8
def xPlace (k t s : Int32) : Int32 := (k * 4 + t) * 8 + s
abbrev pFirst (k f g : Int32) : Prop := (k = 8 ∧ ¬ f < g) ∨ (k = 9 ∧ (g = 0 ∨ (¬ f = 0 ∧ ¬ g < f))) ∨ (k = 10 ∧ ¬ f = 0) ∨ (¬ k = 8 ∧ ¬ k = 9 ∧ ¬ k = 10 ∧ ¬ f < 2)
def xEntry (x : xSt) (p s : Int32) : Int32 := x.1 8 (tn (xPlace (x.1 1 (tn p)) (x.1 6 (tn p)) s))
def xOfEntry (g : Int32) : Int32 := if g = 5 then 0 else if g = 4 then 4 else 1
/-- what a policy of a kind without operands suggests for a sort of its set -/
def xInSet (x : xSt) (p v : Int32) : Int32 :=
  if x.1 0 (tn p) = 0 then 1 else if x.1 0 (tn p) = 1 then 4 else if x.1 0 (tn p) = 2 then 5
  else if x.1 0 (tn p) = 3 then (if x.1 2 (tn p) ≤ x.1 6 (tn p) then 4 else 1)
  else if x.1 0 (tn p) = 4 then p * 8 + 3
  else if x.1 0 (tn p) = 5 then (if x.1 7 (tn p) = 0 then p * 8 + 2 else 0)
  else if x.1 0 (tn p) = 7 then (if v < x.1 2 (tn p) ∨ x.1 3 (tn p) < v then 4 else 1)
  else 0
/-- what a policy suggests -/
def xSug (x : xSt) : Nat → Int32 → Int32 → Int32 → Int32
  | 0, _, _, _ => 0
  | d + 1, p, s, v =>
    if pPair (x.1 0 (tn p)) then
      (if ¬ (x.1 0 (tn p) = 8 ∨ x.1 0 (tn p) = 9) ∧ pFirst (x.1 0 (tn p)) (xKind (xSug x d (x.1 1 (tn p)) s v)) 0 then xSug x d (x.1 1 (tn p)) s v
       else if pFirst (x.1 0 (tn p)) (xKind (xSug x d (x.1 1 (tn p)) s v)) (xKind (xSug x d (x.1 2 (tn p)) s v)) then xSug x d (x.1 1 (tn p)) s v else xSug x d (x.1 2 (tn p)) s v)
    else if x.1 0 (tn p) = 12 then (if pIn (x.1 1 (tn p)) s then xSug x d (x.1 2 (tn p)) s v else 0)
    else if x.1 0 (tn p) = 13 then xSug x d (x.1 1 (tn p)) s v
    else if x.1 0 (tn p) = 14 then (if xKind (xSug x d (x.1 1 (tn p)) s v) = x.1 2 (tn p) then x.1 3 (tn p) else xSug x d (x.1 1 (tn p)) s v)
    else if x.1 0 (tn p) = 6 then xOfEntry (xEntry x p s)
    else if pIn (x.1 1 (tn p)) s then xInSet x p v else 0
/-- what is noted when it is asked by an acting -/
def xNot (x : xSt) : Nat → Int32 → Int32 → Int32 → List Int32
  | 0, _, _, _ => []
  | d + 1, p, s, v =>
    if pPair (x.1 0 (tn p)) then
      (if ¬ (x.1 0 (tn p) = 8 ∨ x.1 0 (tn p) = 9) ∧ pFirst (x.1 0 (tn p)) (xKind (xSug x d (x.1 1 (tn p)) s v)) 0 then xNot x d (x.1 1 (tn p)) s v
       else xNot x d (x.1 1 (tn p)) s v ++ xNot x d (x.1 2 (tn p)) s v)
    else if x.1 0 (tn p) = 12 then (if pIn (x.1 1 (tn p)) s then xNot x d (x.1 2 (tn p)) s v else [])
    else if x.1 0 (tn p) = 13 then xNot x d (x.1 1 (tn p)) s v ++ (if xKind (xSug x d (x.1 1 (tn p)) s v) = 0 then [] else [16 * xKind (xSug x d (x.1 1 (tn p)) s v) + s])
    else if x.1 0 (tn p) = 14 then xNot x d (x.1 1 (tn p)) s v
    else []
/-- Math.floorMod -/
def xFm (a b : Int32) : Int32 := if 0 ≤ a ^^^ b then a - a / b * b else if a - a / b * b = 0 then a - a / b * b else a - a / b * b + b
abbrev xF16 (a : Int32) : Int32 := xFm a 16
def xNote (x : xSt) (n : Int32) : xSt := xI (xA x 10 (upd (x.1 10) (tn (xF16 (x.2 1))) n)) 1 (x.2 1 + 1)
def xNotes (x : xSt) (l : List Int32) : xSt := l.foldl xNote x
def xUp (x : xSt) (p v : Int32) : xSt := xA x 6 (upd (x.1 6) (tn p) v)
/-- accepting -/
def xAcc : Nat → xSt → Int32 → Int32 → Int32 → xSt
  | 0, x, _, _, _ => x
  | d + 1, x, p, s, v =>
    if x.1 0 (tn p) = 3 then (if pIn (x.1 1 (tn p)) s then xUp x p (x.1 6 (tn p) + 1) else x)
    else if x.1 0 (tn p) = 6 then (if pBelow (xEntry x p s) 4 then xUp x p (xEntry x p s) else x)
    else if x.1 0 (tn p) = 8 then xAcc d (xAcc d x (x.1 1 (tn p)) s v) (x.1 2 (tn p)) s v
    else if x.1 0 (tn p) = 9 ∨ x.1 0 (tn p) = 10 ∨ x.1 0 (tn p) = 11 then
      (if pFirst (x.1 0 (tn p)) (xKind (xSug x d (x.1 1 (tn p)) s v)) (xKind (xSug x d (x.1 2 (tn p)) s v)) then xAcc d x (x.1 1 (tn p)) s v else xAcc d x (x.1 2 (tn p)) s v)
    else if x.1 0 (tn p) = 12 then (if pIn (x.1 1 (tn p)) s then xAcc d x (x.1 2 (tn p)) s v else x)
    else if x.1 0 (tn p) = 13 ∨ x.1 0 (tn p) = 14 then xAcc d x (x.1 1 (tn p)) s v
    else x
def xDo (x : xSt) (s v : Int32) : xSt := xI (xI (xA x 9 (upd (x.1 9) (tn s) (x.1 9 (tn s) + v))) 2 (x.2 2 + 1)) 7 (x.1 9 (tn s) + v)
