/-! the reference's face -/
abbrev pYT (k t s n : Int32) : Prop := pOut k 0 2 ∨ pOut t 0 3 ∨ pOut s 0 7 ∨ pOut n 0 5
def yTabI (k t s : Int32) : Int32 := k * 32 + t * 8 + s
def yTabR (x : xSt) (k t s n : Int32) : Int32 := if pYT k t s n then 0 else x.1 8 (tn (yTabI k t s))
def yTabX (x : xSt) (k t s n : Int32) : xSt := if pYT k t s n then xI x 6 1 else xI (xPut x 8 (tn (yTabI k t s)) n) 6 0
abbrev pYU (x : xSt) (k a b : Int32) : Prop := (pNA k ∧ ¬ x.1 6 (tn a) = 0) ∨ (pNB k ∧ ¬ x.1 6 (tn b) = 0) ∨ (pNA k ∧ pNB k ∧ a = b)
def yL0 (x : xSt) (k a : Int32) : Int32 := if pNA k then x.1 4 (tn a) else 0
def yL (x : xSt) (k a b : Int32) : Int32 := if pNB k ∧ ¬ x.1 4 (tn b) ≤ yL0 x k a then x.1 4 (tn b) else yL0 x k a
def yUs (x : xSt) (P : Prop) [Decidable P] (a : Int32) : xSt := if P then xA x 6 (upd (x.1 6) (tn a) 1) else x
def yAdd (x : xSt) (k a b c v : Int32) : xSt := xI (yUs (yUs (xNew x k a b c v) (pNA k) a) (pNB k) b) 0 (x.2 0 + 1)
def yPolC (x : xSt) (k a b c : Int32) : Int32 := if yFits x k a b c = 0 then 1 else if pYU x k a b then 2 else if yL x k a b = 7 then 3 else if x.2 0 = 40 then 4 else 0
def yPolR (x : xSt) (k a b c : Int32) : Int32 := if yPolC x k a b c = 0 then x.2 0 + 1 - 1 else 0
def yPolX (x : xSt) (k a b c : Int32) : xSt := if yPolC x k a b c = 0 then xI (yAdd x k a b c (yL x k a b + 1)) 6 0 else xI x 6 (yPolC x k a b c)
def yInsX (x : xSt) (p : Int32) : xSt := if pNo x p then xI x 6 1 else xI (xA (xI (xI x 1 p) 8 0) 5 (xZ (x.1 5))) 6 0
def yBeg (x : xSt) (s v : Int32) : xSt := xPut (xPut x 17 0 s) 18 0 v
def yActQ (x : xSt) (s v : Int32) : Int32 × xSt := if x.2 8 = 0 then yLev 4 (yBeg x s v) else (2, yBeg x s v)
def yClr (x : xSt) : xSt := xA x 7 (xZ (x.1 7))
def yActR (x : xSt) (s v : Int32) : Int32 := if pOut s 0 7 then 0 else if (yActQ x s v).1 = 0 then (yClr (yActQ x s v).2).2 7 else 0
def yActX (x : xSt) (s v : Int32) : xSt := if pOut s 0 7 then xI x 6 1 else if (yActQ x s v).1 = 0 then xI (yClr (yActQ x s v).2) 6 0 else xI (xI (yClr (yActQ x s v).2) 5 ((yClr (yActQ x s v).2).2 5 + 1)) 6 (yActQ x s v).1
def yAskR (x : xSt) (s v : Int32) : Int32 := if pOut s 0 7 then 0 else if 0 ≤ x.2 1 then (yAll x s v 0).1 11 (tn (x.2 1)) else 0
def yAskX (x : xSt) (s v : Int32) : xSt := if pOut s 0 7 then xI x 6 1 else if 0 ≤ x.2 1 then xI (yAll x s v 0) 6 0 else xI x 6 0
abbrev yWant (w : Int32) : Int32 := if w = 2 then 3 else 2
def yDetR (x : xSt) (s v w : Int32) : Int32 := if pOut s 0 7 ∨ pOut w 0 2 then 0 else if 0 ≤ x.2 1 then (if (yAll x s v 0).1 11 (tn (x.2 1)) = yWant w then (if w = 0 then (yAll x s v 0).1 12 (tn (x.2 1)) else (yAll x s v 0).1 13 (tn (x.2 1))) else 0) else 0
def yDetX (x : xSt) (s v w : Int32) : xSt := if pOut s 0 7 ∨ pOut w 0 2 then xI x 6 1 else if 0 ≤ x.2 1 then (if (yAll x s v 0).1 11 (tn (x.2 1)) = yWant w then xI (yAll x s v 0) 6 0 else xI (yAll x s v 0) 6 2) else xI x 6 2
def yTotR (x : xSt) (s : Int32) : Int32 := if pOut s 0 7 then 0 else x.1 9 (tn s)
def yTotX (x : xSt) (s : Int32) : xSt := if pOut s 0 7 then xI x 6 1 else xI x 6 0
def yStaR (x : xSt) (p : Int32) : Int32 := if pNo x p then -1 else if x.1 0 (tn p) = 3 ∨ x.1 0 (tn p) = 6 then x.1 5 (tn p) else -1
def yNotR (x : xSt) (k : Int32) : Int32 := if k < 0 ∨ 15 < k ∨ ¬ k < x.2 2 then -1 else x.1 10 (tn k)
def yCntR (x : xSt) (w : Int32) : Int32 :=
  if w = 0 then x.2 0 else if w = 1 then x.2 2 else if w = 2 then x.2 3 else if w = 3 then x.2 4 else if w = 4 then x.2 5 else if w = 5 then (if x.2 8 = 0 then 0 else 1) else if w = 6 then x.2 1 else -1
theorem pNo_in {x : xSt} (h : xN x) {p : Int32} (hp : ¬ pNo x p) : vp_in p 40 := xN_in h (a := p) ⟨fun z => hp (Or.inl z), fun z => hp (Or.inr (Int32.not_lt.mpr z))⟩
theorem pOut_in {s : Int32} (h : ¬ pOut s 0 7) : xSo s := by
  have h0 : ¬ s < 0 := fun z => h (Or.inl z)
  have h7 : s ≤ 7 := by
    by_cases q : s ≤ 7
    · exact q
    · exact absurd (Or.inr q) h
  obtain ⟨j, h1, rfl⟩ := nI_of h0
  refine ⟨j, ?_, rfl⟩
  rcases Nat.lt_or_ge j 8 with q | q
  · exact q
  · exact absurd h7 (Int32.not_le.mpr (nI_lt (a := 7) (b := j) (by omega) h1))
theorem pOut_nat {v : Int32} {n : Nat} {b : Int32} (h : ¬ pOut v 0 b) (hb : b = nI n) (hn : n < 2 ^ 30) : ∃ j : Nat, j < n + 1 ∧ v = nI j := by
  have h0 : ¬ v < 0 := fun z => h (Or.inl z)
  have h7 : v ≤ b := by
    by_cases q : v ≤ b
    · exact q
    · exact absurd (Or.inr q) h
  obtain ⟨j, h1, rfl⟩ := nI_of h0
  refine ⟨j, ?_, rfl⟩
  rcases Nat.lt_or_ge j (n + 1) with q | q
  · exact q
  · rw [hb] at h7
    exact absurd h7 (Int32.not_le.mpr (nI_lt (a := n) (b := j) (by omega) h1))
theorem yTab_in {k t s n : Int32} (h : ¬ pYT k t s n) : vp_in (yTabI k t s) 96 := by
  obtain ⟨a, h1, rfl⟩ := pOut_nat (fun z => h (Or.inl z)) (show (2 : Int32) = nI 2 from rfl) (by decide)
  obtain ⟨b, h2, rfl⟩ := pOut_nat (fun z => h (Or.inr (Or.inl z))) (show (3 : Int32) = nI 3 from rfl) (by decide)
  obtain ⟨c, h3, rfl⟩ := pOut_nat (fun z => h (Or.inr (Or.inr (Or.inl z)))) (show (7 : Int32) = nI 7 from rfl) (by decide)
  show vp_in (nI a * nI 32 + nI b * nI 8 + nI c) 96
  rw [pk_mul, pk_mul, nI_add, nI_add]
  exact vp_in_nI (by omega) (by decide)
theorem yNot_in {k : Int32} (h0 : ¬ k < 0) (h1 : ¬ 15 < k) : vp_in k 16 := by
  obtain ⟨j, h2, rfl⟩ := pOut_nat (v := k) (b := 15) (fun z => z.elim h0 (fun z => z (Int32.not_lt.mp h1))) (show (15 : Int32) = nI 15 from rfl) (by decide)
  exact vp_in_nI (by omega) (by decide)
