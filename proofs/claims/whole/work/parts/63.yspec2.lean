/-! the reference: what its asking does -/
def yPlace (x : xSt) (p s : Int32) : Int32 := x.1 1 (tn p) * 32 + x.1 5 (tn p) * 8 + s
def yEnt (x : xSt) (p s : Int32) : Int32 := x.1 8 (tn (yPlace x p s))
def ySrc (x : xSt) (p g w : Int32) : xSt := xPut (xPut (xPut (ySug x p g) 12 (tn p) (x.1 2 (tn p))) 13 (tn p) w) 14 (tn p) p
def yPlain (x : xSt) (p s v : Int32) : xSt :=
  if x.1 0 (tn p) = 6 then ySug x p (if 4 ≤ yEnt x p s then (if yEnt x p s = 4 then 4 else 0) else 1)
  else if pIn (x.1 1 (tn p)) s ∧ (x.1 0 (tn p) = 5 → x.1 7 (tn p) = 0) then
    (if x.1 0 (tn p) = 0 then ySug x p 1 else if x.1 0 (tn p) = 1 then ySug x p 4 else if x.1 0 (tn p) = 2 then ySug x p 5
     else if x.1 0 (tn p) = 3 then ySug x p (if x.1 2 (tn p) ≤ x.1 5 (tn p) then 4 else 1)
     else if x.1 0 (tn p) = 7 then ySug x p (if v < x.1 2 (tn p) ∨ x.1 3 (tn p) < v then 4 else 1)
     else if x.1 0 (tn p) = 4 then ySrc x p 3 (x.1 2 (tn p)) else ySrc x p 2 (x.1 3 (tn p)))
  else ySug x p 0
def yFits (x : xSt) (k a b c : Int32) : Int32 :=
  if pOut k 0 14 ∨ (pNA k ∧ pNo x a) ∨ (pNB k ∧ pNo x b) then 0
  else if k = 6 then (if pOut a 0 2 then 0 else 1)
  else if k = 14 then xb (pTurn b ∧ (c = 0 ∨ pTurn c))
  else if ¬ pNA k ∧ pOut a 0 255 then 0
  else if k = 3 then (if pOut b 0 99 then 0 else 1) else if k = 5 ∧ pOut b 0 7 then 0 else 1
/-- the reference's state, its rows and ints under the class's numbers -/
def yr : Nat → Nat
  | 5 => 6
  | 6 => 5
  | k => k
def yi : Nat → Nat
  | 0 => 0
  | 1 => 2
  | 2 => 3
  | 3 => 4
  | 4 => 5
  | 5 => 1
  | 6 => 8
  | k => k
def yx (y : xSt) : xSt := (fun k => y.1 (yr k), fun k => y.2 (yi k))
theorem xG_in {x : xSt} {d : Nat} {p : Int32} (h : xG x d p) : vp_in p 40 := by
  cases d with
  | zero => exact h.elim
  | succ d => exact h.1
theorem yG_place {x : xSt} {p s : Int32} (h : (∃ a : Nat, a < 3 ∧ x.1 1 (tn p) = nI a) ∧ ∃ t : Nat, t < 4 ∧ x.1 5 (tn p) = nI t) (hs : xSo s) : vp_in (yPlace x p s) 96 := by
  obtain ⟨⟨a, h1, h2⟩, t, h3, h4⟩ := h
  obtain ⟨j, h5, h6⟩ := hs
  rw [yPlace, h2, h4, h6]
  show vp_in (nI a * nI 32 + nI t * nI 8 + nI j) 96
  rw [pk_mul, pk_mul, nI_add, nI_add]
  exact vp_in_nI (by omega) (by decide)
theorem k_all {v : Int32} (h : ∃ k : Nat, k < 15 ∧ v = nI k) : v = 0 ∨ v = 1 ∨ v = 2 ∨ v = 3 ∨ v = 4 ∨ v = 5 ∨ v = 6 ∨ v = 7 ∨ v = 8 ∨ v = 9 ∨ v = 10 ∨ v = 11 ∨ v = 12 ∨ v = 13 ∨ v = 14 := by
  obtain ⟨k, hk, rfl⟩ := h
  match k, hk with
  | 0, _ | 1, _ | 2, _ | 3, _ | 4, _ | 5, _ | 6, _ | 7, _ | 8, _ | 9, _ | 10, _ | 11, _ | 12, _ | 13, _ | 14, _ => decide
theorem k_pair {v : Int32} (h : ∃ k : Nat, k < 15 ∧ v = nI k) (h1 : 8 ≤ v) (h2 : ¬ 12 ≤ v) : pPair v := by
  revert h1 h2
  rcases k_all h with rfl | rfl | rfl | rfl | rfl | rfl | rfl | rfl | rfl | rfl | rfl | rfl | rfl | rfl | rfl <;> decide
theorem k_last {v : Int32} (h : ∃ k : Nat, k < 15 ∧ v = nI k) (h1 : 12 ≤ v) (h2 : ¬ v = 12) : v = 13 ∨ v = 14 := by
  revert h1 h2
  rcases k_all h with rfl | rfl | rfl | rfl | rfl | rfl | rfl | rfl | rfl | rfl | rfl | rfl | rfl | rfl | rfl <;> decide
/-- a note put in at the front -/
def yPush (f : Nat → Int32) (n : Int32) : Nat → Int32 := fun j => if j = 0 then n else if j < 16 then f (j - 1) else f j
def yNoteIn (x : xSt) (n : Int32) : xSt := xI (xA x 10 (yPush (x.1 10) n)) 2 (x.2 2 + 1)
def yTurned (x : xSt) (p : Int32) : xSt := if (ySame x p (x.1 1 (tn p))).1 11 (tn p) = x.1 2 (tn p) then ySug (ySame x p (x.1 1 (tn p))) p (x.1 3 (tn p)) else ySame x p (x.1 1 (tn p))
def yAud (x : xSt) (p s n : Int32) : xSt := if ¬ n = 0 ∧ ¬ (ySame x p (x.1 1 (tn p))).1 11 (tn p) = 0 then yNoteIn (ySame x p (x.1 1 (tn p))) (16 * (ySame x p (x.1 1 (tn p))).1 11 (tn p) + s) else ySame x p (x.1 1 (tn p))
def yComb (x : xSt) (p s v n : Int32) : xSt :=
  if 8 ≤ x.1 0 (tn p) then
    (if x.1 0 (tn p) = 8 then (if x.1 11 (tn (x.1 1 (tn p))) < x.1 11 (tn (x.1 2 (tn p))) then ySame x p (x.1 2 (tn p)) else ySame x p (x.1 1 (tn p)))
     else if 12 ≤ x.1 0 (tn p) then
      (if x.1 0 (tn p) = 12 then (if pIn (x.1 1 (tn p)) s then ySame x p (x.1 2 (tn p)) else ySug x p 0)
       else if x.1 0 (tn p) = 14 then yTurned x p else yAud x p s n)
     else if pTA x (x.1 0 (tn p)) (x.1 1 (tn p)) (x.1 2 (tn p)) then ySame x p (x.1 1 (tn p)) else ySame x p (x.1 2 (tn p)))
  else yPlain x p s v
theorem yShift {f g : Nat → Int32} {k : Nat} {i j : Int32} (hi : i = nI (k + 1)) (hj : j = i - 1) (hk : k + 1 ≤ 15) (h0 : ∀ j, j ≤ k + 1 → f j = g j) (h1 : ∀ j, k + 1 < j → f j = yPush g 0 j) : (∀ z, z ≤ k → upd f (tn i) (f (tn j)) z = g z) ∧ (∀ z, k < z → upd f (tn i) (f (tn j)) z = yPush g 0 z) := by
  have e1 : tn i = k + 1 := by rw [hi]; exact tn_nI (by omega)
  have e2 : tn j = k := by rw [hj, hi, show nI (k + 1) - 1 = nI k from pk_sub (a := k + 1) (b := 1) (by omega)]; exact tn_nI (by omega)
  rw [e1, e2]
  refine ⟨fun z hz => ?_, fun z hz => ?_⟩
  · rw [pk_un (by omega)]; exact h0 z (by omega)
  · by_cases q : z = k + 1
    · rw [q, pk_us, h0 k (by omega), yPush, if_neg (by omega), if_pos (by omega)]
      rfl
    · rw [pk_un q]; exact h1 z (by omega)
