/-! acting -/
def xZ (f : Nat → Int32) : Nat → Int32 := fun j => if j < 40 then 0 else f j
def xInst (x : xSt) : Prop := x.2 5 = -1 ∨ xG x 7 (x.2 5)
/-- a policy that inserts has a sort; one that turns gives no kind with a source -/
def xV (x : xSt) : Prop := ∀ i : Nat, i < 40 → (x.1 0 i = 5 → xSo (x.1 2 i)) ∧ (x.1 0 i = 14 → x.1 3 i = 0 ∨ x.1 3 i = 1 ∨ x.1 3 i = 4 ∨ x.1 3 i = 5)
def xNow (x : xSt) (s v : Int32) : Int32 := if x.2 5 = -1 then 0 else xSug x 7 (x.2 5) s v
def xFol (x : xSt) (g s v : Int32) : Int32 × xSt :=
  if xKind g = 3 then (0, xI (xI x 7 (x.1 2 (tn (xSrc g)))) 3 (x.2 3 + 1))
  else if xKind g = 4 then (1, x) else if xKind g = 5 then (2, x)
  else (0, xDo (xAcc 7 x (x.2 5) s v) s v)
abbrev xS1 (x : xSt) (s v : Int32) : xSt := xAsk x 7 (x.2 5) s v 1
def xSp (x : xSt) (g : Int32) : xSt := xA x 7 (upd (x.1 7) (tn (xSrc g)) 1)
def xLoop (rc : Option (xSt → Int32 → Int32 → Int32 × xSt)) : Nat → xSt → Int32 → Int32 → Int32 × xSt
  | 0, x, _, _ => (3, x)
  | n + 1, x, s, v =>
    if ¬ xKind (xSug x 7 (x.2 5) s v) = 2 then xFol (xS1 x s v) (xSug x 7 (x.2 5) s v) s v
    else match rc with
      | none => (3, xS1 x s v)
      | some f =>
        if ¬ (f (xSp (xS1 x s v) (xSug x 7 (x.2 5) s v)) ((xSp (xS1 x s v) (xSug x 7 (x.2 5) s v)).1 2 (tn (xSrc (xSug x 7 (x.2 5) s v)))) ((xSp (xS1 x s v) (xSug x 7 (x.2 5) s v)).1 3 (tn (xSrc (xSug x 7 (x.2 5) s v))))).1 = 0
        then f (xSp (xS1 x s v) (xSug x 7 (x.2 5) s v)) ((xSp (xS1 x s v) (xSug x 7 (x.2 5) s v)).1 2 (tn (xSrc (xSug x 7 (x.2 5) s v)))) ((xSp (xS1 x s v) (xSug x 7 (x.2 5) s v)).1 3 (tn (xSrc (xSug x 7 (x.2 5) s v))))
        else xLoop rc n (f (xSp (xS1 x s v) (xSug x 7 (x.2 5) s v)) ((xSp (xS1 x s v) (xSug x 7 (x.2 5) s v)).1 2 (tn (xSrc (xSug x 7 (x.2 5) s v)))) ((xSp (xS1 x s v) (xSug x 7 (x.2 5) s v)).1 3 (tn (xSrc (xSug x 7 (x.2 5) s v))))).2 s v
def xAct : Nat → xSt → Int32 → Int32 → Int32 × xSt
  | 0, x, s, v => if x.2 5 = -1 then (0, xDo x s v) else xLoop none 41 x s v
  | n + 1, x, s, v => if x.2 5 = -1 then (0, xDo x s v) else xLoop (some (xAct n)) 41 x s v
/-- what an acting leaves as it was -/
def xKeep (x y : xSt) : Prop := (∀ k, k ≠ 6 → k ≠ 7 → k ≠ 9 → k ≠ 10 → y.1 k = x.1 k) ∧ y.2 5 = x.2 5 ∧ ∀ i, x.1 0 i = 6 → y.1 6 i = x.1 6 i ∨ ∃ t : Nat, t < 4 ∧ y.1 6 i = nI t
theorem xKeep.rf (x : xSt) : xKeep x x := ⟨fun _ _ _ _ _ => rfl, rfl, fun _ _ => Or.inl rfl⟩
theorem xKeep.tr {x y z : xSt} (h : xKeep x y) (h2 : xKeep y z) : xKeep x z := by
  refine ⟨fun k a b c d => (h2.1 k a b c d).trans (h.1 k a b c d), h2.2.1.trans h.2.1, fun i hi => ?_⟩
  rcases h2.2.2 i (by rw [h.1 0 (by decide) (by decide) (by decide) (by decide)]; exact hi) with q | q
  · rcases h.2.2 i hi with r | ⟨t, r1, r2⟩
    · exact Or.inl (q.trans r)
    · exact Or.inr ⟨t, r1, q.trans r2⟩
  · exact Or.inr q
theorem xKeep.of6 {x y : xSt} (h : xS6 x y) : xKeep x y := ⟨fun k a _ _ _ => h.1 k a, by rw [h.2.1], h.2.2⟩
theorem xKeep_g {x y : xSt} (h : xKeep x y) : ∀ (d : Nat) (p : Int32), xG x d p → xG y d p := by
  intro d
  induction d with
  | zero => intro p q; exact q
  | succ d ih =>
    intro p q
    obtain ⟨q1, q2, q3, q4, q5⟩ := q
    have h0 := h.1 0 (by decide) (by decide) (by decide) (by decide)
    have h1 := h.1 1 (by decide) (by decide) (by decide) (by decide)
    have h2 := h.1 2 (by decide) (by decide) (by decide) (by decide)
    refine ⟨q1, by rw [h0]; exact q2, fun z => ?_, fun z => ?_, fun z => ?_⟩
    · rw [h1]; rw [h0] at z; exact ih _ (q3 z)
    · rw [h2]; rw [h0] at z; exact ih _ (q4 z)
    · rw [h1]; rw [h0] at z
      obtain ⟨r1, r2⟩ := q5 z
      refine ⟨r1, ?_⟩
      rcases h.2.2 _ z with r | r
      · rw [r]; exact r2
      · exact r
theorem xKeep_i {x y : xSt} (h : xKeep x y) (hi : xInst x) : xInst y := by
  rcases hi with q | q
  · exact Or.inl (h.2.1.trans q)
  · exact Or.inr (by rw [h.2.1]; exact xKeep_g h _ _ q)
theorem xKeep_v {x y : xSt} (h : xKeep x y) (hv : xV x) : xV y := fun i hi => by
  rw [h.1 0 (by decide) (by decide) (by decide) (by decide), h.1 2 (by decide) (by decide) (by decide) (by decide), h.1 3 (by decide) (by decide) (by decide) (by decide)]
  exact hv i hi
theorem xNotes_int (l : List Int32) : ∀ (x : xSt) (k : Nat), k ≠ 1 → (xNotes x l).2 k = x.2 k := by
  induction l with
  | nil => intro x k _; rfl
  | cons a l ih =>
    intro x k hk
    show (xNotes (xNote x a) l).2 k = _
    rw [ih _ _ hk]
    exact va_up_ne _ _ hk
theorem xAsk_int (x : xSt) (d : Nat) (p s v n : Int32) (k : Nat) (hk : k ≠ 1) : (xAsk x d p s v n).2 k = x.2 k := by
  unfold xAsk
  split
  · rfl
  · exact xNotes_int _ _ _ hk
theorem xKeep_ask (x : xSt) (d : Nat) (p s v n : Int32) : xKeep x (xAsk x d p s v n) :=
  ⟨fun k _ _ _ h => xAsk_row _ _ _ _ _ _ _ h, xAsk_int _ _ _ _ _ _ _ (by decide), fun i _ => Or.inl (by rw [xAsk_row _ _ _ _ _ _ _ (by decide)])⟩
theorem xKeep_sp (x : xSt) (g : Int32) : xKeep x (xSp x g) := ⟨fun k _ h _ _ => va_up_ne _ _ h, rfl, fun i _ => Or.inl rfl⟩
theorem xKeep_do (x : xSt) (s v : Int32) : xKeep x (xDo x s v) := ⟨fun k _ _ h _ => va_up_ne _ _ h, rfl, fun i _ => Or.inl rfl⟩
theorem xKeep_fol (x : xSt) (g s v : Int32) : xKeep x (xFol x g s v).2 := by
  unfold xFol
  split
  · exact ⟨fun _ _ _ _ _ => rfl, rfl, fun _ _ => Or.inl rfl⟩
  · split
    · exact xKeep.rf x
    · split
      · exact xKeep.rf x
      · exact (xKeep.of6 (xAcc_6 _ _ _ _ _)).tr (xKeep_do _ _ _)
theorem xKeep_loop {rc : Option (xSt → Int32 → Int32 → Int32 × xSt)} (hr : ∀ f, rc = some f → ∀ x s v, xKeep x (f x s v).2) : ∀ (n : Nat) (x : xSt) (s v : Int32), xKeep x (xLoop rc n x s v).2 := by
  intro n
  induction n with
  | zero => intro x s v; exact xKeep.rf x
  | succ n ih =>
    intro x s v
    unfold xLoop
    split
    · exact (xKeep_ask _ _ _ _ _ _).tr (xKeep_fol _ _ _ _)
    · split
      · exact xKeep_ask _ _ _ _ _ _
      · rename_i f
        have h1 := ((xKeep_ask x 7 (x.2 5) s v 1).tr (xKeep_sp _ (xSug x 7 (x.2 5) s v))).tr (hr f rfl _ ((xSp (xS1 x s v) (xSug x 7 (x.2 5) s v)).1 2 (tn (xSrc (xSug x 7 (x.2 5) s v)))) ((xSp (xS1 x s v) (xSug x 7 (x.2 5) s v)).1 3 (tn (xSrc (xSug x 7 (x.2 5) s v)))))
        split
        · exact h1
        · exact h1.tr (ih _ _ _)
theorem xKeep_act : ∀ (n : Nat) (x : xSt) (s v : Int32), xKeep x (xAct n x s v).2 := by
  intro n
  induction n with
  | zero =>
    intro x s v
    unfold xAct
    split
    · exact xKeep_do _ _ _
    · exact xKeep_loop (fun f h => by cases h) _ _ _ _
  | succ n ih =>
    intro x s v
    unfold xAct
    split
    · exact xKeep_do _ _ _
    · exact xKeep_loop (fun f h => by cases h; exact ih) _ _ _ _
/-! kinds and sources of suggestions -/
theorem xKind_nI {n : Nat} (h : n < 2 ^ 31) : xKind (nI n) = nI (n % 8) := by
  show nI n - nI n / nI 8 * nI 8 = _
  exact pk_rem h (by decide) (by decide)
theorem xSrc_nI {n : Nat} (h : n < 2 ^ 31) : xSrc (nI n) = nI (n / 8) := by
  show nI n / nI 8 = _
  exact pk_div h (by decide) (by decide)
theorem xMk_nI (i k : Nat) : nI i * 8 + nI k = nI (i * 8 + k) := by
  show nI i * nI 8 + nI k = _
  rw [pk_mul, nI_add]
/-- what a suggestion is: a bare kind, or an insert or a replace with its source -/
def xIs (x : xSt) (g : Int32) : Prop := (g = 0 ∨ g = 1 ∨ g = 4 ∨ g = 5) ∨ ∃ i : Nat, i < 40 ∧ ((g = nI (i * 8 + 2) ∧ x.1 0 i = 5 ∧ x.1 7 i = 0) ∨ (g = nI (i * 8 + 3) ∧ x.1 0 i = 4))
theorem xInSet_is {x : xSt} {p v : Int32} (hp : vp_in p 40) : xIs x (xInSet x p v) := by
  obtain ⟨i, hi, rfl⟩ := vp_in_of hp (by decide)
  have hc : tn (nI i) = i := nI_clamp (by omega)
  unfold xInSet
  rw [hc]
  split
  · exact Or.inl (Or.inr (Or.inl rfl))
  split
  · exact Or.inl (Or.inr (Or.inr (Or.inl rfl)))
  split
  · exact Or.inl (Or.inr (Or.inr (Or.inr rfl)))
  split
  · split
    · exact Or.inl (Or.inr (Or.inr (Or.inl rfl)))
    · exact Or.inl (Or.inr (Or.inl rfl))
  split
  · rename_i h
    exact Or.inr ⟨i, hi, Or.inr ⟨xMk_nI i 3, h⟩⟩
  split
  · rename_i h
    split
    · rename_i h2
      exact Or.inr ⟨i, hi, Or.inl ⟨xMk_nI i 2, h, h2⟩⟩
    · exact Or.inl (Or.inl rfl)
  split
  · split
    · exact Or.inl (Or.inr (Or.inr (Or.inl rfl)))
    · exact Or.inl (Or.inr (Or.inl rfl))
  · exact Or.inl (Or.inl rfl)
theorem xSug_is {x : xSt} (hv : xV x) (s v : Int32) : ∀ (d : Nat) (p : Int32), xG x d p → xIs x (xSug x d p s v) := by
  intro d
  induction d with
  | zero => intro p h; exact h.elim
  | succ d ih =>
    intro p h
    obtain ⟨hp, hk, hA, hB, h6⟩ := h
    unfold xSug
    split
    · rename_i hpr
      split
      · exact ih _ (hA (Or.inl hpr))
      · split
        · exact ih _ (hA (Or.inl hpr))
        · exact ih _ (hB (Or.inl hpr))
    · split
      · rename_i h12
        split
        · exact ih _ (hB (Or.inr h12))
        · exact Or.inl (Or.inl rfl)
      · split
        · rename_i h13
          exact ih _ (hA (Or.inr (Or.inl h13)))
        · split
          · rename_i h14
            split
            · obtain ⟨i, hi, rfl⟩ := vp_in_of hp (by decide)
              have hc : tn (nI i) = i := nI_clamp (by omega)
              rw [hc] at h14 ⊢
              exact Or.inl ((hv i hi).2 h14)
            · exact ih _ (hA (Or.inr (Or.inr h14)))
          · split
            · unfold xOfEntry
              split
              · exact Or.inl (Or.inl rfl)
              · split
                · exact Or.inl (Or.inr (Or.inr (Or.inl rfl)))
                · exact Or.inl (Or.inr (Or.inl rfl))
            · split
              · exact xInSet_is hp
              · exact Or.inl (Or.inl rfl)
theorem xIs_src {x : xSt} {g : Int32} (h : xIs x g) (hk : xKind g = 2 ∨ xKind g = 3) : ∃ i : Nat, i < 40 ∧ xSrc g = nI i ∧ ((xKind g = 2 ∧ g = nI (i * 8 + 2) ∧ x.1 0 i = 5 ∧ x.1 7 i = 0) ∨ (xKind g = 3 ∧ g = nI (i * 8 + 3) ∧ x.1 0 i = 4)) := by
  rcases h with h | ⟨i, hi, h⟩
  · exfalso
    rcases h with rfl | rfl | rfl | rfl <;> rcases hk with q | q <;> revert q <;> decide
  · refine ⟨i, hi, ?_, ?_⟩
    · rcases h with ⟨rfl, -⟩ | ⟨rfl, -⟩ <;> rw [xSrc_nI (by omega)] <;> congr 1 <;> omega
    · rcases h with ⟨rfl, h1, h2⟩ | ⟨rfl, h1⟩
      · refine Or.inl ⟨?_, rfl, h1, h2⟩
        rw [xKind_nI (by omega), show (i * 8 + 2) % 8 = 2 by omega]; rfl
      · refine Or.inr ⟨?_, rfl, h1⟩
        rw [xKind_nI (by omega), show (i * 8 + 3) % 8 = 3 by omega]; rfl
theorem xSo_in {s : Int32} (h : xSo s) : vp_in s 8 := by
  obtain ⟨j, h1, rfl⟩ := h
  exact vp_in_nI h1 (by decide)
theorem tn_nI {n : Nat} (h : n < 2 ^ 31) : tn (nI n) = n := nI_clamp h
theorem xFill {f g : Nat → Int32} {k : Nat} {i z : Int32} (hi : i = nI k) (hk : k < 2 ^ 31) (h0 : ∀ j, j < k → f j = z) (h1 : ∀ j, k ≤ j → f j = g j) : (∀ j, j < k + 1 → upd f (tn i) z j = z) ∧ (∀ j, k + 1 ≤ j → upd f (tn i) z j = g j) := by
  rw [hi, tn_nI hk]
  refine ⟨fun j hj => ?_, fun j hj => ?_⟩
  · by_cases q : j = k
    · rw [q]; exact pk_us
    · rw [pk_un q]; exact h0 j (by omega)
  · rw [pk_un (by omega)]; exact h1 j (by omega)
theorem xLoop_fol {rc : Option (xSt → Int32 → Int32 → Int32 × xSt)} {n : Nat} {x : xSt} {s v p g : Int32} (hp : p = x.2 5) (hg : g = xSug x 7 p s v) (hk : ¬ xKind g = 2) : xLoop rc (n + 1) x s v = xFol (xAsk x 7 p s v 1) g s v := by
  subst hp hg
  conv => lhs; unfold xLoop
  exact if_pos hk
theorem xLoop_none {n : Nat} {x : xSt} {s v p g : Int32} (hp : p = x.2 5) (hg : g = xSug x 7 p s v) (hk : xKind g = 2) : xLoop none (n + 1) x s v = (3, xAsk x 7 p s v 1) := by
  subst hp hg
  conv => lhs; unfold xLoop
  exact if_neg (fun z => z hk)
theorem xLoop_some {f : xSt → Int32 → Int32 → Int32 × xSt} {n : Nat} {x X : xSt} {s v p g i b c : Int32} (hp : p = x.2 5) (hg : g = xSug x 7 p s v) (hk : xKind g = 2) (hi : i = xSrc g) (hX : X = xA (xAsk x 7 p s v 1) 7 (upd ((xAsk x 7 p s v 1).1 7) (tn i) 1)) (hb : b = X.1 2 (tn i)) (hc : c = X.1 3 (tn i)) :
    xLoop (some f) (n + 1) x s v = if ¬ (f X b c).1 = 0 then f X b c else xLoop (some f) n (f X b c).2 s v := by
  subst hp hg hi hX hb hc
  conv => lhs; unfold xLoop
  exact if_neg (fun z => z hk)
