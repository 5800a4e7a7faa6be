/-! what the reference's asking answers: against the class's suggestions -/
/-- the policies under p -/
def xSub (x : xSt) : Nat → Int32 → Nat → Prop
  | 0, _, _ => False
  | d + 1, p, i => i = tn p ∨ (pA (x.1 0 (tn p)) ∧ xSub x d (x.1 1 (tn p)) i) ∨ (pB (x.1 0 (tn p)) ∧ xSub x d (x.1 2 (tn p)) i)
/-- they are a tree -/
def xTr (x : xSt) : Nat → Int32 → Prop
  | 0, _ => False
  | d + 1, p => (pA (x.1 0 (tn p)) → xTr x d (x.1 1 (tn p)) ∧ ¬ xSub x d (x.1 1 (tn p)) (tn p)) ∧ (pB (x.1 0 (tn p)) → xTr x d (x.1 2 (tn p)) ∧ ¬ xSub x d (x.1 2 (tn p)) (tn p)) ∧ (pPair (x.1 0 (tn p)) → ∀ i, xSub x d (x.1 1 (tn p)) i → ¬ xSub x d (x.1 2 (tn p)) i)
theorem xSub_eq {x y : xSt} (h0 : y.1 0 = x.1 0) (h1 : y.1 1 = x.1 1) (h2 : y.1 2 = x.1 2) : ∀ (d : Nat) (p : Int32) (i : Nat), xSub y d p i ↔ xSub x d p i := by
  intro d
  induction d with
  | zero => intro p i; exact Iff.rfl
  | succ d ih => intro p i; simp only [xSub, h0, h1, h2, ih]
theorem xTr_eq {x y : xSt} (h0 : y.1 0 = x.1 0) (h1 : y.1 1 = x.1 1) (h2 : y.1 2 = x.1 2) : ∀ (d : Nat) (p : Int32), xTr y d p ↔ xTr x d p := by
  intro d
  induction d with
  | zero => intro p; exact Iff.rfl
  | succ d ih => intro p; simp only [xTr, h0, h1, h2, ih, xSub_eq h0 h1 h2]
/-- the entries of the tables -/
def yT6 (x : xSt) : Prop := ∀ i, ∃ e : Nat, e < 6 ∧ x.1 8 i = nI e
theorem yT6_tb {x : xSt} (h : yT6 x) : yTb x := fun i => by
  obtain ⟨e, h1, h2⟩ := h i
  rw [h2]
  exact nI_nlt (a := e) (b := 0) (by omega) (by omega)
/-- the place i of the reference's answers holds the suggestion g -/
def yAt (x z : xSt) (i : Nat) (g : Int32) : Prop := z.1 11 i = xKind g ∧ (xKind g = 2 ∨ xKind g = 3 → z.1 14 i = xSrc g ∧ z.1 12 i = x.1 2 (tn (xSrc g)) ∧ z.1 13 i = if xKind g = 2 then x.1 3 (tn (xSrc g)) else x.1 2 (tn (xSrc g)))
/-- rows 11 to 14 of z and y are the same at i -/
def yEq4 (y z : xSt) (i : Nat) : Prop := z.1 11 i = y.1 11 i ∧ z.1 12 i = y.1 12 i ∧ z.1 13 i = y.1 13 i ∧ z.1 14 i = y.1 14 i
theorem yEq4.rf (y : xSt) (i : Nat) : yEq4 y y i := ⟨rfl, rfl, rfl, rfl⟩
theorem yEq4.tr {x y z : xSt} {i : Nat} (h : yEq4 x y i) (h2 : yEq4 y z i) : yEq4 x z i := ⟨h2.1.trans h.1, h2.2.1.trans h.2.1, h2.2.2.1.trans h.2.2.1, h2.2.2.2.trans h.2.2.2⟩
theorem yAt_eq {x y z : xSt} {i : Nat} {g : Int32} (h : yEq4 y z i) (ha : yAt x y i g) : yAt x z i g := by
  refine ⟨h.1.trans ha.1, fun q => ?_⟩
  obtain ⟨a, b, c⟩ := ha.2 q
  exact ⟨h.2.2.2.trans a, h.2.1.trans b, h.2.2.1.trans c⟩
/-- all that was asked under p is answered -/
def yTree (x z : xSt) (s v : Int32) : Nat → Int32 → Prop
  | 0, _ => True
  | d + 1, p => yAt x z (tn p) (xSug x (d + 1) p s v) ∧
    (pPair (x.1 0 (tn p)) → yTree x z s v d (x.1 1 (tn p)) ∧ (x.1 0 (tn p) = 8 ∨ x.1 0 (tn p) = 9 ∨ ¬ pFirst (x.1 0 (tn p)) (xKind (xSug x d (x.1 1 (tn p)) s v)) 0 → yTree x z s v d (x.1 2 (tn p)))) ∧
    (x.1 0 (tn p) = 12 → pIn (x.1 1 (tn p)) s → yTree x z s v d (x.1 2 (tn p))) ∧
    (x.1 0 (tn p) = 13 ∨ x.1 0 (tn p) = 14 → yTree x z s v d (x.1 1 (tn p)))
theorem yTree_at {x z : xSt} {s v : Int32} {d : Nat} {p : Int32} (h : yTree x z s v d p) (hd : xG x d p) : yAt x z (tn p) (xSug x d p s v) := by
  cases d with
  | zero => exact hd.elim
  | succ d => exact h.1
theorem yTree_eq {x y z : xSt} {s v : Int32} : ∀ (d : Nat) (p : Int32), (∀ i, xSub x d p i → yEq4 y z i) → yTree x y s v d p → yTree x z s v d p := by
  intro d
  induction d with
  | zero => intro p _ h; exact h
  | succ d ih =>
    intro p hs h
    obtain ⟨h1, h2, h3, h4⟩ := h
    refine ⟨yAt_eq (hs _ (Or.inl rfl)) h1, fun q => ⟨ih _ (fun i hi => hs i (Or.inr (Or.inl ⟨Or.inl q, hi⟩))) (h2 q).1, fun w => ih _ (fun i hi => hs i (Or.inr (Or.inr ⟨Or.inl q, hi⟩))) ((h2 q).2 w)⟩, fun q w => ih _ (fun i hi => hs i (Or.inr (Or.inr ⟨Or.inr q, hi⟩))) (h3 q w), fun q => ih _ (fun i hi => hs i (Or.inr (Or.inl ⟨Or.inr q, hi⟩))) (h4 q)⟩
/-- notes put in, one after the other -/
def yNs (f : (Nat → Int32) × Int32) (l : List Int32) : (Nat → Int32) × Int32 := l.foldl (fun f n => (yPush f.1 n, f.2 + 1)) f
def yN (x : xSt) : (Nat → Int32) × Int32 := (x.1 10, x.2 2)
theorem yNs_app (f : (Nat → Int32) × Int32) (l l2 : List Int32) : yNs f (l ++ l2) = yNs (yNs f l) l2 := List.foldl_append
theorem yN_sug (x : xSt) (p k : Int32) : yN (ySug x p k) = yN x := rfl
theorem yN_same (x : xSt) (p r : Int32) : yN (ySame x p r) = yN x := rfl
theorem yN_src (x : xSt) (p g w : Int32) : yN (ySrc x p g w) = yN x := rfl
theorem yN_down (x : xSt) (j : Nat) (r : Int32) : yN (yDown x j r) = yN x := rfl
theorem yN_note (x : xSt) (n : Int32) : yN (yNoteIn x n) = (yPush (yN x).1 n, (yN x).2 + 1) := rfl
theorem yEq4_put (x : xSt) {k : Nat} (i : Nat) (v : Int32) {z : Nat} (h : z ≠ i ∨ k < 11 ∨ 15 ≤ k) : yEq4 x (xPut x k i v) z := by
  have a : ∀ r, 11 ≤ r ∧ r < 15 → (xPut x k i v).1 r z = x.1 r z := fun r hr => by
    by_cases q : z = i
    · exact xPut_un x k i v (Or.inl (by omega))
    · exact xPut_un x k i v (Or.inr q)
  exact ⟨a 11 (by decide), a 12 (by decide), a 13 (by decide), a 14 (by decide)⟩
theorem yEq4_sug (x : xSt) (p k : Int32) {z : Nat} (h : z ≠ tn p) : yEq4 x (ySug x p k) z := (yEq4_put x _ _ (Or.inl h)).tr (yEq4_put _ _ _ (Or.inl h))
theorem yEq4_same (x : xSt) (p r : Int32) {z : Nat} (h : z ≠ tn p) : yEq4 x (ySame x p r) z := (((yEq4_put x _ _ (Or.inl h)).tr (yEq4_put _ _ _ (Or.inl h))).tr (yEq4_put _ _ _ (Or.inl h))).tr (yEq4_put _ _ _ (Or.inl h))
theorem yEq4_src (x : xSt) (p g w : Int32) {z : Nat} (h : z ≠ tn p) : yEq4 x (ySrc x p g w) z := (((yEq4_sug x p g h).tr (yEq4_put _ _ _ (Or.inl h))).tr (yEq4_put _ _ _ (Or.inl h))).tr (yEq4_put _ _ _ (Or.inl h))
theorem yEq4_note (x : xSt) (n : Int32) (z : Nat) : yEq4 x (yNoteIn x n) z := ⟨rfl, rfl, rfl, rfl⟩
theorem yEq4_down (x : xSt) (j : Nat) (r : Int32) (z : Nat) : yEq4 x (yDown x j r) z := ((yEq4_put x _ _ (Or.inr (Or.inr (by decide)))).tr (yEq4_put _ _ _ (Or.inr (Or.inr (by decide))))).tr (yEq4_put _ _ _ (Or.inr (Or.inr (by decide))))
theorem yEq4_comb (x : xSt) (p s v n : Int32) {z : Nat} (h : z ≠ tn p) : yEq4 x (yComb x p s v n) z := by
  unfold yComb yTurned yAud yPlain
  repeat' split
  all_goals first | exact yEq4_sug _ _ _ h | exact yEq4_same _ _ _ h | exact yEq4_src _ _ _ _ h | exact (yEq4_same _ _ _ h).tr (yEq4_sug _ _ _ h) | exact (yEq4_same _ _ _ h).tr (yEq4_note _ _ _)
theorem ySug_11 (x : xSt) (p k : Int32) : (ySug x p k).1 11 (tn p) = k := by
  show (xPut (xPut x 11 (tn p) k) 14 (tn p) (-1)).1 11 (tn p) = k
  rw [xPut_un _ _ _ _ (Or.inl (by decide)), xPut_at]
theorem ySame_4 (x : xSt) (p r : Int32) : (ySame x p r).1 11 (tn p) = x.1 11 (tn r) ∧ (ySame x p r).1 12 (tn p) = x.1 12 (tn r) ∧ (ySame x p r).1 13 (tn p) = x.1 13 (tn r) ∧ (ySame x p r).1 14 (tn p) = x.1 14 (tn r) := by
  refine ⟨?_, ?_, ?_, ?_⟩
  · show (xPut (xPut (xPut (xPut x 11 (tn p) _) 12 (tn p) _) 13 (tn p) _) 14 (tn p) _).1 11 (tn p) = _
    rw [xPut_un _ _ _ _ (Or.inl (by decide)), xPut_un _ _ _ _ (Or.inl (by decide)), xPut_un _ _ _ _ (Or.inl (by decide)), xPut_at]
  · show (xPut (xPut (xPut (xPut x 11 (tn p) _) 12 (tn p) _) 13 (tn p) _) 14 (tn p) _).1 12 (tn p) = _
    rw [xPut_un _ _ _ _ (Or.inl (by decide)), xPut_un _ _ _ _ (Or.inl (by decide)), xPut_at]
  · show (xPut (xPut (xPut (xPut x 11 (tn p) _) 12 (tn p) _) 13 (tn p) _) 14 (tn p) _).1 13 (tn p) = _
    rw [xPut_un _ _ _ _ (Or.inl (by decide)), xPut_at]
  · exact xPut_at _ _ _ _
theorem yAt_same {x z : xSt} {p r g : Int32} (h : yAt x z (tn r) g) : yAt x (ySame z p r) (tn p) g := by
  obtain ⟨a, b, c, d⟩ := ySame_4 z p r
  refine ⟨a.trans h.1, fun q => ?_⟩
  obtain ⟨h1, h2, h3⟩ := h.2 q
  exact ⟨d.trans h1, b.trans h2, c.trans h3⟩
/-- kinds that hold no source -/
theorem yAt_sug (x z : xSt) (p : Int32) {k : Int32} (h : k = 0 ∨ k = 1 ∨ k = 4 ∨ k = 5) : yAt x (ySug z p k) (tn p) k := by
  refine ⟨?_, fun q => ?_⟩
  · rw [ySug_11]; rcases h with rfl | rfl | rfl | rfl <;> decide
  · exfalso
    rcases h with rfl | rfl | rfl | rfl <;> revert q <;> decide
