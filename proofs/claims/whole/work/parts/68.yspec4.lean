/-! the reference: asking, over its own stack -/
def yDown (x : xSt) (j : Nat) (r : Int32) : xSt := xPut (xPut (xPut x 16 j (x.1 16 j + 1)) 15 (j + 1) r) 16 (j + 1) 0
/-- the state after the policy p, at the place j of the stack, is answered -/
def yRun : Nat → xSt → Nat → Int32 → Int32 → Int32 → Int32 → xSt
  | 0, x, _, _, _, _, _ => x
  | d + 1, x, j, p, s, v, n =>
    if 0 ≤ yNext x p 0 s then
      (if 0 ≤ yNext (yRun d (yDown x j (yNext x p 0 s)) (j + 1) (yNext x p 0 s) s v n) p 1 s then
        yComb (yRun d (yDown (yRun d (yDown x j (yNext x p 0 s)) (j + 1) (yNext x p 0 s) s v n) j (yNext (yRun d (yDown x j (yNext x p 0 s)) (j + 1) (yNext x p 0 s) s v n) p 1 s)) (j + 1) (yNext (yRun d (yDown x j (yNext x p 0 s)) (j + 1) (yNext x p 0 s) s v n) p 1 s) s v n) p s v n
       else yComb (yRun d (yDown x j (yNext x p 0 s)) (j + 1) (yNext x p 0 s) s v n) p s v n)
    else yComb x p s v n
def yAll (x : xSt) (s v n : Int32) : xSt := yRun 7 (xPut (xPut x 15 0 (x.2 1)) 16 0 0) 0 (x.2 1) s v n
theorem xPut_ne (x : xSt) {k r : Nat} (i : Nat) (v : Int32) (h : r ≠ k) : (xPut x k i v).1 r = x.1 r := va_up_ne _ _ h
theorem xPut_eq (x : xSt) (k i : Nat) (v : Int32) : (xPut x k i v).1 k = upd (x.1 k) i v := by
  show va_up x.1 k _ k = _
  simp [va_up]
theorem xPut_at (x : xSt) (k i : Nat) (v : Int32) : (xPut x k i v).1 k i = v := by rw [xPut_eq]; exact pk_us
theorem xPut_un (x : xSt) (k i : Nat) (v : Int32) {r z : Nat} (h : r ≠ k ∨ z ≠ i) : (xPut x k i v).1 r z = x.1 r z := by
  by_cases q : r = k
  · subst q
    rw [xPut_eq, pk_un (h.resolve_left (fun z => z rfl))]
  · rw [xPut_ne x i v q]
/-- what an answering leaves: rows but 10 to 14, ints but 2 -/
def yKp (x z : xSt) : Prop := (∀ k, k < 10 ∨ 15 ≤ k → z.1 k = x.1 k) ∧ ∀ k, k ≠ 2 → z.2 k = x.2 k
theorem yKp.rf (x : xSt) : yKp x x := ⟨fun _ _ => rfl, fun _ _ => rfl⟩
theorem yKp.tr {x y z : xSt} (h : yKp x y) (h2 : yKp y z) : yKp x z := ⟨fun k q => (h2.1 k q).trans (h.1 k q), fun k q => (h2.2 k q).trans (h.2 k q)⟩
theorem yKp_put (x : xSt) {k : Nat} (i : Nat) (v : Int32) (h : 10 ≤ k ∧ k < 15) : yKp x (xPut x k i v) := ⟨fun r q => xPut_ne x i v (by omega), fun _ _ => rfl⟩
theorem yKp_sug (x : xSt) (p k : Int32) : yKp x (ySug x p k) := (yKp_put x _ _ (by decide)).tr (yKp_put _ _ _ (by decide))
theorem yKp_same (x : xSt) (p r : Int32) : yKp x (ySame x p r) := (((yKp_put x _ _ (by decide)).tr (yKp_put _ _ _ (by decide))).tr (yKp_put _ _ _ (by decide))).tr (yKp_put _ _ _ (by decide))
theorem yKp_src (x : xSt) (p g w : Int32) : yKp x (ySrc x p g w) := (((yKp_sug x p g).tr (yKp_put _ _ _ (by decide))).tr (yKp_put _ _ _ (by decide))).tr (yKp_put _ _ _ (by decide))
theorem yKp_note (x : xSt) (n : Int32) : yKp x (yNoteIn x n) := ⟨fun r q => va_up_ne _ _ (by omega), fun k q => va_up_ne _ _ q⟩
theorem yKp_plain (x : xSt) (p s v : Int32) : yKp x (yPlain x p s v) := by
  unfold yPlain
  repeat' split
  all_goals first | exact yKp_sug _ _ _ | exact yKp_src _ _ _ _
theorem yKp_comb (x : xSt) (p s v n : Int32) : yKp x (yComb x p s v n) := by
  unfold yComb yTurned yAud
  repeat' split
  all_goals first | exact yKp_sug _ _ _ | exact yKp_same _ _ _ | exact yKp_plain _ _ _ _ | exact (yKp_same _ _ _).tr (yKp_sug _ _ _) | exact (yKp_same _ _ _).tr (yKp_note _ _)
/-- what a run at the place j leaves -/
def yKr (j : Nat) (x z : xSt) : Prop := (∀ k, k < 10 ∨ 17 ≤ k → z.1 k = x.1 k) ∧ (∀ k, k ≠ 2 → z.2 k = x.2 k) ∧ (∀ i, i ≤ j → z.1 15 i = x.1 15 i) ∧ ∀ i, i < j → z.1 16 i = x.1 16 i
theorem yKr.tr {j : Nat} {x y z : xSt} (h : yKr j x y) (h2 : yKr j y z) : yKr j x z := ⟨fun k q => (h2.1 k q).trans (h.1 k q), fun k q => (h2.2.1 k q).trans (h.2.1 k q), fun k q => (h2.2.2.1 k q).trans (h.2.2.1 k q), fun k q => (h2.2.2.2 k q).trans (h.2.2.2 k q)⟩
theorem yKr.of {j : Nat} {x z : xSt} (h : yKp x z) : yKr j x z := ⟨fun k q => h.1 k (by omega), h.2, fun i _ => by rw [h.1 15 (by decide)], fun i _ => by rw [h.1 16 (by decide)]⟩
theorem yKr.mo {j : Nat} {x z : xSt} (h : yKr (j + 1) x z) : yKr j x z := ⟨h.1, h.2.1, fun i q => h.2.2.1 i (by omega), fun i q => h.2.2.2 i (by omega)⟩
theorem yKr_down (x : xSt) (j : Nat) (r : Int32) : yKr j x (yDown x j r) := by
  refine ⟨fun k q => ?_, fun k q => rfl, fun i q => ?_, fun i q => ?_⟩
  · show (xPut (xPut (xPut x 16 j _) 15 (j + 1) r) 16 (j + 1) 0).1 k = _
    rw [xPut_ne _ _ _ (by omega), xPut_ne _ _ _ (by omega), xPut_ne _ _ _ (by omega)]
  · show (xPut (xPut (xPut x 16 j _) 15 (j + 1) r) 16 (j + 1) 0).1 15 i = _
    rw [xPut_un _ _ _ _ (Or.inl (by decide)), xPut_un _ _ _ _ (Or.inr (by omega)), xPut_un _ _ _ _ (Or.inl (by decide))]
  · show (xPut (xPut (xPut x 16 j _) 15 (j + 1) r) 16 (j + 1) 0).1 16 i = _
    rw [xPut_un _ _ _ _ (Or.inr (by omega)), xPut_un _ _ _ _ (Or.inl (by decide)), xPut_un _ _ _ _ (Or.inr (by omega))]
theorem yDown_u (x : xSt) (j : Nat) (r : Int32) : (yDown x j r).1 15 (j + 1) = r := by
  show (xPut (xPut (xPut x 16 j _) 15 (j + 1) r) 16 (j + 1) 0).1 15 (j + 1) = _
  rw [xPut_un _ _ _ _ (Or.inl (by decide)), xPut_at]
theorem yDown_0 (x : xSt) (j : Nat) (r : Int32) : (yDown x j r).1 16 (j + 1) = 0 := xPut_at _ _ _ _
theorem yDown_t (x : xSt) (j : Nat) (r : Int32) : (yDown x j r).1 16 j = x.1 16 j + 1 := by
  show (xPut (xPut (xPut x 16 j _) 15 (j + 1) r) 16 (j + 1) 0).1 16 j = _
  rw [xPut_un _ _ _ _ (Or.inr (by omega)), xPut_un _ _ _ _ (Or.inl (by decide)), xPut_at]
theorem yKr_run : ∀ (d : Nat) (x : xSt) (j : Nat) (p s v n : Int32), yKr j x (yRun d x j p s v n) := by
  intro d
  induction d with
  | zero => intro x j p s v n; exact yKr.of (yKp.rf x)
  | succ d ih =>
    intro x j p s v n
    unfold yRun
    split
    · have h1 := (yKr_down x j (yNext x p 0 s)).tr (ih (yDown x j (yNext x p 0 s)) (j + 1) (yNext x p 0 s) s v n).mo
      split
      · exact ((h1.tr (yKr_down _ j _)).tr (ih _ (j + 1) _ s v n).mo).tr (yKr.of (yKp_comb _ _ _ _ _))
      · exact h1.tr (yKr.of (yKp_comb _ _ _ _ _))
    · exact yKr.of (yKp_comb _ _ _ _ _)
theorem xG_eq4 {x y : xSt} (h0 : y.1 0 = x.1 0) (h1 : y.1 1 = x.1 1) (h2 : y.1 2 = x.1 2) (h6 : y.1 6 = x.1 6) : ∀ (d : Nat) (p : Int32), xG y d p ↔ xG x d p := by
  intro d
  induction d with
  | zero => intro p; exact Iff.rfl
  | succ d ih =>
    intro p
    simp only [xG, h0, h1, h2, h6, ih]
theorem yG_kr {j : Nat} {x z : xSt} (h : yKr j x z) (d : Nat) (p : Int32) : xG (yx z) d p ↔ xG (yx x) d p :=
  xG_eq4 (x := yx x) (y := yx z) (h.1 0 (by decide)) (h.1 1 (by decide)) (h.1 2 (by decide)) (h.1 5 (by decide)) d p
theorem yNext_2 (x : xSt) (p s : Int32) : ¬ 0 ≤ yNext x p (0 + 1 + 1) s := by
  unfold yNext
  repeat' split
  all_goals first | decide | skip
  · rename_i h; exact absurd h.1 (by decide)
  · rename_i h; exact absurd h (by decide)
  · rename_i h _; exact absurd (Or.inl (by decide)) h
theorem yNext_g {x : xSt} {d : Nat} {p t s : Int32} (hg : xG (yx x) (d + 1) p) (h : 0 ≤ yNext x p t s) : xG (yx x) d (yNext x p t s) := by
  obtain ⟨hp, hk, hgA, hgB, hg6⟩ := hg
  have hA : pA (x.1 0 (tn p)) → xG (yx x) d (x.1 1 (tn p)) := hgA
  have hB : pB (x.1 0 (tn p)) → xG (yx x) d (x.1 2 (tn p)) := hgB
  have hk' : ∃ k : Nat, k < 15 ∧ x.1 0 (tn p) = nI k := hk
  revert h
  unfold yNext
  split
  · rename_i h8
    split
    · rename_i h12
      split
      · exact fun _ => hB (Or.inr h12)
      · exact fun z => absurd z (by decide)
    · rename_i h12
      have hq : pPair (x.1 0 (tn p)) ∨ x.1 0 (tn p) = 13 ∨ x.1 0 (tn p) = 14 := by
        by_cases q : 12 ≤ x.1 0 (tn p)
        · exact Or.inr (k_last hk' q h12)
        · exact Or.inl (k_pair hk' h8 q)
      split
      · exact fun _ => hA hq
      · split
        · exact fun z => absurd z (by decide)
        · rename_i hle
          split
          · exact fun z => absurd z (by decide)
          · intro _
            refine hB (Or.inl (hq.resolve_right (fun z => hle (Or.inr ?_))))
            rcases z with z | z <;> rw [z] <;> decide
  · exact fun z => absurd z (by decide)
