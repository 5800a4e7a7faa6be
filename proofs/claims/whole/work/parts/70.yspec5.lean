/-! the reference: accepting, over its own stack -/
def yLeaf (x : xSt) (p s : Int32) : xSt :=
  if x.1 0 (tn p) = 3 then (if pIn (x.1 1 (tn p)) s then xPut x 5 (tn p) (x.1 5 (tn p) + 1) else x)
  else if x.1 0 (tn p) = 6 then (if 4 ≤ yEnt x p s then x else xPut x 5 (tn p) (yEnt x p s)) else x
def yTop (x : xSt) (j : Nat) (p s : Int32) : Nat × xSt :=
  if x.1 0 (tn p) = 8 then (2, xPut (xPut x 15 j (x.1 2 (tn p))) 15 (j + 1) (x.1 1 (tn p)))
  else if x.1 0 (tn p) = 12 then (if pIn (x.1 1 (tn p)) s then (1, xPut x 15 j (x.1 2 (tn p))) else (0, x))
  else if x.1 0 (tn p) ≤ 12 then (if x.1 0 (tn p) ≤ 8 then (0, yLeaf x p s) else (1, xPut x 15 j (if pTA x (x.1 0 (tn p)) (x.1 1 (tn p)) (x.1 2 (tn p)) then x.1 1 (tn p) else x.1 2 (tn p))))
  else (1, xPut x 15 j (x.1 1 (tn p)))
/-- the state after the policy p, at the place j of the stack, has accepted -/
def yAc : Nat → xSt → Nat → Int32 → Int32 → xSt
  | 0, x, _, _, _ => x
  | d + 1, x, j, p, s =>
    if (yTop x j p s).1 = 0 then (yTop x j p s).2
    else if (yTop x j p s).1 = 1 then yAc d (yTop x j p s).2 j ((yTop x j p s).2.1 15 j) s
    else yAc d (yAc d (yTop x j p s).2 (j + 1) ((yTop x j p s).2.1 15 (j + 1)) s) j ((yTop x j p s).2.1 15 j) s
def yAcc (x : xSt) (s v : Int32) : xSt := yAc 7 (xPut (yAll x s v 0) 15 0 (x.2 1)) 0 (x.2 1) s
/-- what an accepting at the place j leaves -/
def yKa (j : Nat) (x z : xSt) : Prop := (∀ k, k ≠ 5 → k ≠ 15 → z.1 k = x.1 k) ∧ z.2 = x.2 ∧ (∀ i, i < j → z.1 15 i = x.1 15 i) ∧ ∀ i, x.1 0 i = 6 → z.1 5 i = x.1 5 i ∨ ∃ t : Nat, t < 4 ∧ z.1 5 i = nI t
theorem yKa.rf (j : Nat) (x : xSt) : yKa j x x := ⟨fun _ _ _ => rfl, rfl, fun _ _ => rfl, fun _ _ => Or.inl rfl⟩
theorem yKa.tr {j : Nat} {x y z : xSt} (h : yKa j x y) (h2 : yKa j y z) : yKa j x z := by
  refine ⟨fun k a b => (h2.1 k a b).trans (h.1 k a b), h2.2.1.trans h.2.1, fun i q => (h2.2.2.1 i q).trans (h.2.2.1 i q), fun i hi => ?_⟩
  rcases h2.2.2.2 i (by rw [h.1 0 (by decide) (by decide)]; exact hi) with q | q
  · rcases h.2.2.2 i hi with r | ⟨t, r1, r2⟩
    · exact Or.inl (q.trans r)
    · exact Or.inr ⟨t, r1, q.trans r2⟩
  · exact Or.inr q
theorem yKa.mo {j : Nat} {x z : xSt} (h : yKa (j + 1) x z) : yKa j x z := ⟨h.1, h.2.1, fun i q => h.2.2.1 i (by omega), h.2.2.2⟩
/-- the entries of the tables are at least 0 -/
def yTb (x : xSt) : Prop := ∀ i, ¬ x.1 8 i < 0
theorem yKa_leaf (j : Nat) {x : xSt} (hT : yTb x) (p s : Int32) : yKa j x (yLeaf x p s) := by
  unfold yLeaf
  split
  · rename_i h3
    split
    · refine ⟨fun k a _ => xPut_ne _ _ _ a, rfl, fun i _ => xPut_un _ _ _ _ (Or.inl (by decide)), fun i hi => Or.inl (xPut_un _ _ _ _ (Or.inr (fun z => ?_)))⟩
      rw [z, h3] at hi
      exact absurd hi (by decide)
    · exact yKa.rf _ _
  · split
    · split
      · exact yKa.rf _ _
      · rename_i h4
        refine ⟨fun k a _ => xPut_ne _ _ _ a, rfl, fun i _ => xPut_un _ _ _ _ (Or.inl (by decide)), fun i hi => ?_⟩
        by_cases q : i = tn p
        · obtain ⟨t, h5, h6⟩ := pBelow_nat (a := yEnt x p s) (b := 4) ⟨hT _, h4⟩ rfl (by decide)
          exact Or.inr ⟨t, h5, by rw [q, xPut_at]; exact h6⟩
        · exact Or.inl (xPut_un _ _ _ _ (Or.inr q))
    · exact yKa.rf _ _
theorem yKa_put (x : xSt) (j i : Nat) (v : Int32) (h : j ≤ i) : yKa j x (xPut x 15 i v) := ⟨fun k _ a => xPut_ne _ _ _ a, rfl, fun z hz => xPut_un _ _ _ _ (Or.inr (by omega)), fun z _ => Or.inl (xPut_un _ _ _ _ (Or.inl (by decide)))⟩
theorem yKa_top (j : Nat) {x : xSt} (hT : yTb x) (p s : Int32) : yKa j x (yTop x j p s).2 := by
  unfold yTop
  repeat' split
  all_goals first | exact yKa.rf _ _ | exact yKa_leaf j hT p s | exact yKa_put x j j _ (Nat.le_refl _) | exact (yKa_put x j j _ (Nat.le_refl _)).tr (yKa_put _ j (j + 1) _ (Nat.le_succ _))
theorem yKa_tb {j : Nat} {x z : xSt} (h : yKa j x z) (hT : yTb x) : yTb z := by
  intro i
  rw [h.1 8 (by decide) (by decide)]
  exact hT i
theorem yKa_ac : ∀ (d : Nat) (x : xSt) (j : Nat) (p s : Int32), yTb x → yKa j x (yAc d x j p s) := by
  intro d
  induction d with
  | zero => intro x j p s _; exact yKa.rf _ _
  | succ d ih =>
    intro x j p s hT
    have h1 := yKa_top j hT p s
    unfold yAc
    split
    · exact h1
    · split
      · exact h1.tr (ih _ j _ s (yKa_tb h1 hT))
      · have h2 := ih (yTop x j p s).2 (j + 1) ((yTop x j p s).2.1 15 (j + 1)) s (yKa_tb h1 hT)
        exact (h1.tr h2.mo).tr (ih _ j _ s (yKa_tb h2 (yKa_tb h1 hT)))
theorem xG_k4 {x y : xSt} (h0 : y.1 0 = x.1 0) (h1 : y.1 1 = x.1 1) (h2 : y.1 2 = x.1 2) (h6 : ∀ i, x.1 0 i = 6 → y.1 6 i = x.1 6 i ∨ ∃ t : Nat, t < 4 ∧ y.1 6 i = nI t) : ∀ (d : Nat) (p : Int32), xG x d p → xG y d p := by
  intro d
  induction d with
  | zero => intro p q; exact q
  | succ d ih =>
    intro p q
    obtain ⟨q1, q2, q3, q4, q5⟩ := q
    refine ⟨q1, by rw [h0]; exact q2, fun z => ?_, fun z => ?_, fun z => ?_⟩
    · rw [h1]; rw [h0] at z; exact ih _ (q3 z)
    · rw [h2]; rw [h0] at z; exact ih _ (q4 z)
    · rw [h1]; rw [h0] at z
      obtain ⟨r1, r2⟩ := q5 z
      refine ⟨r1, ?_⟩
      rcases h6 _ z with r | r
      · rw [r]; exact r2
      · exact r
theorem yG_ka {j : Nat} {x z : xSt} (h : yKa j x z) (d : Nat) (p : Int32) (hg : xG (yx x) d p) : xG (yx z) d p :=
  xG_k4 (x := yx x) (y := yx z) (h.1 0 (by decide) (by decide)) (h.1 1 (by decide) (by decide)) (h.1 2 (by decide) (by decide)) h.2.2.2 d p hg
theorem yTop_2 {x : xSt} {j : Nat} {p s : Int32} {d : Nat} (hg : xG (yx x) (d + 1) p) (h0 : ¬ (yTop x j p s).1 = 0) (h1 : ¬ (yTop x j p s).1 = 1) : (yTop x j p s).1 = 2 ∧ xG (yx x) d ((yTop x j p s).2.1 15 (j + 1)) ∧ xG (yx x) d ((yTop x j p s).2.1 15 j) := by
  obtain ⟨hp, hk, hgA, hgB, hg6⟩ := hg
  have hA : pA (x.1 0 (tn p)) → xG (yx x) d (x.1 1 (tn p)) := hgA
  have hB : pB (x.1 0 (tn p)) → xG (yx x) d (x.1 2 (tn p)) := hgB
  by_cases h8 : x.1 0 (tn p) = 8
  · rw [yTop, if_pos h8]
    refine ⟨rfl, ?_, ?_⟩
    · rw [xPut_at]; exact hA (Or.inl (Or.inl h8))
    · rw [xPut_un _ _ _ _ (Or.inr (by omega)), xPut_at]; exact hB (Or.inl (Or.inl h8))
  · exfalso
    revert h0 h1
    rw [yTop, if_neg h8]
    repeat' split
    all_goals first | exact fun z _ => z rfl | exact fun _ z => z rfl
theorem yTop_1 {x : xSt} {j : Nat} {p s : Int32} {d : Nat} (hg : xG (yx x) (d + 1) p) (h1 : (yTop x j p s).1 = 1) : xG (yx x) d ((yTop x j p s).2.1 15 j) := by
  obtain ⟨hp, hk, hgA, hgB, hg6⟩ := hg
  have hA : pA (x.1 0 (tn p)) → xG (yx x) d (x.1 1 (tn p)) := hgA
  have hB : pB (x.1 0 (tn p)) → xG (yx x) d (x.1 2 (tn p)) := hgB
  have hk' : ∃ k : Nat, k < 15 ∧ x.1 0 (tn p) = nI k := hk
  revert h1
  unfold yTop
  split
  · exact fun z => absurd (show (2 : Nat) = 1 from z) (by decide)
  · split
    · rename_i h12
      split
      · intro _; show xG (yx x) d ((xPut x 15 j _).1 15 j); rw [xPut_at]; exact hB (Or.inr h12)
      · exact fun z => absurd (show (0 : Nat) = 1 from z) (by decide)
    · rename_i h12
      split
      · rename_i hle
        split
        · exact fun z => absurd (show (0 : Nat) = 1 from z) (by decide)
        · rename_i h8
          have hpr : pPair (x.1 0 (tn p)) := k_pair hk' (Int32.le_of_lt (Int32.not_le.mp h8)) (fun z => h12 (Int32.le_antisymm hle z))
          intro _
          show xG (yx x) d ((xPut x 15 j _).1 15 j)
          rw [xPut_at]
          split
          · exact hA (Or.inl hpr)
          · exact hB (Or.inl hpr)
      · rename_i hle
        intro _
        show xG (yx x) d ((xPut x 15 j _).1 15 j)
        rw [xPut_at]
        exact hA (Or.inr (k_last hk' (Int32.le_of_lt (Int32.not_le.mp hle)) h12))
