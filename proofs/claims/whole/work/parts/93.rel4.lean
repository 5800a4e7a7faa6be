/-! policy -/
theorem le_lt {a b c : Int32} (h : c.toInt = b.toInt + 1) : a < c ↔ a ≤ b := by
  rw [Int32.lt_iff_toInt_lt, Int32.le_iff_toInt_le, h]
  omega
theorem said_k {X : xSt} {k a b c : Int32} (h : pSaid X k a b c) : ∃ j : Nat, j < 15 ∧ k = nI j := by
  rcases h with ⟨h | h | h | h | h, -⟩ | ⟨h, -⟩ | ⟨h, -⟩ | ⟨h, -⟩ | ⟨h | h | h | h, -⟩ | ⟨h, -⟩ | ⟨h, -⟩ | ⟨h, -⟩
  · exact ⟨0, by decide, h⟩
  · exact ⟨1, by decide, h⟩
  · exact ⟨2, by decide, h⟩
  · exact ⟨4, by decide, h⟩
  · exact ⟨7, by decide, h⟩
  · exact ⟨3, by decide, h⟩
  · exact ⟨5, by decide, h⟩
  · exact ⟨6, by decide, h⟩
  · exact ⟨8, by decide, h⟩
  · exact ⟨9, by decide, h⟩
  · exact ⟨10, by decide, h⟩
  · exact ⟨11, by decide, h⟩
  · exact ⟨12, by decide, h⟩
  · exact ⟨13, by decide, h⟩
  · exact ⟨14, by decide, h⟩
theorem k_in {k : Int32} (h : ∃ j : Nat, j < 15 ∧ k = nI j) : ¬ pOut k 0 14 := by
  rcases k_all h with rfl | rfl | rfl | rfl | rfl | rfl | rfl | rfl | rfl | rfl | rfl | rfl | rfl | rfl | rfl <;> decide
theorem no_below {X x : xSt} (e0 : x.2 0 = X.2 0) (p : Int32) : pNo x p ↔ ¬ pBelow p (X.2 0) := by
  unfold pNo pBelow
  rw [e0]
  constructor
  · rintro (q | q) ⟨a, b⟩
    · exact a q
    · exact b (Int32.not_lt.mp q)
  · intro q
    by_cases z : p < 0
    · exact Or.inl z
    · exact Or.inr (fun w => q ⟨z, Int32.not_le.mpr w⟩)
theorem fit_0 {x : xSt} {k a b c : Int32} (h : pP0 k) : yFits x k a b c = if pOut a 0 255 then 0 else 1 := by
  rcases h with rfl | rfl | rfl | rfl | rfl
  all_goals
    rw [yFits, if_neg (by rintro (q | ⟨q, -⟩ | ⟨q, -⟩) <;> revert q <;> decide), if_neg (by decide), if_neg (by decide)]
    by_cases q : pOut a 0 255
    · rw [if_pos ⟨by decide, q⟩, if_pos q]
    · rw [if_neg (fun z => q z.2), if_neg q, if_neg (by decide), if_neg (fun z => absurd z.1 (by decide))]
theorem fit_3 {x : xSt} {a b c : Int32} : yFits x 3 a b c = if pOut a 0 255 then 0 else if pOut b 0 99 then 0 else 1 := by
  rw [yFits, if_neg (by rintro (q | ⟨q, -⟩ | ⟨q, -⟩) <;> revert q <;> decide), if_neg (by decide), if_neg (by decide)]
  by_cases q : pOut a 0 255
  · rw [if_pos ⟨by decide, q⟩, if_pos q]
  · rw [if_neg (fun z => q z.2), if_neg q, if_pos rfl]
theorem fit_5 {x : xSt} {a b c : Int32} : yFits x 5 a b c = if pOut a 0 255 then 0 else if pOut b 0 7 then 0 else 1 := by
  rw [yFits, if_neg (by rintro (q | ⟨q, -⟩ | ⟨q, -⟩) <;> revert q <;> decide), if_neg (by decide), if_neg (by decide)]
  by_cases q : pOut a 0 255
  · rw [if_pos ⟨by decide, q⟩, if_pos q]
  · rw [if_neg (fun z => q z.2), if_neg q, if_neg (by decide)]
    by_cases q2 : pOut b 0 7
    · rw [if_pos ⟨rfl, q2⟩, if_pos q2]
    · rw [if_neg (fun z => q2 z.2), if_neg q2]
theorem fit_6 {x : xSt} {a b c : Int32} : yFits x 6 a b c = if pOut a 0 2 then 0 else 1 := by
  rw [yFits, if_neg (by rintro (q | ⟨q, -⟩ | ⟨q, -⟩) <;> revert q <;> decide), if_pos rfl]
theorem fit_8 {x : xSt} {k a b c : Int32} (h : pPair k) : yFits x k a b c = if pNo x a ∨ pNo x b then 0 else 1 := by
  have f : ¬ pOut k 0 14 ∧ pNA k ∧ pNB k ∧ ¬ k = 6 ∧ ¬ k = 14 ∧ ¬ k = 3 ∧ ¬ k = 5 := by rcases h with rfl | rfl | rfl | rfl <;> decide
  obtain ⟨f1, f2, f3, f4, f5, f6, f7⟩ := f
  rw [yFits]
  by_cases q : pNo x a ∨ pNo x b
  · rw [if_pos q, if_pos]
    rcases q with q | q
    · exact Or.inr (Or.inl ⟨f2, q⟩)
    · exact Or.inr (Or.inr ⟨f3, q⟩)
  · rw [if_neg q, if_neg (by rintro (z | z | z); exact f1 z; exact q (Or.inl z.2); exact q (Or.inr z.2)), if_neg f4, if_neg f5, if_neg (fun z => z.1 f2), if_neg f6, if_neg (fun z => f7 z.1)]
theorem fit_12 {x : xSt} {a b c : Int32} : yFits x 12 a b c = if pNo x b ∨ pOut a 0 255 then 0 else 1 := by
  rw [yFits]
  by_cases q : pNo x b
  · rw [if_pos (Or.inl q), if_pos (Or.inr (Or.inr ⟨by decide, q⟩))]
  · rw [if_neg (by rintro (z | ⟨z, -⟩ | z); exact absurd z (by decide); exact absurd z (by decide); exact q z.2), if_neg (by decide), if_neg (by decide)]
    by_cases q2 : pOut a 0 255
    · rw [if_pos ⟨by decide, q2⟩, if_pos (Or.inr q2)]
    · rw [if_neg (fun z => q2 z.2), if_neg (by decide), if_neg (fun z => absurd z.1 (by decide)), if_neg (fun z => z.elim q q2)]
theorem fit_13 {x : xSt} {a b c : Int32} : yFits x 13 a b c = if pNo x a then 0 else 1 := by
  rw [yFits]
  by_cases q : pNo x a
  · rw [if_pos q, if_pos (Or.inr (Or.inl ⟨by decide, q⟩))]
  · rw [if_neg q, if_neg (by rintro (z | z | ⟨z, -⟩); exact absurd z (by decide); exact q z.2; exact absurd z (by decide)), if_neg (by decide), if_neg (by decide), if_neg (fun z => z.1 (by decide)), if_neg (by decide), if_neg (fun z => absurd z.1 (by decide))]
theorem fit_14 {x : xSt} {a b c : Int32} : yFits x 14 a b c = if pNo x a then 0 else xb (pTurn b ∧ (c = 0 ∨ pTurn c)) := by
  rw [yFits]
  by_cases q : pNo x a
  · rw [if_pos q, if_pos (Or.inr (Or.inl ⟨by decide, q⟩))]
  · rw [if_neg q, if_neg (by rintro (z | z | ⟨z, -⟩); exact absurd z (by decide); exact q z.2; exact absurd z (by decide)), if_neg (by decide), if_pos rfl]
theorem if01 {P : Prop} [Decidable P] : ((if P then (0 : Int32) else 1) = 0) ↔ P := by
  by_cases h : P
  · rw [if_pos h]; exact ⟨fun _ => h, fun _ => rfl⟩
  · rw [if_neg h]; exact ⟨fun z => absurd z (by decide), fun z => absurd z h⟩
theorem xb0 {P : Prop} [Decidable P] : (xb P = 0) ↔ ¬ P := by
  by_cases h : P
  · rw [xb, if_pos h]; exact ⟨fun z => absurd z (by decide), fun z => absurd h z⟩
  · rw [xb, if_neg h]; exact ⟨fun _ => h, fun _ => rfl⟩
theorem fit_said {X x : xSt} (e0 : x.2 0 = X.2 0) (k a b c : Int32) : (yFits x k a b c = 0) ↔ ¬ pSaid X k a b c := by
  have b256 := below_out (v := a) (b := 255) (c := 256) (by decide)
  have b3 := below_out (v := a) (b := 2) (c := 3) (by decide)
  have b100 := below_out (v := b) (b := 99) (c := 100) (by decide)
  have b8 := below_out (v := b) (b := 7) (c := 8) (by decide)
  have na := no_below e0 a
  have nb := no_below e0 b
  by_cases ho : pOut k 0 14
  · rw [yFits, if_pos (Or.inl ho)]
    exact ⟨fun _ z => k_in (said_k z) ho, fun _ => rfl⟩
  · obtain ⟨j, hj, ej⟩ := pOut_nat ho (show (14 : Int32) = nI 14 from rfl) (by decide)
    have h0 : ∀ k : Int32, pP0 k → ((yFits x k a b c = 0) ↔ ¬ pSaid X k a b c) := fun k hk => by
      rw [fit_0 hk, if01, pSaid_0 hk, b256]
      exact Classical.not_not.symm
    have h8 : ∀ k : Int32, pPair k → ((yFits x k a b c = 0) ↔ ¬ pSaid X k a b c) := fun k hk => by
      rw [fit_8 hk, if01, pSaid_8 hk, na, nb]
      exact Classical.not_and_iff_not_or_not.symm
    rcases k_all ⟨j, hj, ej⟩ with rfl | rfl | rfl | rfl | rfl | rfl | rfl | rfl | rfl | rfl | rfl | rfl | rfl | rfl | rfl
    · exact h0 0 (by decide)
    · exact h0 1 (by decide)
    · exact h0 2 (by decide)
    · rw [fit_3, pSaid_3 rfl, b256, b100]
      by_cases q : pOut a 0 255
      · rw [if_pos q]; exact ⟨fun _ z => z.1 q, fun _ => rfl⟩
      · rw [if_neg q, if01]; exact ⟨fun z w => w.2 z, fun z => Classical.byContradiction (fun w => z ⟨q, w⟩)⟩
    · exact h0 4 (by decide)
    · rw [fit_5, pSaid_5 rfl, b256, b8]
      by_cases q : pOut a 0 255
      · rw [if_pos q]; exact ⟨fun _ z => z.1 q, fun _ => rfl⟩
      · rw [if_neg q, if01]; exact ⟨fun z w => w.2 z, fun z => Classical.byContradiction (fun w => z ⟨q, w⟩)⟩
    · rw [fit_6, if01, pSaid_6 rfl, b3]
      exact Classical.not_not.symm
    · exact h0 7 (by decide)
    · exact h8 8 (by decide)
    · exact h8 9 (by decide)
    · exact h8 10 (by decide)
    · exact h8 11 (by decide)
    · rw [fit_12, if01, pSaid_12 rfl, b256, nb]
      constructor
      · rintro (z | z) w
        · exact z w.2
        · exact w.1 z
      · intro z
        by_cases q : pOut a 0 255
        · exact Or.inr q
        · exact Or.inl (fun w => z ⟨q, w⟩)
    · rw [fit_13, if01, pSaid_13 rfl, na]
    · rw [fit_14, pSaid_14 rfl]
      by_cases q : pNo x a
      · rw [if_pos q]; exact ⟨fun _ z => na.mp q z.1, fun _ => rfl⟩
      · rw [if_neg q, xb0]
        have qa : pBelow a (X.2 0) := Classical.byContradiction (fun z => q (na.mpr z))
        exact ⟨fun z w => z w.2, fun z w => z ⟨qa, w⟩⟩
theorem k_nA {k : Int32} (h : ∃ j : Nat, j < 15 ∧ k = nI j) : (pNA k ↔ pA k) ∧ (pNB k ↔ pB k) ∧ (pNA k ∧ pNB k ↔ pPair k) := by
  rcases k_all h with rfl | rfl | rfl | rfl | rfl | rfl | rfl | rfl | rfl | rfl | rfl | rfl | rfl | rfl | rfl <;> decide
def cPol (E : String) : Int32 := if E = "java/lang/IllegalArgumentException" then 1 else if E = "java/lang/IllegalStateException" then 2 else if E = "java/lang/UnsupportedOperationException" then 3 else 4
/-- the level of the new policy -/
theorem lev_ok {X x : xSt} {N : Nat} {par : Nat → Nat} (hN : xWN X N par) (r4 : x.1 4 = X.1 4) {k a b c : Int32} (hs : pSaid X k a b c) : ∃ m : Nat, m < 8 ∧ yL x k a b = nI m ∧ xLev X k a b = nI (m + 1) ∧ (pA k → ∃ j M : Nat, j < N ∧ a = nI j ∧ M < m + 1 ∧ X.1 4 j = nI M) ∧ (pB k → ∃ j M : Nat, j < N ∧ b = nI j ∧ M < m + 1 ∧ X.1 4 j = nI M) := by
  have h40 := hN.1
  obtain ⟨kA, kB, -⟩ := k_nA (said_k hs)
  have lev : ∀ p : Int32, pBelow p (X.2 0) → ∃ j M : Nat, j < N ∧ p = nI j ∧ M < 8 ∧ X.1 4 j = nI M := fun p hp => by
    obtain ⟨j, j1, j2⟩ := pBelow_nat hp hN.2.1 (by omega)
    obtain ⟨-, ⟨M, m1, -, m2, -⟩, -⟩ := hN.2.2.2.2.2.2.2 j j1
    exact ⟨j, M, j1, j2, m1, m2⟩
  have hA : ∃ La : Nat, La < 8 ∧ xLa X k a = nI La ∧ (pA k → ∃ j : Nat, j < N ∧ a = nI j ∧ X.1 4 j = nI La) ∧ yL0 x k a = nI La := by
    by_cases q : pA k
    · obtain ⟨j, M, j1, j2, m1, m2⟩ := lev a (said_A hs q)
      have e : X.1 4 (tn a) = nI M := by rw [j2, tn_nI (by omega)]; exact m2
      exact ⟨M, m1, by rw [xLa, if_pos q]; exact e, fun _ => ⟨j, j1, j2, m2⟩, by rw [yL0, if_pos (kA.mpr q), r4]; exact e⟩
    · exact ⟨0, by decide, by rw [xLa, if_neg q]; rfl, fun z => absurd z q, by rw [yL0, if_neg (fun z => q (kA.mp z))]; rfl⟩
  obtain ⟨La, la1, la2, la3, la4⟩ := hA
  by_cases q : pB k
  · obtain ⟨j, M, j1, j2, m1, m2⟩ := lev b (said_B hs q)
    have e : X.1 4 (tn b) = nI M := by rw [j2, tn_nI (by omega)]; exact m2
    have hlt : (nI La < nI M) ↔ La < M := nI_ltI (by omega) (by omega)
    by_cases z : La < M
    · refine ⟨M, m1, ?_, ?_, fun qa => ?_, fun _ => ⟨j, M, j1, j2, by omega, m2⟩⟩
      · rw [yL, la4, r4, e, if_pos ⟨kB.mpr q, Int32.not_le.mpr (hlt.mpr z)⟩]
      · rw [xLev, la2, xLb, if_pos q, e, if_pos (hlt.mpr z)]; exact nI_1 M
      · obtain ⟨i, i1, i2, i3⟩ := la3 qa
        exact ⟨i, La, i1, i2, by omega, i3⟩
    · refine ⟨La, la1, ?_, ?_, fun qa => ?_, fun _ => ⟨j, M, j1, j2, by omega, m2⟩⟩
      · rw [yL, la4, r4, e, if_neg (fun w => z (hlt.mp (Int32.not_le.mp w.2)))]
      · rw [xLev, la2, xLb, if_pos q, e, if_neg (fun w => z (hlt.mp w))]; exact nI_1 La
      · obtain ⟨i, i1, i2, i3⟩ := la3 qa
        exact ⟨i, La, i1, i2, by omega, i3⟩
  · refine ⟨La, la1, ?_, ?_, fun qa => ?_, fun z => absurd z q⟩
    · rw [yL, la4, if_neg (fun w => q (kB.mp w.1))]
    · rw [xLev, la2, xLb, if_neg q, if_neg (show ¬ nI La < 0 from nI_nlt (a := La) (b := 0) (by omega) (by omega))]; exact nI_1 La
    · obtain ⟨i, i1, i2, i3⟩ := la3 qa
      exact ⟨i, La, i1, i2, by omega, i3⟩
