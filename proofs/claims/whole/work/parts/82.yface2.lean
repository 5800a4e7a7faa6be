theorem yPol_c {x : xSt} {k a b c C : Int32} (h : yPolC x k a b c = C) (h0 : ¬ C = 0) : yPolR x k a b c = 0 ∧ yPolX x k a b c = xI x 6 C := by
  rw [yPolR, yPolX, h, if_neg h0, if_neg h0]
  exact ⟨rfl, rfl⟩
theorem yFits_A {x : xSt} (hN : xN x) {k a b c : Int32} (h : ¬ yFits x k a b c = 0) (hA : pNA k) : vp_in a 40 := by
  refine pNo_in hN (fun z => h ?_)
  rw [yFits, if_pos (Or.inr (Or.inl ⟨hA, z⟩))]
theorem yFits_B {x : xSt} (hN : xN x) {k a b c : Int32} (h : ¬ yFits x k a b c = 0) (hB : pNB k) : vp_in b 40 := by
  refine pNo_in hN (fun z => h ?_)
  rw [yFits, if_pos (Or.inr (Or.inr ⟨hB, z⟩))]
theorem xN_ne {x : xSt} (h : xN x) (h2 : ¬ x.2 0 = 40) : vp_in (x.2 0) 40 := by
  obtain ⟨N, h3, h4⟩ := h
  rw [h4] at h2 ⊢
  rcases Nat.lt_or_ge N 40 with q | q
  · exact vp_in_nI q (by decide)
  · exact absurd (by rw [show N = 40 by omega]; rfl) h2
theorem yW_beg {x : xSt} {s v : Int32} (h : yW x) : yW (yBeg x s v) := by
  obtain ⟨h1, h2, h3⟩ := h
  refine ⟨fun q => ?_, h2, h3⟩
  obtain ⟨a, b⟩ := h1 q
  exact ⟨(xG_eq4 (x := yx x) (y := yx (yBeg x s v)) rfl rfl rfl rfl _ _).mpr a, (xTr_eq (x := yx x) (y := yx (yBeg x s v)) rfl rfl rfl _ _).mpr b⟩
