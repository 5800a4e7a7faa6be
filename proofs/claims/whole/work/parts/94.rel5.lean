theorem xNew_ne (X : xSt) (k a b c v : Int32) {r i : Nat} (h : 5 ≤ r ∨ i ≠ tn (X.2 0)) : (xNew X k a b c v).1 r i = X.1 r i := by
  show (xPut (xPut (xPut (xPut (xPut X 0 _ k) 1 _ a) 2 _ b) 3 _ c) 4 _ v).1 r i = _
  have f : ∀ (Y : xSt) (q : Nat) (w : Int32), q < 5 → (xPut Y q (tn (X.2 0)) w).1 r i = Y.1 r i := fun Y q w hq => by
    rcases h with h | h
    · exact xPut_un _ _ _ _ (Or.inl (by omega))
    · exact xPut_un _ _ _ _ (Or.inr h)
  rw [f _ 4 v (by decide), f _ 3 c (by decide), f _ 2 b (by decide), f _ 1 a (by decide), f _ 0 k (by decide)]
theorem xNew_at (X : xSt) (k a b c v : Int32) : (xNew X k a b c v).1 0 (tn (X.2 0)) = k ∧ (xNew X k a b c v).1 1 (tn (X.2 0)) = a ∧ (xNew X k a b c v).1 2 (tn (X.2 0)) = b ∧ (xNew X k a b c v).1 3 (tn (X.2 0)) = c ∧ (xNew X k a b c v).1 4 (tn (X.2 0)) = v := by
  refine ⟨?_, ?_, ?_, ?_, ?_⟩
  · show (xPut (xPut (xPut (xPut (xPut X 0 _ k) 1 _ a) 2 _ b) 3 _ c) 4 _ v).1 0 _ = _
    rw [xPut_un _ _ _ _ (Or.inl (by decide)), xPut_un _ _ _ _ (Or.inl (by decide)), xPut_un _ _ _ _ (Or.inl (by decide)), xPut_un _ _ _ _ (Or.inl (by decide)), xPut_at]
  · show (xPut (xPut (xPut (xPut (xPut X 0 _ k) 1 _ a) 2 _ b) 3 _ c) 4 _ v).1 1 _ = _
    rw [xPut_un _ _ _ _ (Or.inl (by decide)), xPut_un _ _ _ _ (Or.inl (by decide)), xPut_un _ _ _ _ (Or.inl (by decide)), xPut_at]
  · show (xPut (xPut (xPut (xPut (xPut X 0 _ k) 1 _ a) 2 _ b) 3 _ c) 4 _ v).1 2 _ = _
    rw [xPut_un _ _ _ _ (Or.inl (by decide)), xPut_un _ _ _ _ (Or.inl (by decide)), xPut_at]
  · show (xPut (xPut (xPut (xPut (xPut X 0 _ k) 1 _ a) 2 _ b) 3 _ c) 4 _ v).1 3 _ = _
    rw [xPut_un _ _ _ _ (Or.inl (by decide)), xPut_at]
  · exact xPut_at _ _ _ _
theorem xU_ne (X : xSt) (P : Prop) [Decidable P] (a : Int32) {r i : Nat} (h : r ≠ 5 ∨ i ≠ tn a) : (xU X P a).1 r i = X.1 r i := by
  unfold xU
  split
  · exact xPut_un X 5 (tn a) 1 h
  · rfl
theorem xU_mono (X : xSt) (P : Prop) [Decidable P] (a : Int32) {i : Nat} (h : ¬ X.1 5 i = 0) : ¬ (xU X P a).1 5 i = 0 := by
  by_cases q : i = tn a
  · unfold xU
    split
    · rw [q]
      show ¬ (xPut X 5 (tn a) 1).1 5 (tn a) = 0
      rw [xPut_at]; decide
    · exact h
  · rw [xU_ne X P a (Or.inr q)]; exact h
theorem xU_at (X : xSt) (P : Prop) [Decidable P] (a : Int32) (hP : P) : ¬ (xU X P a).1 5 (tn a) = 0 := by
  rw [xU, if_pos hP]
  show ¬ (xPut X 5 (tn a) 1).1 5 (tn a) = 0
  rw [xPut_at]; decide
theorem xU_int (X : xSt) (P : Prop) [Decidable P] (a : Int32) : (xU X P a).2 = X.2 := by
  unfold xU
  split <;> rfl
theorem yUs_rel {X x : xSt} (h : yR X x) (P R : Prop) [Decidable P] [Decidable R] (hPR : R ↔ P) (a : Int32) : yR (xU X P a) (yUs x R a) := by
  unfold xU yUs
  by_cases q : P
  · rw [if_pos q, if_pos (hPR.mpr q)]
    exact yR_g h (k := 5) (by decide) rfl (by rw [show x.1 6 = X.1 5 from h 5 (by decide)])
  · rw [if_neg q, if_neg (fun z => q (hPR.mp z))]
    exact h
theorem yUs_int (x : xSt) (P : Prop) [Decidable P] (a : Int32) : (yUs x P a).2 = x.2 ∧ (yUs x P a).1 10 = x.1 10 := by
  unfold yUs
  split <;> exact ⟨rfl, rfl⟩
theorem xU_10 (X : xSt) (P : Prop) [Decidable P] (a : Int32) : (xU X P a).1 10 = X.1 10 := funext fun i => xU_ne X P a (Or.inl (by decide))
theorem rel_add {X x : xSt} (h : yRel X x) {k : Int32} (hA : pNA k ↔ pA k) (hB : pNB k ↔ pB k) (a b c : Int32) {v w : Int32} (hv : v = w) : yRel (xAdd X k a b c v) (yAdd x k a b c w) := by
  subst hv
  have e0 : x.2 0 = X.2 0 := h.1.2.1 0 (by decide) (by decide)
  have hnew : yR (xNew X k a b c v) (xNew x k a b c v) := by
    unfold xNew
    rw [e0]
    have f : ∀ (Y y : xSt) (q i : Nat) (w : Int32), q < 5 → yR Y y → yR (xPut Y q i w) (xPut y q i w) := fun Y y q i w hq hY => by
      have hq' : yr q = q := by
        match q, hq with
        | 0, _ | 1, _ | 2, _ | 3, _ | 4, _ => rfl
      exact yR_g hY (k := q) (by omega) hq' (by rw [show y.1 q = Y.1 q by have := hY q (by omega); rw [hq'] at this; exact this])
    exact f _ _ 4 _ _ (by decide) (f _ _ 3 _ _ (by decide) (f _ _ 2 _ _ (by decide) (f _ _ 1 _ _ (by decide) (f _ _ 0 _ _ (by decide) h.1.1))))
  refine ⟨⟨yUs_rel (yUs_rel hnew _ _ hA a) _ _ hB b, fun r hr hr6 => ?_, ?_⟩, ?_⟩
  · by_cases q : r = 0
    · subst q
      show x.2 0 + 1 = X.2 0 + 1
      rw [e0]
    · have a1 : (yAdd x k a b c v).2 (yi r) = x.2 (yi r) := by
        have hne : yi r ≠ 0 := by
          match r, hr with
          | 1, _ | 2, _ | 3, _ | 4, _ | 5, _ | 6, _ | 7, _ => decide
          | 0, _ => exact absurd rfl q
        show va_up (yUs (yUs (xNew x k a b c v) (pNA k) a) (pNB k) b).2 0 (x.2 0 + 1) (yi r) = _
        rw [va_up_ne _ _ hne, (yUs_int _ _ _).1, (yUs_int _ _ _).1]
        rfl
      have a2 : (xAdd X k a b c v).2 r = X.2 r := by
        show va_up (xU (xU (xNew X k a b c v) (pA k) a) (pB k) b).2 0 (X.2 0 + 1) r = _
        rw [va_up_ne _ _ q, xU_int, xU_int]
        rfl
      rw [a1, a2]
      exact h.1.2.1 r hr hr6
  · have a1 : (yAdd x k a b c v).1 10 = x.1 10 := by
      show (yUs (yUs (xNew x k a b c v) (pNA k) a) (pNB k) b).1 10 = _
      rw [(yUs_int _ _ _).2, (yUs_int _ _ _).2]
      rfl
    have a2 : (xAdd X k a b c v).1 10 = X.1 10 := by
      show (xU (xU (xNew X k a b c v) (pA k) a) (pB k) b).1 10 = _
      rw [xU_10, xU_10]
      rfl
    have a3 : (xAdd X k a b c v).2 1 = X.2 1 := by
      show va_up (xU (xU (xNew X k a b c v) (pA k) a) (pB k) b).2 0 (X.2 0 + 1) 1 = _
      rw [va_up_ne _ _ (by decide), xU_int, xU_int]
      rfl
    rw [a1, a2, a3]
    exact h.1.2.2
  · have a1 : (yAdd x k a b c v).2 8 = x.2 8 := by
      show va_up (yUs (yUs (xNew x k a b c v) (pNA k) a) (pNB k) b).2 0 (x.2 0 + 1) 8 = _
      rw [va_up_ne _ _ (by decide), (yUs_int _ _ _).1, (yUs_int _ _ _).1]
      rfl
    have a2 : (xAdd X k a b c v).2 6 = X.2 6 := by
      show va_up (xU (xU (xNew X k a b c v) (pA k) a) (pB k) b).2 0 (X.2 0 + 1) 6 = _
      rw [va_up_ne _ _ (by decide), xU_int, xU_int]
      rfl
    rw [a1, a2]
    exact h.2
theorem wf_add {X : xSt} {N : Nat} {par : Nat → Nat} (hN : xWN X N par) {k a b c : Int32} (hs : pSaid X k a b c) (ht : ¬ pTaken X k a b) (hlt : N < 40) {m : Nat} (hm : m < 7) (hA : pA k → ∃ j M : Nat, j < N ∧ a = nI j ∧ M < m + 1 ∧ X.1 4 j = nI M) (hB : pB k → ∃ j M : Nat, j < N ∧ b = nI j ∧ M < m + 1 ∧ X.1 4 j = nI M) : xWF (xAdd X k a b c (nI (m + 1))) := by
  have tN : tn (X.2 0) = N := by rw [hN.2.1]; exact tn_nI (by omega)
  have uA : pA k → X.1 5 (tn a) = 0 := fun q => Classical.byContradiction (fun z => ht (Or.inl ⟨q, z⟩))
  have uB : pB k → X.1 5 (tn b) = 0 := fun q => Classical.byContradiction (fun z => ht (Or.inr (Or.inl ⟨q, z⟩)))
  have rne : ∀ r i, r ≠ 5 → (5 ≤ r ∨ i ≠ N) → (xAdd X k a b c (nI (m + 1))).1 r i = X.1 r i := fun r i hr hi => by
    show (xU (xU (xNew X k a b c _) (pA k) a) (pB k) b).1 r i = _
    rw [xU_ne _ _ _ (Or.inl hr), xU_ne _ _ _ (Or.inl hr), xNew_ne _ _ _ _ _ _ (by rw [tN]; exact hi)]
  obtain ⟨n0, n1, n2, n3, n4⟩ := xNew_at X k a b c (nI (m + 1))
  rw [tN] at n0 n1 n2 n3 n4
  have rat : ∀ r, r ≠ 5 → (xAdd X k a b c (nI (m + 1))).1 r N = (xNew X k a b c (nI (m + 1))).1 r N := fun r hr => by
    show (xU (xU (xNew X k a b c _) (pA k) a) (pB k) b).1 r N = _
    rw [xU_ne _ _ _ (Or.inl hr), xU_ne _ _ _ (Or.inl hr)]
  have g0 := (rat 0 (by decide)).trans n0
  have g1 := (rat 1 (by decide)).trans n1
  have g2 := (rat 2 (by decide)).trans n2
  have g3 := (rat 3 (by decide)).trans n3
  have g4 := (rat 4 (by decide)).trans n4
  have um : ∀ i, ¬ X.1 5 i = 0 → ¬ (xAdd X k a b c (nI (m + 1))).1 5 i = 0 := fun i hi => by
    show ¬ (xU (xU (xNew X k a b c _) (pA k) a) (pB k) b).1 5 i = 0
    refine xU_mono _ _ _ (xU_mono _ _ _ ?_)
    rw [xNew_ne _ _ _ _ _ _ (Or.inl (by decide))]; exact hi
  have ua : pA k → ¬ (xAdd X k a b c (nI (m + 1))).1 5 (tn a) = 0 := fun q => xU_mono _ _ _ (xU_at _ _ _ q)
  have ub : pB k → ¬ (xAdd X k a b c (nI (m + 1))).1 5 (tn b) = 0 := fun q => xU_at _ _ _ q
  have i5 : (xAdd X k a b c (nI (m + 1))).2 5 = X.2 5 := by
    show va_up (xU (xU (xNew X k a b c _) (pA k) a) (pB k) b).2 0 (X.2 0 + 1) 5 = _
    rw [va_up_ne _ _ (by decide), xU_int, xU_int]; rfl
  have i6 : (xAdd X k a b c (nI (m + 1))).2 6 = X.2 6 := by
    show va_up (xU (xU (xNew X k a b c _) (pA k) a) (pB k) b).2 0 (X.2 0 + 1) 6 = _
    rw [va_up_ne _ _ (by decide), xU_int, xU_int]; rfl
  have i0 : (xAdd X k a b c (nI (m + 1))).2 0 = nI (N + 1) := by
    show X.2 0 + 1 = _
    rw [hN.2.1]; exact nI_1 N
  refine ⟨N + 1, fun z => if (pA k ∧ z = tn a) ∨ (pB k ∧ z = tn b) then N else par z, by omega, i0, ?_, by rw [i6]; exact hN.2.2.2.1, fun i => ?_, fun i hi => ?_, fun z => ?_, fun i hi => ?_⟩
  · rw [i5]
    rcases hN.2.2.1 with z | ⟨j, j1, j2⟩
    · exact Or.inl z
    · exact Or.inr ⟨j, by omega, j2⟩
  · rw [rne 8 i (by decide) (Or.inl (by decide))]; exact hN.2.2.2.2.1 i
  · obtain ⟨z1, z2⟩ := hN.2.2.2.2.2.1 i (by omega)
    rw [rne 0 i (by decide) (Or.inr (by omega)), rne 6 i (by decide) (Or.inl (by decide))]
    exact ⟨z1, z2⟩
  · show z < if (pA k ∧ z = tn a) ∨ (pB k ∧ z = tn b) then N else par z
    split
    · rename_i q
      rcases q with ⟨q, e⟩ | ⟨q, e⟩
      · obtain ⟨j, M, j1, j2, -⟩ := hA q
        rw [e, j2, tn_nI (by omega)]; exact j1
      · obtain ⟨j, M, j1, j2, -⟩ := hB q
        rw [e, j2, tn_nI (by omega)]; exact j1
    · exact hN.2.2.2.2.2.2.1 z
  · by_cases hiN : i = N
    · subst hiN
      unfold xPW
      rw [g0, g1, g2, g3, g4]
      refine ⟨said_k hs, ⟨m + 1, by omega, by omega, rfl, fun q => ?_, fun q => ?_⟩, fun q e => ht (Or.inr (Or.inr ⟨q, e⟩)), fun q => ?_, fun q => ?_, fun q => ?_⟩
      · obtain ⟨j, M, j1, j2, j3, j4⟩ := hA q
        have ta : tn a = j := by rw [j2]; exact tn_nI (by omega)
        refine ⟨j, j1, j2, if_pos (Or.inl ⟨q, ta.symm⟩), ?_, M, j3, ?_⟩
        · have := ua q; rw [ta] at this; exact this
        · rw [rne 4 j (by decide) (Or.inr (by omega))]; exact j4
      · obtain ⟨j, M, j1, j2, j3, j4⟩ := hB q
        have tb : tn b = j := by rw [j2]; exact tn_nI (by omega)
        refine ⟨j, j1, j2, if_pos (Or.inr ⟨q, tb.symm⟩), ?_, M, j3, ?_⟩
        · have := ub q; rw [tb] at this; exact this
        · rw [rne 4 j (by decide) (Or.inr (by omega))]; exact j4
      · refine ⟨pBelow_nat ((pSaid_6 q).mp hs) rfl (by decide), 0, by decide, ?_⟩
        rw [rne 6 i (by decide) (Or.inl (by decide)), (hN.2.2.2.2.2.1 i (Nat.le_refl _)).2]
        rfl
      · exact xSo_of ((pSaid_5 q).mp hs).2
      · rcases ((pSaid_14 q).mp hs).2.2 with z | z | z | z
        · exact Or.inl z
        · exact Or.inr (Or.inl z)
        · exact Or.inr (Or.inr (Or.inl z))
        · exact Or.inr (Or.inr (Or.inr z))
    · have hi' : i < N := by omega
      obtain ⟨p1, ⟨L, l1, l2, l3, cA, cB⟩, p3, p4, p5, p6⟩ := hN.2.2.2.2.2.2.2 i hi'
      have ch : ∀ d : Int32, xCh X par i L d → xCh (xAdd X k a b c (nI (m + 1))) (fun z => if (pA k ∧ z = tn a) ∨ (pB k ∧ z = tn b) then N else par z) i L d := fun d hd => by
        obtain ⟨j, j1, j2, j3, j4, M, j5, j6⟩ := hd
        refine ⟨j, j1, j2, ?_, um j j4, M, j5, ?_⟩
        · show (if (pA k ∧ j = tn a) ∨ (pB k ∧ j = tn b) then N else par j) = i
          rw [if_neg]
          · exact j3
          · rintro (⟨q, e⟩ | ⟨q, e⟩)
            · exact j4 (by rw [e]; exact uA q)
            · exact j4 (by rw [e]; exact uB q)
        · rw [rne 4 j (by decide) (Or.inr (by omega))]; exact j6
      unfold xPW
      rw [rne 0 i (by decide) (Or.inr hiN), rne 1 i (by decide) (Or.inr hiN), rne 2 i (by decide) (Or.inr hiN), rne 3 i (by decide) (Or.inr hiN), rne 4 i (by decide) (Or.inr hiN), rne 6 i (by decide) (Or.inl (by decide))]
      exact ⟨p1, ⟨L, l1, l2, l3, fun q => ch _ (cA q), fun q => ch _ (cB q)⟩, p3, p4, p5, p6⟩
theorem t_policy {X x : xSt} (hw : xWF X) (h : yRel X x) (k a b c : Int32) : xWF (xPol X k a b c) ∧ yRel (xPol X k a b c) (yPolX x k a b c) ∧ oK cPol (xPolO X k a b c) (yPolX x k a b c) (yPolR x k a b c) := by
  have e0 : x.2 0 = X.2 0 := h.1.2.1 0 (by decide) (by decide)
  have r6 : x.1 6 = X.1 5 := h.1.1 5 (by decide)
  have r4 : x.1 4 = X.1 4 := h.1.1 4 (by decide)
  have hf := fit_said e0 k a b c
  rw [xPol, xPolO]
  by_cases hs : pSaid X k a b c
  · rw [if_pos hs, if_pos hs]
    obtain ⟨N, par, hN⟩ := id hw
    have h40 := hN.1
    have nf : ¬ yFits x k a b c = 0 := fun z => hf.mp z hs
    obtain ⟨kA, kB, kP⟩ := k_nA (said_k hs)
    have hu : pYU x k a b ↔ pTaken X k a b := by
      unfold pYU pTaken
      rw [r6, kA, kB]
      have : (pA k ∧ pB k ∧ a = b) ↔ (pPair k ∧ a = b) := by
        rw [← kP, ← and_assoc, kA, kB]
      rw [this]
    by_cases ht : pTaken X k a b
    · rw [if_pos ht, if_pos ht]
      obtain ⟨c1, c2⟩ := yPol_c (x := x) (k := k) (a := a) (b := b) (c := c) (C := 2) (by rw [yPolC, if_neg nf, if_pos (hu.mpr ht)]) (by decide)
      rw [c1, c2]
      exact ⟨hw, rel_6 h 2, oK_r rfl⟩
    · rw [if_neg ht, if_neg ht]
      obtain ⟨m, m1, m2, m3, mA, mB⟩ := lev_ok hN r4 hs
      have nu : ¬ pYU x k a b := fun z => ht (hu.mp z)
      rw [m3]
      by_cases h7 : m = 7
      · have hle : ¬ nI (m + 1) ≤ 7 := by rw [h7]; decide
        rw [if_neg hle, if_neg hle]
        obtain ⟨c1, c2⟩ := yPol_c (x := x) (k := k) (a := a) (b := b) (c := c) (C := 3) (by rw [yPolC, if_neg nf, if_neg nu, if_pos (by rw [m2, h7]; rfl)]) (by decide)
        rw [c1, c2]
        exact ⟨hw, rel_6 h 3, oK_r rfl⟩
      · have hle : nI (m + 1) ≤ 7 := nI_le (a := m + 1) (b := 7) (by omega) (by decide)
        have n7 : ¬ yL x k a b = 7 := fun z => h7 (nI_inj (a := m) (b := 7) (m2.symm.trans z) (by omega) (by decide))
        rw [if_pos hle, if_pos hle]
        by_cases hlt : N < 40
        · have hl : X.2 0 < 40 := by rw [hN.2.1]; exact nI_lt (a := N) (b := 40) hlt (by decide)
          have n40 : ¬ x.2 0 = 40 := fun z => by rw [← e0, z] at hl; exact absurd hl (by decide)
          have c0 : yPolC x k a b c = 0 := by rw [yPolC, if_neg nf, if_neg nu, if_neg n7, if_neg n40]
          rw [if_pos hl, if_pos hl, yPolX, yPolR, if_pos c0, if_pos c0]
          refine ⟨wf_add hN hs ht hlt (by omega) mA mB, rel_6 (rel_add h kA kB a b c (by rw [m2]; exact (nI_1 m).symm)) 0, oK_l rfl ?_⟩
          rw [← e0]
          exact s32_1 (x.2 0)
        · have hl : ¬ X.2 0 < 40 := by rw [hN.2.1]; exact nI_nlt (a := N) (b := 40) (by omega) (by omega)
          have e40 : x.2 0 = 40 := by rw [e0, hN.2.1, show N = 40 by omega]; rfl
          obtain ⟨c1, c2⟩ := yPol_c (x := x) (k := k) (a := a) (b := b) (c := c) (C := 4) (by rw [yPolC, if_neg nf, if_neg nu, if_neg n7, if_pos e40]) (by decide)
          rw [if_neg hl, if_neg hl, c1, c2]
          exact ⟨hw, rel_6 h 4, oK_r rfl⟩
  · rw [if_neg hs, if_neg hs]
    obtain ⟨c1, c2⟩ := yPol_c (x := x) (k := k) (a := a) (b := b) (c := c) (C := 1) (if_pos (hf.mpr hs)) (by decide)
    rw [c1, c2]
    exact ⟨hw, rel_6 h 1, oK_r rfl⟩
