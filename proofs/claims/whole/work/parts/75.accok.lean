/-! the reference's accepting is the class's -/
theorem xSug_sub {X X0 : xSt} (h : ∀ k, k ≠ 6 → X.1 k = X0.1 k) (s v : Int32) : ∀ (d : Nat) (p : Int32), (∀ i, xSub X0 d p i → X.1 6 i = X0.1 6 i) → xSug X d p s v = xSug X0 d p s v := by
  intro d
  induction d with
  | zero => intro p _; rfl
  | succ d ih =>
    intro p hs
    have hp := hs (tn p) (Or.inl rfl)
    have hA : pA (X0.1 0 (tn p)) → xSug X d (X0.1 1 (tn p)) s v = xSug X0 d (X0.1 1 (tn p)) s v := fun q => ih _ (fun i hi => hs i (Or.inr (Or.inl ⟨q, hi⟩)))
    have hB : pB (X0.1 0 (tn p)) → xSug X d (X0.1 2 (tn p)) s v = xSug X0 d (X0.1 2 (tn p)) s v := fun q => ih _ (fun i hi => hs i (Or.inr (Or.inr ⟨q, hi⟩)))
    have h0 := h 0 (by decide)
    have h1 := h 1 (by decide)
    have h2 := h 2 (by decide)
    have h3 := h 3 (by decide)
    have h7 := h 7 (by decide)
    have h8 := h 8 (by decide)
    rw [xSug, xSug, h0, h1, h2, h3]
    by_cases q : pPair (X0.1 0 (tn p))
    · rw [if_pos q, if_pos q, hA (Or.inl q), hB (Or.inl q)]
    · rw [if_neg q, if_neg q]
      by_cases q2 : X0.1 0 (tn p) = 12
      · rw [if_pos q2, if_pos q2, hB (Or.inr q2)]
      · rw [if_neg q2, if_neg q2]
        by_cases q3 : X0.1 0 (tn p) = 13
        · rw [if_pos q3, if_pos q3, hA (Or.inr (Or.inl q3))]
        · rw [if_neg q3, if_neg q3]
          by_cases q4 : X0.1 0 (tn p) = 14
          · rw [if_pos q4, if_pos q4, hA (Or.inr (Or.inr q4))]
          · rw [if_neg q4, if_neg q4]
            simp only [xEntry, xInSet, h0, h1, h2, h3, h7, h8, hp]
theorem xAcc_sub : ∀ (d : Nat) (X : xSt) (p s v : Int32) (i : Nat), ¬ xSub X d p i → (xAcc d X p s v).1 6 i = X.1 6 i := by
  intro d
  induction d with
  | zero => intro X p s v i _; rfl
  | succ d ih =>
    intro X p s v i hi
    have hup : ∀ w, (xUp X p w).1 6 i = X.1 6 i := fun w => by
      show upd (X.1 6) (tn p) w i = _
      exact pk_un (fun q => hi (Or.inl q))
    have hA : pA (X.1 0 (tn p)) → (xAcc d X (X.1 1 (tn p)) s v).1 6 i = X.1 6 i := fun q => ih X _ s v i (fun z => hi (Or.inr (Or.inl ⟨q, z⟩)))
    have hB : ∀ Y : xSt, xS6 X Y → pB (X.1 0 (tn p)) → (xAcc d Y (X.1 2 (tn p)) s v).1 6 i = Y.1 6 i := fun Y hY q => ih Y _ s v i (fun z => hi (Or.inr (Or.inr ⟨q, (xSub_eq (hY.1 0 (by decide)) (hY.1 1 (by decide)) (hY.1 2 (by decide)) d _ i).mp z⟩)))
    unfold xAcc
    split
    · split
      · exact hup _
      · rfl
    · split
      · split
        · exact hup _
        · rfl
      · split
        · rename_i q
          exact (hB _ (xAcc_6 _ _ _ _ _) (Or.inl (Or.inl q))).trans (hA (Or.inl (Or.inl q)))
        · split
          · rename_i q
            split
            · exact hA (Or.inl (Or.inr q))
            · exact hB X (xS6.rf X) (Or.inl (Or.inr q))
          · split
            · rename_i q
              split
              · exact hB X (xS6.rf X) (Or.inr q)
              · rfl
            · split
              · rename_i q
                exact hA (Or.inr q)
              · rfl
theorem yR_put15 {X z : xSt} (h : yR X z) {k : Nat} (i : Nat) (v : Int32) (hk : 10 ≤ k) : yR X (xPut z k i v) := fun r hr => by
  have h10 : yr r < 10 := by
    match r, hr with
    | 0, _ | 1, _ | 2, _ | 3, _ | 4, _ | 5, _ | 6, _ | 7, _ | 8, _ | 9, _ => decide
  rw [xPut_ne _ _ _ (by omega)]
  exact h r hr
theorem yR_up {X z : xSt} (h : yR X z) (p : Int32) {v w : Int32} (hv : v = w) : yR (xUp X p v) (xPut z 5 (tn p) w) := fun r hr => by
  subst hv
  by_cases q : r = 6
  · subst q
    show (xPut z 5 (tn p) v).1 5 = _
    rw [xPut_eq, show z.1 5 = X.1 6 from h 6 (by decide)]
    rfl
  · have h5 : yr r ≠ 5 := by
      match r, hr with
      | 0, _ | 1, _ | 2, _ | 3, _ | 4, _ | 5, _ | 7, _ | 8, _ | 9, _ => decide
      | 6, _ => exact absurd rfl q
    rw [xPut_ne _ _ _ h5, h r hr]
    exact (va_up_ne _ _ q).symm
theorem yTop_k8 {x : xSt} {j : Nat} {p s : Int32} (h : x.1 0 (tn p) = 8) : yTop x j p s = (2, xPut (xPut x 15 j (x.1 2 (tn p))) 15 (j + 1) (x.1 1 (tn p))) := by rw [yTop, if_pos h]
theorem yTop_k12 {x : xSt} {j : Nat} {p s : Int32} (h : x.1 0 (tn p) = 12) : yTop x j p s = if pIn (x.1 1 (tn p)) s then (1, xPut x 15 j (x.1 2 (tn p))) else (0, x) := by rw [yTop, if_neg (by rw [h]; decide), if_pos h]
theorem yTop_k9 {x : xSt} {j : Nat} {p s : Int32} (h : x.1 0 (tn p) = 9 ∨ x.1 0 (tn p) = 10 ∨ x.1 0 (tn p) = 11) : yTop x j p s = (1, xPut x 15 j (if pTA x (x.1 0 (tn p)) (x.1 1 (tn p)) (x.1 2 (tn p)) then x.1 1 (tn p) else x.1 2 (tn p))) := by
  have h1 : ¬ x.1 0 (tn p) = 8 ∧ ¬ x.1 0 (tn p) = 12 ∧ x.1 0 (tn p) ≤ 12 ∧ ¬ x.1 0 (tn p) ≤ 8 := by rcases h with h | h | h <;> rw [h] <;> decide
  rw [yTop, if_neg h1.1, if_neg h1.2.1, if_pos h1.2.2.1, if_neg h1.2.2.2]
theorem yTop_k13 {x : xSt} {j : Nat} {p s : Int32} (h : x.1 0 (tn p) = 13 ∨ x.1 0 (tn p) = 14) : yTop x j p s = (1, xPut x 15 j (x.1 1 (tn p))) := by
  have h1 : ¬ x.1 0 (tn p) = 8 ∧ ¬ x.1 0 (tn p) = 12 ∧ ¬ x.1 0 (tn p) ≤ 12 := by rcases h with h | h <;> rw [h] <;> decide
  rw [yTop, if_neg h1.1, if_neg h1.2.1, if_neg h1.2.2]
theorem yTop_k0 {x : xSt} {j : Nat} {p s : Int32} (h : ¬ 8 ≤ x.1 0 (tn p)) : yTop x j p s = (0, yLeaf x p s) := by
  obtain ⟨h1, h2, h3, h4⟩ := k_no8 h
  have h5 : x.1 0 (tn p) ≤ 8 := Int32.le_of_lt (Int32.not_le.mp h)
  have h6 : x.1 0 (tn p) ≤ 12 := Int32.le_trans h5 (by decide)
  rw [yTop, if_neg (fun q => h1 (Or.inl q)), if_neg h2, if_pos h6, if_pos h5]
theorem yAc_1 {x : xSt} {d j : Nat} {p s c : Int32} (h : yTop x j p s = (1, xPut x 15 j c)) : yAc (d + 1) x j p s = yAc d (xPut x 15 j c) j c s := by
  rw [yAc, h, if_neg (show ¬ (1 : Nat) = 0 by decide), if_pos rfl]
  show yAc d (xPut x 15 j c) j ((xPut x 15 j c).1 15 j) s = _
  rw [xPut_at]
theorem yAc_2 {x : xSt} {d j : Nat} {p s a b : Int32} (h : yTop x j p s = (2, xPut (xPut x 15 j b) 15 (j + 1) a)) : yAc (d + 1) x j p s = yAc d (yAc d (xPut (xPut x 15 j b) 15 (j + 1) a) (j + 1) a s) j b s := by
  rw [yAc, h, if_neg (show ¬ (2 : Nat) = 0 by decide), if_neg (show ¬ (2 : Nat) = 1 by decide)]
  show yAc d (yAc d (xPut (xPut x 15 j b) 15 (j + 1) a) (j + 1) ((xPut (xPut x 15 j b) 15 (j + 1) a).1 15 (j + 1)) s) j ((xPut (xPut x 15 j b) 15 (j + 1) a).1 15 j) s = _
  rw [xPut_at, xPut_un _ _ _ _ (Or.inr (by omega)), xPut_at]
theorem yAc_0 {x z : xSt} {d j : Nat} {p s : Int32} (h : yTop x j p s = (0, z)) : yAc (d + 1) x j p s = z := by
  rw [yAc, h, if_pos rfl]
theorem yEq4_ka {j : Nat} {x z : xSt} (h : yKa j x z) (i : Nat) : yEq4 x z i := ⟨by rw [h.1 11 (by decide) (by decide)], by rw [h.1 12 (by decide) (by decide)], by rw [h.1 13 (by decide) (by decide)], by rw [h.1 14 (by decide) (by decide)]⟩
theorem yTb_R {X z : xSt} (h : yR X z) (hT : yT6 X) : yTb z := fun i => by
  rw [show z.1 8 = X.1 8 from h 8 (by decide)]
  exact yT6_tb hT i
set_option maxHeartbeats 4000000 in
theorem yAc_ok {X0 : xSt} (hT : yT6 X0) {s : Int32} (hs : xSo s) (v : Int32) : ∀ (d : Nat) (X z : xSt) (j : Nat) (p : Int32), yR X z → (∀ k, k ≠ 6 → X.1 k = X0.1 k) → (∀ i, xSub X0 d p i → X.1 6 i = X0.1 6 i) → xG X0 d p → xTr X0 d p → yTree X0 z s v d p → yR (xAcc d X p s v) (yAc d z j p s) := by
  intro d
  induction d with
  | zero => intro X z j p _ _ _ hg; exact hg.elim
  | succ d ih =>
    intro X z j p hR hX hS hg htr ht
    obtain ⟨hp, hk, hgA, hgB, h6⟩ := id hg
    obtain ⟨trA, trB, trP⟩ := id htr
    obtain ⟨tP, tPr, t12, t34⟩ := id ht
    have x0 := hX 0 (by decide)
    have x1 := hX 1 (by decide)
    have x2 := hX 2 (by decide)
    have z0 : z.1 0 = X0.1 0 := (hR 0 (by decide)).trans x0
    have z1 : z.1 1 = X0.1 1 := (hR 1 (by decide)).trans x1
    have z2 : z.1 2 = X0.1 2 := (hR 2 (by decide)).trans x2
    have hTX : yT6 X := fun i => by rw [hX 8 (by decide)]; exact hT i
    have hput : ∀ (i : Nat) (c : Int32) (e : Nat) (r : Int32), yTree X0 z s v e r → yTree X0 (xPut z 15 i c) s v e r := fun i c e r q => yTree_eq e r (fun w _ => yEq4_put z i c (Or.inr (Or.inr (by decide)))) q
    by_cases h8 : 8 ≤ X0.1 0 (tn p)
    · by_cases hpr : pPair (X0.1 0 (tn p))
      · have ga := hgA (Or.inl hpr)
        have gb := hgB (Or.inl hpr)
        have ta := trA (Or.inl hpr)
        have tb := trB (Or.inl hpr)
        have sA : ∀ i, xSub X0 d (X0.1 1 (tn p)) i → X.1 6 i = X0.1 6 i := fun i hi => hS i (Or.inr (Or.inl ⟨Or.inl hpr, hi⟩))
        have sB : ∀ i, xSub X0 d (X0.1 2 (tn p)) i → X.1 6 i = X0.1 6 i := fun i hi => hS i (Or.inr (Or.inr ⟨Or.inl hpr, hi⟩))
        rcases hpr with hk8 | hk9
        · have e8 : X.1 0 (tn p) = 8 := by rw [x0]; exact hk8
          have f8 : z.1 0 (tn p) = 8 := by rw [z0]; exact hk8
          rw [xAcc_8 e8, yAc_2 (yTop_k8 f8), x1, x2, z1, z2]
          have tr := tPr (Or.inl hk8)
          have hRa : yR X (xPut (xPut z 15 j (X0.1 2 (tn p))) 15 (j + 1) (X0.1 1 (tn p))) := yR_put15 (yR_put15 hR _ _ (by decide)) _ _ (by decide)
          have oa := ih X (xPut (xPut z 15 j (X0.1 2 (tn p))) 15 (j + 1) (X0.1 1 (tn p))) (j + 1) (X0.1 1 (tn p)) hRa hX sA ga ta.1 (yTree_eq d _ (fun w _ => yEq4_put _ _ _ (Or.inr (Or.inr (by decide)))) (hput _ _ _ _ tr.1))
          have hka := yKa_ac d (xPut (xPut z 15 j (X0.1 2 (tn p))) 15 (j + 1) (X0.1 1 (tn p))) (j + 1) (X0.1 1 (tn p)) s (yTb_R hRa hTX)
          refine ih _ _ j (X0.1 2 (tn p)) oa (fun k q => ((xAcc_6 _ _ _ _ _).1 k q).trans (hX k q)) (fun i hi => ?_) gb tb.1 (yTree_eq d _ (fun w _ => yEq4_ka hka w) (yTree_eq d _ (fun w _ => yEq4_put _ _ _ (Or.inr (Or.inr (by decide)))) (hput _ _ _ _ (tr.2 (Or.inl hk8)))))
          rw [xAcc_sub d X _ s v i (fun q => trP (Or.inl hk8) i ((xSub_eq x0 x1 x2 d _ i).mp q) hi)]
          exact sB i hi
        · have e9 : X.1 0 (tn p) = 9 ∨ X.1 0 (tn p) = 10 ∨ X.1 0 (tn p) = 11 := by rw [x0]; exact hk9
          have f9 : z.1 0 (tn p) = 9 ∨ z.1 0 (tn p) = 10 ∨ z.1 0 (tn p) = 11 := by rw [z0]; exact hk9
          have tr := tPr (Or.inr hk9)
          have fa := yTree_at tr.1 ga
          rw [xAcc_9 e9, yAc_1 (yTop_k9 f9), x0, x1, x2, z0, z1, z2, xSug_sub hX s v d _ sA, xSug_sub hX s v d _ sB]
          have hiff : pTA z (X0.1 0 (tn p)) (X0.1 1 (tn p)) (X0.1 2 (tn p)) ↔ pFirst (X0.1 0 (tn p)) (xKind (xSug X0 d (X0.1 1 (tn p)) s v)) (xKind (xSug X0 d (X0.1 2 (tn p)) s v)) := by
            rcases hk9 with q | q | q
            · have fb := yTree_at (tr.2 (Or.inr (Or.inl q))) gb
              simp only [pTA, pFirst, q, fa.1, fb.1]
              simp
            · simp only [pTA, pFirst, q, fa.1]
              simp
            · simp only [pTA, pFirst, q, fa.1]
              simp [lt2]
          by_cases hf : pFirst (X0.1 0 (tn p)) (xKind (xSug X0 d (X0.1 1 (tn p)) s v)) (xKind (xSug X0 d (X0.1 2 (tn p)) s v))
          · rw [if_pos hf, if_pos (hiff.mpr hf)]
            exact ih X _ j _ (yR_put15 hR _ _ (by decide)) hX sA ga ta.1 (hput _ _ _ _ tr.1)
          · rw [if_neg hf, if_neg (fun q => hf (hiff.mp q))]
            refine ih X _ j _ (yR_put15 hR _ _ (by decide)) hX sB gb tb.1 (hput _ _ _ _ (tr.2 ?_))
            rcases hk9 with q | q | q
            · exact Or.inr (Or.inl q)
            · refine Or.inr (Or.inr (fun w => hf (pFirst_any (Or.inr (Or.inr (Or.inl q))) ⟨?_, w⟩)))
              rw [q]; decide
            · refine Or.inr (Or.inr (fun w => hf (pFirst_any (Or.inr (Or.inr (Or.inr q))) ⟨?_, w⟩)))
              rw [q]; decide
      · by_cases h12 : X0.1 0 (tn p) = 12
        · have e12 : X.1 0 (tn p) = 12 := by rw [x0]; exact h12
          have f12 : z.1 0 (tn p) = 12 := by rw [z0]; exact h12
          have hz := yTop_k12 (j := j) (s := s) f12
          rw [xAcc_12 e12, x1, x2]
          rw [z1, z2] at hz
          by_cases hin : pIn (X0.1 1 (tn p)) s
          · rw [if_pos hin] at hz ⊢
            rw [yAc_1 hz]
            exact ih X _ j _ (yR_put15 hR _ _ (by decide)) hX (fun i hi => hS i (Or.inr (Or.inr ⟨Or.inr h12, hi⟩))) (hgB (Or.inr h12)) (trB (Or.inr h12)).1 (hput _ _ _ _ (t12 h12 hin))
          · rw [if_neg hin] at hz ⊢
            rw [yAc_0 hz]
            exact hR
        · have h34 : X0.1 0 (tn p) = 13 ∨ X0.1 0 (tn p) = 14 := by
            by_cases q : 12 ≤ X0.1 0 (tn p)
            · exact k_last hk q h12
            · exact absurd (k_pair hk h8 q) hpr
          rw [xAcc_13 (by rw [x0]; exact h34), yAc_1 (yTop_k13 (by rw [z0]; exact h34)), x1, z1]
          exact ih X _ j _ (yR_put15 hR _ _ (by decide)) hX (fun i hi => hS i (Or.inr (Or.inl ⟨Or.inr h34, hi⟩))) (hgA (Or.inr h34)) (trA (Or.inr h34)).1 (hput _ _ _ _ (t34 h34))
    · rw [yAc_0 (yTop_k0 (by rw [z0]; exact h8)), yLeaf, z0, z1]
      have s6 := hS (tn p) (Or.inl rfl)
      by_cases k3 : X0.1 0 (tn p) = 3
      · rw [if_pos k3, xAcc_3 (by rw [x0]; exact k3), x1]
        split
        · exact yR_up hR p (by rw [show z.1 5 = X.1 6 from hR 6 (by decide)])
        · exact hR
      · rw [if_neg k3]
        by_cases k6 : X0.1 0 (tn p) = 6
        · have he : yEnt z p s = xEntry X p s := yPlace_eq hR (by rw [x1, s6]; exact h6 k6) hs
          rw [if_pos k6, xAcc_k6 (by rw [x0]; exact k6), xStp, he]
          obtain ⟨m, hm1, hm2⟩ := hTX (tn (xPlace (X.1 1 (tn p)) (X.1 6 (tn p)) s))
          have h0 : ¬ xEntry X p s < 0 := yT6_tb hTX _
          by_cases q : 4 ≤ xEntry X p s
          · rw [if_pos q, if_neg (fun w => w.2 q)]
            exact hR
          · rw [if_neg q, if_pos ⟨h0, q⟩]
            exact yR_up hR p rfl
        · rw [if_neg k6, xAcc_0 ?_]
          · exact hR
          · rw [x0]
            revert h8 k3 k6
            rcases k_all hk with q | q | q | q | q | q | q | q | q | q | q | q | q | q | q <;> rw [q] <;> decide
