theorem k_no8 {v : Int32} (h8 : ¬ 8 ≤ v) : ¬ pPair v ∧ ¬ v = 12 ∧ ¬ v = 13 ∧ ¬ v = 14 := by
  refine ⟨fun h => ?_, fun h => ?_, fun h => ?_, fun h => ?_⟩
  · rcases h with h | h | h | h <;> rw [h] at h8 <;> exact absurd (by decide) h8
  · rw [h] at h8; exact absurd (by decide) h8
  · rw [h] at h8; exact absurd (by decide) h8
  · rw [h] at h8; exact absurd (by decide) h8
theorem xNot_8 {x : xSt} {d : Nat} {p s v : Int32} (h8 : ¬ 8 ≤ x.1 0 (tn p)) : xNot x (d + 1) p s v = [] := by
  obtain ⟨h1, h2, h3, h4⟩ := k_no8 h8
  rw [xNot, if_neg h1, if_neg h2, if_neg h3, if_neg h4]
theorem xKind_small {k : Int32} (h : k = 0 ∨ k = 1 ∨ k = 4 ∨ k = 5) : xKind k = k := by rcases h with rfl | rfl | rfl | rfl <;> decide
theorem pFirst_any {k f g : Int32} (hp : pPair k) (h : ¬ (k = 8 ∨ k = 9) ∧ pFirst k f 0) : pFirst k f g := by
  obtain ⟨h1, h2⟩ := h
  rcases h2 with ⟨q, -⟩ | ⟨q, -⟩ | q | q
  · exact absurd (Or.inl q) h1
  · exact absurd (Or.inr q) h1
  · exact Or.inr (Or.inr (Or.inl q))
  · exact Or.inr (Or.inr (Or.inr q))
theorem pair_8 {v : Int32} (h : pPair v ∨ v = 12 ∨ v = 13 ∨ v = 14) : 8 ≤ v := by
  rcases h with (h | h | h | h) | h | h | h <;> rw [h] <;> decide
theorem pair_n {v : Int32} (h : pPair v) : ¬ v = 12 ∧ ¬ v = 13 ∧ ¬ v = 14 := by
  rcases h with h | h | h | h <;> rw [h] <;> decide
theorem yAud_other {x : xSt} {p s n : Int32} {z : Nat} (h : z ≠ tn p) : yEq4 x (yAud x p s n) z := by
  unfold yAud
  split
  · exact (yEq4_same _ _ _ h).tr (yEq4_note _ _ _)
  · exact yEq4_same _ _ _ h
theorem yTurned_other {x : xSt} {p : Int32} {z : Nat} (h : z ≠ tn p) : yEq4 x (yTurned x p) z := by
  unfold yTurned
  split
  · exact (yEq4_same _ _ _ h).tr (yEq4_sug _ _ _ h)
  · exact yEq4_same _ _ _ h
set_option maxHeartbeats 4000000 in
theorem yRun_ok {X : xSt} (hV : xV X) (hT : yT6 X) {s : Int32} (hs : xSo s) (v n : Int32) : ∀ (d : Nat) (x : xSt) (j : Nat) (p : Int32), yR X x → xG X d p → xTr X d p → yOk X x (yRun d x j p s v n) d p s v n := by
  intro d
  induction d with
  | zero => intro x j p _ hg; exact hg.elim
  | succ d ih =>
    intro x j p hR hg htr
    obtain ⟨hp, hk, hgA, hgB, h6⟩ := id hg
    obtain ⟨trA, trB, trP⟩ := id htr
    have r0 : x.1 0 = X.1 0 := hR 0 (by decide)
    have r1 : x.1 1 = X.1 1 := hR 1 (by decide)
    have r2 : x.1 2 = X.1 2 := hR 2 (by decide)
    by_cases h8 : 8 ≤ X.1 0 (tn p)
    · by_cases hpr : pPair (X.1 0 (tn p))
      · -- a pair
        obtain ⟨n12, n13, n14⟩ := pair_n hpr
        have ga := hgA (Or.inl hpr)
        have gb := hgB (Or.inl hpr)
        have ta := trA (Or.inl hpr)
        have tb := trB (Or.inl hpr)
        have hR1 := yR_kr (yKr_down x j (X.1 1 (tn p))) hR
        have o1 := ih (yDown x j (X.1 1 (tn p))) (j + 1) (X.1 1 (tn p)) hR1 ga ta.1
        have hRz := yR_kr (yKr_run d (yDown x j (X.1 1 (tn p))) (j + 1) (X.1 1 (tn p)) s v n) hR1
        have hn0 : yNext x p 0 s = X.1 1 (tn p) := by rw [yNext_pair0 (by rw [r0]; exact Or.inl hpr), r1]
        have hc0 : 0 ≤ X.1 1 (tn p) := vp_0 (xG_in ga) (by decide)
        have y1 := @yRun_1 x d j p s v n _ hn0 hc0
        have y2 := @yRun_2 x d j p s v n _ (X.1 2 (tn p)) hn0 hc0
        generalize yRun d (yDown x j (X.1 1 (tn p))) (j + 1) (X.1 1 (tn p)) s v n = z1 at *
        have z0 : z1.1 0 = X.1 0 := hRz 0 (by decide)
        have z1' : z1.1 1 = X.1 1 := hRz 1 (by decide)
        have z2' : z1.1 2 = X.1 2 := hRz 2 (by decide)
        have fa := yTree_at o1.1 ga
        have hn1 := @yNext_pair1 z1 p s (by rw [z0]; exact hpr)
        rw [z0, z1', z2', fa.1] at hn1
        by_cases hsk : ¬ (X.1 0 (tn p) = 8 ∨ X.1 0 (tn p) = 9) ∧ pFirst (X.1 0 (tn p)) (xKind (xSug X d (X.1 1 (tn p)) s v)) 0
        · rw [if_pos hsk] at hn1
          rw [y1 (by rw [hn1]; decide), yComb_pair (by rw [z0]; exact hpr), z0, z1', z2', fa.1, if_pos (pFirst_any hpr hsk)]
          have hu := yUp (p := p) (z := ySame z1 p (X.1 1 (tn p))) o1 ta.2 (fun i hi => yEq4_same _ _ _ hi)
          refine ⟨⟨?_, fun _ => ⟨hu.1, fun q => absurd hsk (fun w => ?_)⟩, fun q => absurd q n12, fun q => q.elim (fun q => absurd q n13) (fun q => absurd q n14)⟩, fun i hi => hu.2 i (fun q => hi (Or.inl q)) (fun q => hi (Or.inr (Or.inl ⟨Or.inl hpr, q⟩))), ?_⟩
          · rw [xSug, if_pos hpr, if_pos hsk]
            exact yAt_same fa
          · rcases q with q | q | q
            · exact w.1 (Or.inl q)
            · exact w.1 (Or.inr q)
            · exact q w.2
          · rw [yN_same, o1.2.2, yN_down, xNot, if_pos hpr, if_pos hsk]
        · rw [if_neg hsk] at hn1
          have hc1 : 0 ≤ X.1 2 (tn p) := vp_0 (xG_in gb) (by decide)
          have hR2 := yR_kr (yKr_down z1 j (X.1 2 (tn p))) hRz
          have o2 := ih (yDown z1 j (X.1 2 (tn p))) (j + 1) (X.1 2 (tn p)) hR2 gb tb.1
          have hRw := yR_kr (yKr_run d (yDown z1 j (X.1 2 (tn p))) (j + 1) (X.1 2 (tn p)) s v n) hR2
          rw [y2 hn1 hc1]
          generalize yRun d (yDown z1 j (X.1 2 (tn p))) (j + 1) (X.1 2 (tn p)) s v n = z3 at *
          have w0 : z3.1 0 = X.1 0 := hRw 0 (by decide)
          have w1 : z3.1 1 = X.1 1 := hRw 1 (by decide)
          have w2 : z3.1 2 = X.1 2 := hRw 2 (by decide)
          have e13 : ∀ i, ¬ xSub X d (X.1 2 (tn p)) i → yEq4 z1 z3 i := fun i hi => (yEq4_down z1 j _ i).tr (o2.2.1 i hi)
          have t3 : yTree X z3 s v d (X.1 1 (tn p)) := yTree_eq d _ (fun i hi => e13 i (trP hpr i hi)) o1.1
          have fa3 := yTree_at t3 ga
          have fb3 := yTree_at o2.1 gb
          have hsame : ∃ r : Int32, yComb z3 p s v n = ySame z3 p r ∧ yAt X (ySame z3 p r) (tn p) (xSug X (d + 1) p s v) := by
            rw [yComb_pair (by rw [w0]; exact hpr), w0, w1, w2, fa3.1, fb3.1, xSug, if_pos hpr, if_neg hsk]
            split
            · exact ⟨_, rfl, yAt_same fa3⟩
            · exact ⟨_, rfl, yAt_same fb3⟩
          obtain ⟨r, hr1, hr2⟩ := hsame
          rw [hr1]
          refine ⟨⟨hr2, fun _ => ⟨yTree_eq d _ (fun i hi => yEq4_same z3 p r (fun q => ta.2 (q ▸ hi))) t3, fun _ => yTree_eq d _ (fun i hi => yEq4_same z3 p r (fun q => tb.2 (q ▸ hi))) o2.1⟩, fun q => absurd q n12, fun q => q.elim (fun q => absurd q n13) (fun q => absurd q n14)⟩, fun i hi => ?_, ?_⟩
          · have i1 : ¬ xSub X d (X.1 1 (tn p)) i := fun q => hi (Or.inr (Or.inl ⟨Or.inl hpr, q⟩))
            have i2 : ¬ xSub X d (X.1 2 (tn p)) i := fun q => hi (Or.inr (Or.inr ⟨Or.inl hpr, q⟩))
            exact (((yEq4_down x j _ i).tr (o1.2.1 i i1)).tr (e13 i i2)).tr (yEq4_same z3 p r (fun q => hi (Or.inl q)))
          · rw [yN_same, o2.2.2, yN_down, o1.2.2, yN_down, xNot, if_pos hpr, if_neg hsk]
            by_cases hn : n = 0
            · simp only [if_pos hn]; rfl
            · simp only [if_neg hn]; rw [yNs_app]
      · by_cases h12 : X.1 0 (tn p) = 12
        · have hx12 : x.1 0 (tn p) = 12 := by rw [r0]; exact h12
          have hnx := @yNext_12 x p s hx12
          rw [r1, r2] at hnx
          by_cases hin : pIn (X.1 1 (tn p)) s
          · rw [if_pos hin] at hnx
            have gb := hgB (Or.inr h12)
            have tb := trB (Or.inr h12)
            have hR1 := yR_kr (yKr_down x j (X.1 2 (tn p))) hR
            have o1 := ih (yDown x j (X.1 2 (tn p))) (j + 1) (X.1 2 (tn p)) hR1 gb tb.1
            have hRz := yR_kr (yKr_run d (yDown x j (X.1 2 (tn p))) (j + 1) (X.1 2 (tn p)) s v n) hR1
            have y1 := @yRun_1 x d j p s v n _ hnx.1 (vp_0 (xG_in gb) (by decide))
            generalize yRun d (yDown x j (X.1 2 (tn p))) (j + 1) (X.1 2 (tn p)) s v n = z1 at *
            have z0 : z1.1 0 = X.1 0 := hRz 0 (by decide)
            have z1' : z1.1 1 = X.1 1 := hRz 1 (by decide)
            have z2' : z1.1 2 = X.1 2 := hRz 2 (by decide)
            have hz12 : z1.1 0 (tn p) = 12 := by rw [z0]; exact h12
            rw [y1 (by rw [(yNext_12 hz12).2]; decide), yComb_12 hz12, z1', z2', if_pos hin]
            have hu := yUp (p := p) (z := ySame z1 p (X.1 2 (tn p))) o1 tb.2 (fun i hi => yEq4_same _ _ _ hi)
            refine ⟨⟨?_, fun q => absurd q hpr, fun _ _ => hu.1, fun q => ?_⟩, fun i hi => hu.2 i (fun q => hi (Or.inl q)) (fun q => hi (Or.inr (Or.inr ⟨Or.inr h12, q⟩))), ?_⟩
            · rw [xSug_12 h12, if_pos hin]
              exact yAt_same (yTree_at o1.1 gb)
            · exfalso; rcases q with q | q <;> rw [h12] at q <;> exact absurd q (by decide)
            · rw [yN_same, o1.2.2, yN_down, xNot_12 h12, if_pos hin]
          · rw [if_neg hin] at hnx
            rw [yRun_0 (by rw [hnx.1]; decide), yComb_12 hx12, r1, if_neg hin]
            refine ⟨⟨?_, fun q => absurd q hpr, fun _ q => absurd q hin, fun q => ?_⟩, fun i hi => yEq4_sug _ _ _ (fun q => hi (Or.inl q)), ?_⟩
            · rw [xSug_12 h12, if_neg hin]
              exact yAt_sug X x p (Or.inl rfl)
            · exfalso; rcases q with q | q <;> rw [h12] at q <;> exact absurd q (by decide)
            · rw [yN_sug, xNot_12 h12, if_neg hin]
              split <;> rfl
        · have h34 : X.1 0 (tn p) = 13 ∨ X.1 0 (tn p) = 14 := by
            by_cases q : 12 ≤ X.1 0 (tn p)
            · exact k_last hk q h12
            · exact absurd (k_pair hk h8 q) hpr
          have ga := hgA (Or.inr h34)
          have ta := trA (Or.inr h34)
          have hR1 := yR_kr (yKr_down x j (X.1 1 (tn p))) hR
          have o1 := ih (yDown x j (X.1 1 (tn p))) (j + 1) (X.1 1 (tn p)) hR1 ga ta.1
          have hRz := yR_kr (yKr_run d (yDown x j (X.1 1 (tn p))) (j + 1) (X.1 1 (tn p)) s v n) hR1
          have hn0 : yNext x p 0 s = X.1 1 (tn p) := by rw [yNext_pair0 (by rw [r0]; exact Or.inr h34), r1]
          have y1 := @yRun_1 x d j p s v n _ hn0 (vp_0 (xG_in ga) (by decide))
          generalize yRun d (yDown x j (X.1 1 (tn p))) (j + 1) (X.1 1 (tn p)) s v n = z1 at *
          have z0 : z1.1 0 = X.1 0 := hRz 0 (by decide)
          have z1' : z1.1 1 = X.1 1 := hRz 1 (by decide)
          have z2' : z1.1 2 = X.1 2 := hRz 2 (by decide)
          have z3' : z1.1 3 = X.1 3 := hRz 3 (by decide)
          have fa := yTree_at o1.1 ga
          have fs : yAt X (ySame z1 p (X.1 1 (tn p))) (tn p) (xSug X d (X.1 1 (tn p)) s v) := yAt_same fa
          rw [y1 (by rw [yNext_13 (by rw [z0]; exact h34)]; decide)]
          rcases h34 with h13 | h14
          · rw [yComb_13 (by rw [z0]; exact h13)]
            have hu := yUp (p := p) (z := yAud z1 p s n) o1 ta.2 (fun i hi => yAud_other hi)
            refine ⟨⟨?_, fun q => absurd q hpr, fun q => absurd q h12, fun _ => hu.1⟩, fun i hi => hu.2 i (fun q => hi (Or.inl q)) (fun q => hi (Or.inr (Or.inl ⟨Or.inr (Or.inl h13), q⟩))), ?_⟩
            · rw [xSug_13 h13, yAud, z1']
              split
              · exact yAt_eq (yEq4_note _ _ _) fs
              · exact fs
            · rw [yAud, z1', fs.1, xNot_13 h13]
              by_cases hn : n = 0
              · rw [if_neg (fun z => z.1 hn), yN_same, o1.2.2, yN_down, if_pos hn, if_pos hn]
              · by_cases hz : xKind (xSug X d (X.1 1 (tn p)) s v) = 0
                · rw [if_neg (fun z => z.2 hz), yN_same, o1.2.2, yN_down, if_neg hn, if_neg hn, if_pos hz, List.append_nil]
                · rw [if_pos ⟨hn, hz⟩, yN_note, yN_same, o1.2.2, yN_down, if_neg hn, if_neg hn, if_neg hz, yNs_app]
                  rfl
          · rw [yComb_14 (by rw [z0]; exact h14)]
            have hu := yUp (p := p) (z := yTurned z1 p) o1 ta.2 (fun i hi => yTurned_other hi)
            refine ⟨⟨?_, fun q => absurd q hpr, fun q => absurd q h12, fun _ => hu.1⟩, fun i hi => hu.2 i (fun q => hi (Or.inl q)) (fun q => hi (Or.inr (Or.inl ⟨Or.inr (Or.inr h14), q⟩))), ?_⟩
            · rw [xSug_14 h14, yTurned, z1', z2', z3', fs.1]
              have hc : X.1 3 (tn p) = 0 ∨ X.1 3 (tn p) = 1 ∨ X.1 3 (tn p) = 4 ∨ X.1 3 (tn p) = 5 := by
                obtain ⟨i, hi, e⟩ := vp_in_of hp (by decide)
                have ht : tn p = i := by rw [e]; exact tn_nI (by omega)
                rw [ht] at h14 ⊢
                exact (hV i hi).2 h14
              split
              · exact yAt_sug X _ p hc
              · exact fs
            · rw [xNot_14 h14, ← yN_down x j (X.1 1 (tn p)), ← o1.2.2, yTurned]
              split <;> rfl
    · have hx8 : ¬ 8 ≤ x.1 0 (tn p) := by rw [r0]; exact h8
      obtain ⟨n1, n2, n3, n4⟩ := k_no8 h8
      rw [yRun_0 (by rw [yNext_0 hx8]; decide)]
      have hc : yComb x p s v n = yPlain x p s v := by rw [yComb, if_neg hx8]
      refine ⟨⟨?_, fun q => absurd q n1, fun q => absurd q n2, fun q => q.elim (fun q => absurd q n3) (fun q => absurd q n4)⟩, fun i hi => yEq4_comb _ _ _ _ _ (fun q => hi (Or.inl q)), ?_⟩
      · rw [hc]
        exact yPlain_ok hR hT hg h8 hs
      · rw [hc, xNot_8 h8]
        have hN : yN (yPlain x p s v) = yN x := by
          unfold yPlain
          repeat' split
          all_goals rfl
        rw [hN]
        split <;> rfl
