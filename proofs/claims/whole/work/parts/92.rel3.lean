/-! act -/
/-- what an acting leaves besides -/
def xKi (X Y : xSt) : Prop := Y.1 0 = X.1 0 ∧ Y.2 0 = X.2 0 ∧ Y.2 6 = X.2 6 ∧ ∀ i, X.1 0 i = 0 → Y.1 6 i = X.1 6 i
theorem xKi.rf (X : xSt) : xKi X X := ⟨rfl, rfl, rfl, fun _ _ => rfl⟩
theorem xKi.tr {X Y Z : xSt} (h : xKi X Y) (h2 : xKi Y Z) : xKi X Z := ⟨h2.1.trans h.1, h2.2.1.trans h.2.1, h2.2.2.1.trans h.2.2.1, fun i hi => (h2.2.2.2 i (by rw [h.1]; exact hi)).trans (h.2.2.2 i hi)⟩
theorem xKi_ask (X : xSt) (d : Nat) (p s v n : Int32) : xKi X (xAsk X d p s v n) := ⟨xAsk_row _ _ _ _ _ _ _ (by decide), xAsk_int _ _ _ _ _ _ _ (by decide), xAsk_int _ _ _ _ _ _ _ (by decide), fun i _ => by rw [xAsk_row _ _ _ _ _ _ _ (by decide)]⟩
theorem xKi_up {X : xSt} {p w : Int32} (h : ¬ X.1 0 (tn p) = 0) : xKi X (xUp X p w) := ⟨rfl, rfl, rfl, fun i hi => by
  show upd (X.1 6) (tn p) w i = _
  exact pk_un (fun z => h (by rw [← z]; exact hi))⟩
theorem xKi_acc : ∀ (d : Nat) (X : xSt) (p s v : Int32), xKi X (xAcc d X p s v) := by
  intro d
  induction d with
  | zero => intro X p s v; exact xKi.rf X
  | succ d ih =>
    intro X p s v
    unfold xAcc
    split
    · rename_i hk
      split
      · exact xKi_up (by rw [hk]; decide)
      · exact xKi.rf X
    · split
      · rename_i hk
        split
        · exact xKi_up (by rw [hk]; decide)
        · exact xKi.rf X
      · split
        · exact (ih _ _ _ _).tr (ih _ _ _ _)
        · split
          · split
            · exact ih _ _ _ _
            · exact ih _ _ _ _
          · split
            · split
              · exact ih _ _ _ _
              · exact xKi.rf X
            · split
              · exact ih _ _ _ _
              · exact xKi.rf X
theorem xKi_fol (X : xSt) (g s v : Int32) : xKi X (xFol X g s v).2 := by
  unfold xFol
  split
  · exact ⟨rfl, rfl, rfl, fun _ _ => rfl⟩
  · split
    · exact xKi.rf X
    · split
      · exact xKi.rf X
      · exact (xKi_acc 7 X (X.2 5) s v).tr ⟨rfl, rfl, rfl, fun _ _ => rfl⟩
theorem xKi_loop {rc : Option (xSt → Int32 → Int32 → Int32 × xSt)} (hr : ∀ f, rc = some f → ∀ x s v, xKi x (f x s v).2) : ∀ (n : Nat) (x : xSt) (s v : Int32), xKi x (xLoop rc n x s v).2 := by
  intro n
  induction n with
  | zero => intro x s v; exact xKi.rf x
  | succ n ih =>
    intro x s v
    unfold xLoop
    split
    · exact (xKi_ask _ _ _ _ _ _).tr (xKi_fol _ _ _ _)
    · split
      · exact xKi_ask _ _ _ _ _ _
      · rename_i f
        have h0 : xKi x (xSp (xS1 x s v) (xSug x 7 (x.2 5) s v)) := (xKi_ask x 7 (x.2 5) s v 1).tr ⟨rfl, rfl, rfl, fun _ _ => rfl⟩
        have h1 := h0.tr (hr f rfl _ ((xSp (xS1 x s v) (xSug x 7 (x.2 5) s v)).1 2 (tn (xSrc (xSug x 7 (x.2 5) s v)))) ((xSp (xS1 x s v) (xSug x 7 (x.2 5) s v)).1 3 (tn (xSrc (xSug x 7 (x.2 5) s v)))))
        split
        · exact h1
        · exact h1.tr (ih _ _ _)
theorem xKi_act : ∀ (n : Nat) (x : xSt) (s v : Int32), xKi x (xAct n x s v).2 := by
  intro n
  induction n with
  | zero =>
    intro x s v
    unfold xAct
    split
    · exact ⟨rfl, rfl, rfl, fun _ _ => rfl⟩
    · exact xKi_loop (fun f h => by cases h) _ _ _ _
  | succ n ih =>
    intro x s v
    unfold xAct
    split
    · exact ⟨rfl, rfl, rfl, fun _ _ => rfl⟩
    · exact xKi_loop (fun f h => by cases h; exact ih) _ _ _ _
def cAct (E : String) : Int32 := if E = "java/lang/IllegalArgumentException" then 1 else if E = "java/lang/UnsupportedOperationException" then 2 else if E = "java/lang/IllegalStateException" then 3 else 4
theorem yRa_clr {X x : xSt} (h : yRb X x) : yRa (xA X 7 (xZ (X.1 7))) (yClr x) := by
  refine ⟨fun k hk => ?_, h.2.2.1, h.2.2.2⟩
  by_cases q : k = 7
  · subst q
    show va_up x.1 7 (xZ (x.1 7)) 7 = va_up X.1 7 (xZ (X.1 7)) 7
    have e : xZ (x.1 7) = xZ (X.1 7) := funext fun j => by
      unfold xZ
      split
      · rfl
      · exact h.2.1 j (by omega)
    rw [e]
    simp [va_up]
  · have h7 : yr k ≠ 7 := by
      match k, hk with
      | 0, _ | 1, _ | 2, _ | 3, _ | 4, _ | 5, _ | 6, _ | 8, _ | 9, _ => decide
      | 7, _ => exact absurd rfl q
    show va_up x.1 7 _ (yr k) = va_up X.1 7 _ k
    rw [va_up_ne _ _ h7, va_up_ne _ _ q]
    exact h.1 k hk q
theorem t_act {X x : xSt} (hw : xWF X) (h : yRel X x) (s v : Int32) : xWF (xActX X s v) ∧ yRel (xActX X s v) (yActX x s v) ∧ oK cAct (xActO X s v) (yActX x s v) (yActR x s v) := by
  have hp := below_out (v := s) (b := 7) (c := 8) (by decide)
  by_cases q : pOut s 0 7
  · rw [xActX, xActO, yActX, yActR, if_pos q, if_pos q, if_neg (fun z => hp.mp z q), if_neg (fun z => hp.mp z q)]
    exact ⟨hw, rel_6 h 1, oK_r rfl⟩
  · have hs := pOut_in q
    have hbeg : yRa X (yBeg x s v) := yRa_put (yRa_put h.1 _ _ (by decide)) _ _ (by decide)
    have hr : rR x (xActR X s v) (yActQ x s v) := by
      obtain ⟨N, par, hN⟩ := id hw
      unfold xActR yActQ
      rw [h.2]
      by_cases z : X.2 6 = 0
      · rw [if_pos z, if_pos z]
        exact rR_x (rR_lev 4 X (yBeg x s v) s v (by decide) hbeg (wf_7 hw) rfl rfl hs) rfl
      · rw [if_neg z, if_neg z]
        exact rR_n (Or.inr (Or.inl rfl)) rfl hbeg.b (h.2.trans (hN.2.2.2.1.resolve_left z))
    have hk : xKeep X (xActR X s v).2 ∧ xKi X (xActR X s v).2 := by
      unfold xActR
      split
      · exact ⟨xKeep_act 4 X s v, xKi_act 4 X s v⟩
      · exact ⟨xKeep.rf X, xKi.rf X⟩
    rw [xActX, xActO, yActX, yActR, if_neg q, if_neg q, if_pos (hp.mpr q), if_pos (hp.mpr q)]
    generalize xActR X s v = R at *
    generalize yActQ x s v = Q at *
    obtain ⟨k1, k2⟩ := hk
    obtain ⟨r1, r2, r3, r4, r5⟩ := hr
    have hra := yRa_clr r4
    have hwf : ∀ Y : xSt, Y.1 = (xFin R).1 → Y.2 0 = R.2.2 0 → Y.2 5 = R.2.2 5 → (Y.2 6 = 0 ∨ Y.2 6 = 1) → xWF Y := fun Y e1 e2 e3 e4 => by
      obtain ⟨N, par, hN⟩ := hw
      have e : ∀ k, k ≠ 7 → Y.1 k = R.2.1 k := fun k hk => by rw [e1]; exact va_up_ne _ _ hk
      refine ⟨N, par, wf_rows hN ?_ ?_ ?_ ?_ ?_ ?_ (e2.trans k2.2.1) ?_ e4 (fun i => ?_) (fun i hi => ?_) (fun i h1 h2 => ?_)⟩
      · rw [e 0 (by decide)]; exact k1.1 0 (by decide) (by decide) (by decide) (by decide)
      · rw [e 1 (by decide)]; exact k1.1 1 (by decide) (by decide) (by decide) (by decide)
      · rw [e 2 (by decide)]; exact k1.1 2 (by decide) (by decide) (by decide) (by decide)
      · rw [e 3 (by decide)]; exact k1.1 3 (by decide) (by decide) (by decide) (by decide)
      · rw [e 4 (by decide)]; exact k1.1 4 (by decide) (by decide) (by decide) (by decide)
      · rw [e 5 (by decide)]; exact k1.1 5 (by decide) (by decide) (by decide) (by decide)
      · rw [e3, k1.2.1]; exact hN.2.2.1
      · rw [e 8 (by decide), k1.1 8 (by decide) (by decide) (by decide) (by decide)]; exact hN.2.2.2.2.1 i
      · rw [e 6 (by decide)]; exact k1.2.2 i hi
      · rw [e 6 (by decide), k2.2.2.2 i h1]; exact h2
    have hX6 : R.2.2 6 = 0 ∨ R.2.2 6 = 1 := by
      obtain ⟨N, par, hN⟩ := hw
      rw [k2.2.2.1]; exact hN.2.2.2.1
    have e4 : (yClr Q.2).2 5 = (xFin R).2 4 := hra.2.1 4 (by decide) (by decide)
    have hthr : yRa (xThr R) (xI (yClr Q.2) 5 ((yClr Q.2).2 5 + 1)) := ⟨hra.1, yIn_int hra.2.1 (j := 4) (by decide) (by rw [e4]), hra.2.2⟩
    rcases r2 with c | c | c | c
    · have cq : Q.1 = 0 := by rw [r1, c]; rfl
      rw [if_pos c, if_pos c, if_pos cq, if_pos cq]
      refine ⟨hwf _ rfl rfl rfl hX6, rel_6 (X := xFin R) (x := yClr Q.2) ⟨hra, ?_⟩ 0, oK_l rfl (hra.2.1 7 (by decide) (by decide))⟩
      show Q.2.2 8 = R.2.2 6
      rw [r5, if_neg (by rw [c]; decide), k2.2.2.1]
      exact h.2
    · have cq : Q.1 = 3 := by rw [r1, c]; rfl
      have n0 : ¬ R.1 = 0 := by rw [c]; decide
      have n2 : ¬ R.1 = 2 := by rw [c]; decide
      have m0 : ¬ Q.1 = 0 := by rw [cq]; decide
      rw [if_neg n0, if_neg n0, if_neg n2, if_neg n2, if_neg m0, if_neg m0, if_pos c, cq]
      refine ⟨hwf _ rfl rfl rfl hX6, rel_6 (X := xThr R) ⟨hthr, ?_⟩ 3, oK_r rfl⟩
      show Q.2.2 8 = R.2.2 6
      rw [r5, if_neg n2, k2.2.2.1]
      exact h.2
    · have cq : Q.1 = 2 := by rw [r1, c]; rfl
      have n0 : ¬ R.1 = 0 := by rw [c]; decide
      have m0 : ¬ Q.1 = 0 := by rw [cq]; decide
      rw [if_neg n0, if_neg n0, if_pos c, if_pos c, if_neg m0, if_neg m0, cq]
      refine ⟨hwf _ rfl rfl rfl (Or.inr rfl), rel_6 (X := xI (xThr R) 6 1) ⟨⟨hthr.1, fun k hk hk6 => ?_, hthr.2.2⟩, ?_⟩ 2, oK_r rfl⟩
      · rw [show (xI (xThr R) 6 1).2 k = (xThr R).2 k from va_up_ne _ _ hk6]
        exact hthr.2.1 k hk hk6
      · show Q.2.2 8 = 1
        rw [r5, if_pos c]
    · have cq : Q.1 = 4 := by rw [r1, c]; rfl
      have n0 : ¬ R.1 = 0 := by rw [c]; decide
      have n2 : ¬ R.1 = 2 := by rw [c]; decide
      have n1 : ¬ R.1 = 1 := by rw [c]; decide
      have m0 : ¬ Q.1 = 0 := by rw [cq]; decide
      rw [if_neg n0, if_neg n0, if_neg n2, if_neg n2, if_neg m0, if_neg m0, if_neg n1, cq]
      refine ⟨hwf _ rfl rfl rfl hX6, rel_6 (X := xThr R) ⟨hthr, ?_⟩ 4, oK_r rfl⟩
      show Q.2.2 8 = R.2.2 6
      rw [r5, if_neg n2, k2.2.2.1]
      exact h.2
