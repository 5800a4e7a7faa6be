/-! the calls, one beside the other -/
def yRel (X x : xSt) : Prop := yRa X x ∧ x.2 8 = X.2 6
def oK (cd : String → Int32) (o : Int32 ⊕ String) (x : xSt) (r : Int32) : Prop := (∀ v, o = .inl v → x.2 6 = 0 ∧ r = v) ∧ ∀ E, o = .inr E → x.2 6 = cd E
theorem oK_l {cd : String → Int32} {x : xSt} {v r : Int32} (h0 : x.2 6 = 0) (h : r = v) : oK cd (.inl v) x r := ⟨fun w e => by cases e; exact ⟨h0, h⟩, fun E e => by cases e⟩
theorem oK_r {cd : String → Int32} {x : xSt} {E : String} {r : Int32} (h : x.2 6 = cd E) : oK cd (.inr E) x r := ⟨fun w e => (by cases e), fun F e => by cases e; exact h⟩
theorem yi_6 {k : Nat} (h : k < 8) : yi k ≠ 6 := by
  match k, h with
  | 0, _ | 1, _ | 2, _ | 3, _ | 4, _ | 5, _ | 6, _ | 7, _ => decide
theorem rel_6 {X x : xSt} (h : yRel X x) (c : Int32) : yRel X (xI x 6 c) := by
  refine ⟨⟨h.1.1, fun k hk hk6 => ?_, h.1.2.2⟩, h.2⟩
  show va_up x.2 6 c (yi k) = _
  rw [va_up_ne _ _ (yi_6 hk)]
  exact h.1.2.1 k hk hk6
theorem rel_W {X x : xSt} (hw : xWF X) (h : yRel X x) : yW x := by
  have i7 := wf_7 hw
  have e1 : x.2 1 = X.2 5 := h.1.2.1 5 (by decide) (by decide)
  have r0 : x.1 0 = X.1 0 := h.1.1 0 (by decide)
  have r1 : x.1 1 = X.1 1 := h.1.1 1 (by decide)
  have r2 : x.1 2 = X.1 2 := h.1.1 2 (by decide)
  have r3 : x.1 3 = X.1 3 := h.1.1 3 (by decide)
  have r5 : x.1 5 = X.1 6 := h.1.1 6 (by decide)
  refine ⟨fun q => ?_, fun i hi => ?_, fun i => ?_⟩
  · rw [e1] at q ⊢
    have hne : ¬ X.2 5 = -1 := fun z => by rw [z] at q; exact absurd q (by decide)
    obtain ⟨-, g, t⟩ := i7.1.resolve_left hne
    exact ⟨(xG_eq4 (x := X) (y := yx x) r0 r1 r2 r5 _ _).mpr g, (xTr_eq (x := X) (y := yx x) r0 r1 r2 _ _).mpr t⟩
  · show (x.1 0 i = 5 → xSo (x.1 2 i)) ∧ (x.1 0 i = 14 → x.1 3 i = 0 ∨ x.1 3 i = 1 ∨ x.1 3 i = 4 ∨ x.1 3 i = 5)
    rw [r0, r2, r3]
    exact i7.2.1 i hi
  · rw [show x.1 8 = X.1 8 from h.1.1 8 (by decide)]
    exact i7.2.2 i
theorem rel_N {X x : xSt} (hw : xWF X) (h : yRel X x) : xN x := by
  obtain ⟨N, h1, h2⟩ := wf_N hw
  exact ⟨N, h1, (h.1.2.1 0 (by decide) (by decide)).trans h2⟩
theorem below_out {v b c : Int32} (h : c.toInt = b.toInt + 1) : pBelow v c ↔ ¬ pOut v 0 b := by
  have e : (c ≤ v) ↔ ¬ v ≤ b := by
    rw [Int32.le_iff_toInt_le, Int32.le_iff_toInt_le, h]
    omega
  unfold pBelow pOut
  rw [e]
  constructor
  · rintro ⟨h1, h2⟩ (q | q)
    · exact h1 q
    · exact h2 q
  · intro q
    exact ⟨fun z => q (Or.inl z), fun z => q (Or.inr z)⟩
theorem wf_rows {X Y : xSt} {N : Nat} {par : Nat → Nat} (h : xWN X N par) (h0 : Y.1 0 = X.1 0) (h1 : Y.1 1 = X.1 1) (h2 : Y.1 2 = X.1 2) (h3 : Y.1 3 = X.1 3) (h4 : Y.1 4 = X.1 4) (h5 : Y.1 5 = X.1 5) (hn : Y.2 0 = X.2 0) (hi : Y.2 5 = -1 ∨ ∃ j : Nat, j < N ∧ Y.2 5 = nI j) (hs : Y.2 6 = 0 ∨ Y.2 6 = 1) (hT : yT6 Y)
    (h6 : ∀ i, X.1 0 i = 6 → Y.1 6 i = X.1 6 i ∨ ∃ t : Nat, t < 4 ∧ Y.1 6 i = nI t) (hz : ∀ i, X.1 0 i = 0 → X.1 6 i = 0 → Y.1 6 i = 0) : xWN Y N par := by
  refine ⟨h.1, by rw [hn]; exact h.2.1, hi, hs, hT, fun i hi => ?_, h.2.2.2.2.2.2.1, fun i hi => ?_⟩
  · obtain ⟨a, b⟩ := h.2.2.2.2.2.1 i hi
    rw [h0]
    exact ⟨a, hz i a b⟩
  · obtain ⟨a, b, c, d, e, f⟩ := h.2.2.2.2.2.2.2 i hi
    unfold xPW xCh
    rw [h0, h1, h2, h3, h4, h5]
    refine ⟨a, b, c, fun q => ?_, e, f⟩
    obtain ⟨d1, d2⟩ := d q
    refine ⟨d1, ?_⟩
    rcases h6 i q with r | r
    · rw [r]; exact d2
    · exact r
theorem yr_yr {r : Nat} (hr : r < 10) : yr (yr r) = r := by
  match r, hr with
  | 0, _ | 1, _ | 2, _ | 3, _ | 4, _ | 5, _ | 6, _ | 7, _ | 8, _ | 9, _ => rfl
theorem yR_g {X x : xSt} (h : yR X x) {f g : Nat → Int32} {k k' : Nat} (hk : k < 10) (hk' : yr k = k') (hf : g = f) : yR (xA X k f) (xA x k' g) := fun r hr => by
  subst hf hk'
  by_cases q : r = k
  · subst q
    show va_up x.1 (yr r) g (yr r) = va_up X.1 r g r
    simp [va_up]
  · have h1 : yr r ≠ yr k := fun z => q (by
      have := congrArg yr z
      rw [yr_yr hr, yr_yr hk] at this
      exact this)
    show va_up x.1 (yr k) g (yr r) = va_up X.1 k g r
    rw [va_up_ne _ _ h1, va_up_ne _ _ q]
    exact h r hr
/-! table -/
theorem t_table {X x : xSt} (hw : xWF X) (h : yRel X x) (k t s n : Int32) : xWF (xTab X k t s n) ∧ yRel (xTab X k t s n) (yTabX x k t s n) ∧ oK (fun _ => 1) (xTabO X k t s n) (yTabX x k t s n) (yTabR x k t s n) := by
  have hp : pTab k t s n ↔ ¬ pYT k t s n := by
    unfold pTab pYT
    rw [below_out (v := k) (b := 2) (by decide), below_out (v := t) (b := 3) (by decide), below_out (v := s) (b := 7) (by decide), below_out (v := n) (b := 5) (by decide)]
    constructor
    · rintro ⟨a, b, c, d⟩ (q | q | q | q)
      · exact a q
      · exact b q
      · exact c q
      · exact d q
    · intro q
      exact ⟨fun z => q (Or.inl z), fun z => q (Or.inr (Or.inl z)), fun z => q (Or.inr (Or.inr (Or.inl z))), fun z => q (Or.inr (Or.inr (Or.inr z)))⟩
  by_cases q : pTab k t s n
  · have q' := hp.mp q
    rw [xTab, xTabO, yTabX, yTabR, if_pos q, if_pos q, if_neg q', if_neg q']
    obtain ⟨q1, q2, q3, q4⟩ := q
    have e : yTabI k t s = xPlace k t s := by
      obtain ⟨a, a1, rfl⟩ := pBelow_nat q1 (show (3 : Int32) = nI 3 from rfl) (by decide)
      obtain ⟨b, b1, rfl⟩ := pBelow_nat q2 (show (4 : Int32) = nI 4 from rfl) (by decide)
      obtain ⟨c, c1, rfl⟩ := pBelow_nat q3 (show (8 : Int32) = nI 8 from rfl) (by decide)
      rw [xPlace_nI]
      show nI a * nI 32 + nI b * nI 8 + nI c = _
      rw [pk_mul, pk_mul, nI_add, nI_add]
      congr 1; omega
    rw [e]
    have r8 : x.1 8 = X.1 8 := h.1.1 8 (by decide)
    refine ⟨?_, rel_6 (X := xPut X 8 (tn (xPlace k t s)) n) (x := xPut x 8 (tn (xPlace k t s)) n) ⟨⟨?_, h.1.2.1, h.1.2.2⟩, h.2⟩ 0, oK_l rfl (by rw [r8])⟩
    · obtain ⟨N, par, hN⟩ := hw
      refine ⟨N, par, wf_rows hN rfl rfl rfl rfl rfl rfl rfl hN.2.2.1 hN.2.2.2.1 (fun i => ?_) (fun i _ => Or.inl rfl) (fun i _ z => z)⟩
      by_cases z : i = tn (xPlace k t s)
      · rw [z, xPut_at]
        exact pBelow_nat q4 rfl (by decide)
      · rw [xPut_un _ _ _ _ (Or.inr z)]
        exact hN.2.2.2.2.1 i
    · exact yR_g h.1.1 (k := 8) (by decide) rfl (by rw [r8])
  · have q' : pYT k t s n := by
      by_cases z : pYT k t s n
      · exact z
      · exact absurd (hp.mpr z) q
    rw [xTab, xTabO, yTabX, yTabR, if_neg q, if_neg q, if_pos q', if_pos q']
    exact ⟨hw, rel_6 h 1, oK_r rfl⟩
/-! install -/
theorem t_install {X x : xSt} (hw : xWF X) (h : yRel X x) (p : Int32) : xWF (xInsX X p) ∧ yRel (xInsX X p) (yInsX x p) ∧ oK (fun _ => 1) (xInsO X p) (yInsX x p) 0 := by
  have e0 : x.2 0 = X.2 0 := h.1.2.1 0 (by decide) (by decide)
  have hp : pBelow p (X.2 0) ↔ ¬ pNo x p := by
    unfold pBelow pNo
    rw [e0]
    constructor
    · rintro ⟨a, b⟩ (q | q)
      · exact a q
      · exact b (Int32.not_lt.mp q)
    · intro q
      exact ⟨fun z => q (Or.inl z), fun z => q (Or.inr (Int32.not_lt.mpr z))⟩
  by_cases q : pBelow p (X.2 0)
  · rw [xInsX, xInsO, yInsX, if_pos q, if_pos q, if_neg (hp.mp q)]
    have r6 : x.1 5 = X.1 6 := h.1.1 6 (by decide)
    refine ⟨?_, rel_6 (X := xA (xIns X p) 6 (xZ (X.1 6))) (x := xA (xI (xI x 1 p) 8 0) 5 (xZ (x.1 5))) ⟨⟨?_, ?_, h.1.2.2⟩, rfl⟩ 0, oK_l rfl rfl⟩
    · obtain ⟨N, par, hN⟩ := hw
      have h40 := hN.1
      obtain ⟨j, j1, j2⟩ := pBelow_nat q hN.2.1 (by omega)
      refine ⟨N, par, wf_rows hN rfl rfl rfl rfl rfl rfl rfl (Or.inr ⟨j, j1, j2⟩) (Or.inl rfl) hN.2.2.2.2.1 (fun i _ => ?_) (fun i _ z => ?_)⟩
      · show xZ (X.1 6) i = X.1 6 i ∨ ∃ t : Nat, t < 4 ∧ xZ (X.1 6) i = nI t
        unfold xZ
        split
        · exact Or.inr ⟨0, by decide, rfl⟩
        · exact Or.inl rfl
      · show xZ (X.1 6) i = 0
        unfold xZ
        split
        · rfl
        · exact z
    · exact yR_g (X := xIns X p) (x := xI (xI x 1 p) 8 0) h.1.1 (k := 6) (by decide) rfl (by rw [r6])
    · intro k hk hk6
      by_cases z : k = 5
      · subst z; rfl
      · have a : (xA (xI (xI x 1 p) 8 0) 5 (xZ (x.1 5))).2 (yi k) = x.2 (yi k) := by
          match k, hk with
          | 0, _ | 1, _ | 2, _ | 3, _ | 4, _ | 7, _ => rfl
          | 5, _ => exact absurd rfl z
          | 6, _ => exact absurd rfl hk6
        have b : (xA (xIns X p) 6 (xZ (X.1 6))).2 k = X.2 k := by
          match k, hk with
          | 0, _ | 1, _ | 2, _ | 3, _ | 4, _ | 7, _ => rfl
          | 5, _ => exact absurd rfl z
          | 6, _ => exact absurd rfl hk6
        rw [a, b]
        exact h.1.2.1 k hk hk6
  · have q' : pNo x p := by
      by_cases z : pNo x p
      · exact z
      · exact absurd (hp.mpr z) q
    rw [xInsX, xInsO, yInsX, if_neg q, if_neg q, if_pos q']
    exact ⟨hw, rel_6 h 1, oK_r rfl⟩
/-! ask, detail, total, state, noted, count -/
theorem rel_ask {X x : xSt} (hw : xWF X) (h : yRel X x) (h0 : ¬ X.2 5 = -1) {s : Int32} (hs : xSo s) (v : Int32) : yRel X (yAll x s v 0) ∧ yAt X (yAll x s v 0) (tn (x.2 1)) (xSug X 7 (X.2 5) s v) := by
  obtain ⟨a, -, c⟩ := yRa_ask h.1 (wf_7 hw) h0 hs v 0
  rw [show xAsk X 7 (X.2 5) s v 0 = X from if_pos rfl] at a
  exact ⟨⟨a, ((yKr_run 7 (xPut (xPut x 15 0 (x.2 1)) 16 0 0) 0 (x.2 1) s v 0).2.1 8 (by decide)).trans h.2⟩, c⟩
theorem rel_inst {X x : xSt} (hw : xWF X) (h : yRel X x) : (0 ≤ x.2 1) ↔ ¬ X.2 5 = -1 := by
  rw [show x.2 1 = X.2 5 from h.1.2.1 5 (by decide) (by decide)]
  constructor
  · intro q z; rw [z] at q; exact absurd q (by decide)
  · intro q; exact ((wf_7 hw).1.resolve_left q).1
theorem t_ask {X x : xSt} (hw : xWF X) (h : yRel X x) (s v : Int32) : yRel X (yAskX x s v) ∧ oK (fun _ => 1) (xAskO X s v) (yAskX x s v) (yAskR x s v) := by
  have hp := below_out (v := s) (b := 7) (c := 8) (by decide)
  have hi := rel_inst hw h
  by_cases q : pOut s 0 7
  · rw [xAskO, yAskX, yAskR, if_pos q, if_pos q, if_neg (fun z => hp.mp z q)]
    exact ⟨rel_6 h 1, oK_r rfl⟩
  · rw [xAskO, yAskX, yAskR, if_neg q, if_neg q, if_pos (hp.mpr q)]
    by_cases h0 : X.2 5 = -1
    · rw [if_neg (fun z => hi.mp z h0), if_neg (fun z => hi.mp z h0), xNow, if_pos h0]
      exact ⟨rel_6 h 0, oK_l rfl (by decide)⟩
    · rw [if_pos (hi.mpr h0), if_pos (hi.mpr h0), xNow, if_neg h0]
      obtain ⟨a, b⟩ := rel_ask hw h h0 (pOut_in q) v
      exact ⟨rel_6 a 0, oK_l rfl b.1⟩
def cDet (E : String) : Int32 := if E = "java/lang/IllegalArgumentException" then 1 else 2
theorem t_detail {X x : xSt} (hw : xWF X) (h : yRel X x) (s v w : Int32) : yRel X (yDetX x s v w) ∧ oK cDet (xDetO X s v w) (yDetX x s v w) (yDetR x s v w) := by
  have hp : pBelow s 8 ∧ pBelow w 3 ↔ ¬ (pOut s 0 7 ∨ pOut w 0 2) := by
    rw [below_out (v := s) (b := 7) (by decide), below_out (v := w) (b := 2) (by decide)]
    constructor
    · rintro ⟨a, b⟩ (q | q)
      · exact a q
      · exact b q
    · intro q
      exact ⟨fun z => q (Or.inl z), fun z => q (Or.inr z)⟩
  have hi := rel_inst hw h
  by_cases q : pOut s 0 7 ∨ pOut w 0 2
  · rw [xDetO, yDetX, yDetR, if_pos q, if_pos q, if_neg (fun z => hp.mp z q)]
    exact ⟨rel_6 h 1, oK_r rfl⟩
  · have hs := pOut_in (fun z => q (Or.inl z))
    rw [xDetO, yDetX, yDetR, if_neg q, if_neg q, if_pos (hp.mpr q)]
    by_cases h0 : X.2 5 = -1
    · rw [if_neg (fun z => hi.mp z h0), if_neg (fun z => hi.mp z h0), xNow, if_pos h0, if_neg]
      · exact ⟨rel_6 h 2, oK_r rfl⟩
      · split <;> decide
    · rw [if_pos (hi.mpr h0), if_pos (hi.mpr h0), xNow, if_neg h0]
      obtain ⟨a, b⟩ := rel_ask hw h h0 hs v
      rw [b.1]
      by_cases hk : xKind (xSug X 7 (X.2 5) s v) = yWant w
      · rw [if_pos hk, if_pos hk, if_pos hk]
        refine ⟨rel_6 a 0, ?_⟩
        by_cases w2 : w = 2
        · have hk3 : xKind (xSug X 7 (X.2 5) s v) = 3 := hk.trans (if_pos w2)
          have b3 := (b.2 (Or.inr hk3)).2.2
          rw [if_neg (by rw [hk3]; decide)] at b3
          rw [if_neg (by rw [w2]; decide), if_neg (by rw [w2]; decide)]
          exact oK_l rfl b3
        · have hk2 : xKind (xSug X 7 (X.2 5) s v) = 2 := hk.trans (if_neg w2)
          obtain ⟨-, b2, b3⟩ := b.2 (Or.inl hk2)
          rw [if_pos hk2] at b3
          by_cases w1 : w = 1
          · rw [if_pos w1, if_neg (by rw [w1]; decide)]
            exact oK_l rfl b3
          · have w0 : w = 0 := by
              obtain ⟨j, j1, rfl⟩ := pOut_nat (fun z => q (Or.inr z)) (show (2 : Int32) = nI 2 from rfl) (by decide)
              match j, j1 with
              | 0, _ => rfl
              | 1, _ => exact absurd rfl w1
              | 2, _ => exact absurd rfl w2
            rw [if_neg w1, if_pos w0]
            exact oK_l rfl b2
      · rw [if_neg hk, if_neg hk, if_neg hk]
        exact ⟨rel_6 a 2, oK_r rfl⟩
theorem t_total {X x : xSt} (h : yRel X x) (s : Int32) : yRel X (yTotX x s) ∧ oK (fun _ => 1) (xTotO X s) (yTotX x s) (yTotR x s) := by
  have hp := below_out (v := s) (b := 7) (c := 8) (by decide)
  by_cases q : pOut s 0 7
  · rw [xTotO, yTotX, yTotR, if_pos q, if_pos q, if_neg (fun z => hp.mp z q)]
    exact ⟨rel_6 h 1, oK_r rfl⟩
  · rw [xTotO, yTotX, yTotR, if_neg q, if_neg q, if_pos (hp.mpr q)]
    exact ⟨rel_6 h 0, oK_l rfl (by rw [show x.1 9 = X.1 9 from h.1.1 9 (by decide)])⟩
theorem t_state {X x : xSt} (h : yRel X x) (p : Int32) : yStaR x p = xState X p := by
  have e0 : x.2 0 = X.2 0 := h.1.2.1 0 (by decide) (by decide)
  have r0 : x.1 0 = X.1 0 := h.1.1 0 (by decide)
  have r5 : x.1 5 = X.1 6 := h.1.1 6 (by decide)
  rw [yStaR, xState, r0, r5]
  by_cases q : pBelow p (X.2 0)
  · rw [if_pos q, if_neg]
    rintro (z | z)
    · exact q.1 z
    · rw [e0] at z; exact q.2 (Int32.not_lt.mp z)
  · rw [if_neg q, if_pos]
    by_cases z : p < 0
    · exact Or.inl z
    · exact Or.inr (fun w => q ⟨z, fun y => absurd (by rw [← e0]; exact w) (Int32.not_lt.mpr y)⟩)
theorem t_noted {X x : xSt} (h : yRel X x) (k : Int32) : yNotR x k = xNoted X k := by
  have e1 : x.2 2 = X.2 1 := h.1.2.1 1 (by decide) (by decide)
  rw [yNotR, xNoted, e1]
  have hp := below_out (v := k) (b := 15) (c := 16) (by decide)
  by_cases q : pBelow k 16 ∧ k < X.2 1
  · rw [if_pos q, if_neg]
    · obtain ⟨j, j1, rfl⟩ := pBelow_nat q.1 (show (16 : Int32) = nI 16 from rfl) (by decide)
      rw [xF_tn, tn_nI (by omega), ← h.1.2.2 j j1]
      congr 2
      have : nI (j + 1) = nI j + 1 := (nI_1 j).symm
      rw [this, Int32.sub_eq_add_neg, Int32.neg_add, Int32.sub_eq_add_neg (X.2 1 - 1), Int32.sub_eq_add_neg (X.2 1), Int32.add_assoc, Int32.add_comm (-1), ← Int32.sub_eq_add_neg (-nI j)]
    · rintro (z | z | z)
      · exact q.1.1 z
      · exact absurd (Or.inr (Int32.not_le.mpr z)) (hp.mp q.1)
      · exact z q.2
  · rw [if_neg q, if_pos]
    by_cases z : k < 0
    · exact Or.inl z
    · by_cases z2 : 15 < k
      · exact Or.inr (Or.inl z2)
      · refine Or.inr (Or.inr (fun w => q ⟨hp.mpr ?_, w⟩))
        rintro (y | y)
        · exact z y
        · exact z2 (Int32.not_le.mp y)
theorem t_count {X x : xSt} (h : yRel X x) (w : Int32) : yCntR x w = xCount X w := by
  rw [yCntR, xCount, show x.2 0 = X.2 0 from h.1.2.1 0 (by decide) (by decide), show x.2 2 = X.2 1 from h.1.2.1 1 (by decide) (by decide), show x.2 3 = X.2 2 from h.1.2.1 2 (by decide) (by decide), show x.2 4 = X.2 3 from h.1.2.1 3 (by decide) (by decide), show x.2 5 = X.2 4 from h.1.2.1 4 (by decide) (by decide), show x.2 1 = X.2 5 from h.1.2.1 5 (by decide) (by decide), h.2]
