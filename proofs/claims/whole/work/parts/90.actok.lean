/-! acting: class and reference -/
def cm (c : Int32) : Int32 := if c = 0 then 0 else if c = 1 then 3 else if c = 2 then 2 else 4
def rR (x : xSt) (R Q : Int32 × xSt) : Prop := Q.1 = cm R.1 ∧ (R.1 = 0 ∨ R.1 = 1 ∨ R.1 = 2 ∨ R.1 = 3) ∧ (R.1 = 0 → yRa R.2 Q.2) ∧ yRb R.2 Q.2 ∧ Q.2.2 8 = if R.1 = 2 then 1 else x.2 8
theorem rR_0 {x X z : xSt} (h : yRa X z) (h8 : z.2 8 = x.2 8) : rR x (0, X) (0, z) := ⟨rfl, Or.inl rfl, fun _ => h, h.b, h8⟩
theorem rR_n {x X z : xSt} {c q : Int32} (hc : c = 1 ∨ c = 2 ∨ c = 3) (hq : q = cm c) (h : yRb X z) (h8 : z.2 8 = if c = 2 then 1 else x.2 8) : rR x (c, X) (q, z) :=
  ⟨hq, Or.inr hc, fun e => by
    have e' : c = 0 := e
    rcases hc with k | k | k <;> rw [k] at e' <;> exact absurd e' (by decide), h, h8⟩
theorem rR_x {x x' : xSt} {R Q : Int32 × xSt} (h : rR x R Q) (he : x'.2 8 = x.2 8) : rR x' R Q := ⟨h.1, h.2.1, h.2.2.1, h.2.2.2.1, by rw [he]; exact h.2.2.2.2⟩
theorem yRb_8 {X x : xSt} (h : yRb X x) (w : Int32) : yRb X (xI x 8 w) := by
  refine ⟨h.1, h.2.1, fun k hk hk6 => ?_, h.2.2.2⟩
  have a : (xI x 8 w).2 (yi k) = x.2 (yi k) := by
    match k, hk with
    | 0, _ | 1, _ | 2, _ | 3, _ | 4, _ | 5, _ | 7, _ => rfl
    | 6, _ => exact absurd rfl hk6
  rw [a]
  exact h.2.2.1 k hk hk6
/-- the end of a round -/
theorem rR_end {X x : xSt} (h : yRa X x) (hi : xI7 X) (h0 : ¬ X.2 5 = -1) {s : Int32} (hs : xSo s) (v : Int32) {g k : Int32} (hg : xIs X g) (hk : k = xKind g) (h2 : ¬ xKind g = 2) (hv : xKind g = 3 → x.1 13 (tn (x.2 1)) = X.1 2 (tn (xSrc g))) : rR x (xFol X g s v) (yEnd x k s v) := by
  rw [hk, xFol, yEnd]
  have h5 : x.2 4 = X.2 3 := h.2.1 3 (by decide) (by decide)
  rcases xIs_kind hg with q | q | q | q | q | q
  · rw [q]
    have e8 : (yDo (yAcc x s v) s v).2 8 = x.2 8 := by
      show (yAcc x s v).2 8 = x.2 8
      have e1 : x.2 1 = X.2 5 := h.2.1 5 (by decide) (by decide)
      have hTb : yTb (xPut (yAll x s v 0) 15 0 (x.2 1)) := yTb_ke ((yKe_all 0 x s v 0).tr (yKe_put 0 _ _ _ (Or.inl rfl))) (yTb_R h.1 hi.2.2)
      rw [yAcc, (yKa_ac 7 _ 0 (x.2 1) s hTb).2.1]
      exact (yKr_run 7 (xPut (xPut x 15 0 (x.2 1)) 16 0 0) 0 (x.2 1) s v 0).2.1 8 (by decide)
    exact rR_0 (yRa_do (yRa_acc h hi h0 hs v) s v) e8
  · rw [q]
    have e8 : (yDo (yAcc x s v) s v).2 8 = x.2 8 := by
      show (yAcc x s v).2 8 = x.2 8
      have hTb : yTb (xPut (yAll x s v 0) 15 0 (x.2 1)) := yTb_ke ((yKe_all 0 x s v 0).tr (yKe_put 0 _ _ _ (Or.inl rfl))) (yTb_R h.1 hi.2.2)
      rw [yAcc, (yKa_ac 7 _ 0 (x.2 1) s hTb).2.1]
      exact (yKr_run 7 (xPut (xPut x 15 0 (x.2 1)) 16 0 0) 0 (x.2 1) s v 0).2.1 8 (by decide)
    exact rR_0 (yRa_do (yRa_acc h hi h0 hs v) s v) e8
  · exact absurd q h2
  · have hval := hv q
    rw [q, hval]
    have hra : yRa (xI (xI X 7 (X.1 2 (tn (xSrc g)))) 3 (X.2 3 + 1)) (xI (xI x 7 (X.1 2 (tn (xSrc g)))) 4 (x.2 4 + 1)) :=
      ⟨h.1, yIn_int (yIn_int h.2.1 (j := 7) (by decide) rfl) (j := 3) (by decide) (by rw [h5]), h.2.2⟩
    exact rR_0 hra rfl
  · rw [q]
    exact (rR_n (Or.inl rfl) rfl h.b rfl : rR x (1, X) (3, x))
  · rw [q]
    exact (rR_n (Or.inr (Or.inl rfl)) rfl (yRb_8 h.b 1) rfl : rR x (2, X) (2, xI x 8 1))
theorem yRb_ins {X z : xSt} (h : yRa X z) {i : Nat} (hi : i < 40) (he : z.1 14 (tn (z.2 1)) = nI i) : yRb X (yIns z) := by
  refine ⟨fun k hk hk7 => ?_, fun j hj => ?_, h.2.1, h.2.2⟩
  · have h7 : yr k ≠ 7 := by
      match k, hk with
      | 0, _ | 1, _ | 2, _ | 3, _ | 4, _ | 5, _ | 6, _ | 8, _ | 9, _ => decide
      | 7, _ => exact absurd rfl hk7
    show (xPut z 7 _ 1).1 (yr k) = _
    rw [xPut_ne _ _ _ h7]
    exact h.1 k hk
  · show (xPut z 7 (tn (z.1 14 (tn (z.2 1)))) 1).1 7 j = _
    rw [he, tn_nI (by omega), xPut_un _ _ _ _ (Or.inr (by omega)), show z.1 7 = X.1 7 from h.1 7 (by decide)]
theorem yRa_put {X z : xSt} (h : yRa X z) {k : Nat} (i : Nat) (v : Int32) (hk : 11 ≤ k) : yRa X (xPut z k i v) :=
  ⟨yR_put15 h.1 i v (by omega), h.2.1, by rw [xPut_ne _ _ _ (by omega)]; exact h.2.2⟩
theorem yRa_go {X z : xSt} (h : yRa X z) (e : Nat) : yRa X (yGo z e) := yRa_put (yRa_put h _ _ (by decide)) _ _ (by decide)
theorem yRa_sp {X z : xSt} (h : yRa X z) {g : Int32} (he : z.1 14 (tn (z.2 1)) = xSrc g) : yRa (xSp X g) (yIns z) := by
  refine ⟨?_, h.2.1, h.2.2⟩
  show yR (xA X 7 (upd (X.1 7) (tn (xSrc g)) 1)) (xA z 7 (upd (z.1 7) (tn (z.1 14 (tn (z.2 1)))) 1))
  exact yR_row h.1 (k := 7) (by decide) (by rw [he, show z.1 7 = X.1 7 from h.1 7 (by decide)])
set_option maxHeartbeats 1000000 in
theorem rR_loop {rc : Option (xSt → Int32 → Int32 → Int32 × xSt)} {rq : Option (xSt → Int32 × xSt)} {e : Nat}
    (hr : (rc = none ∧ rq = none) ∨ ∃ f g, rc = some f ∧ rq = some g ∧ (∀ X s v, xKeep X (f X s v).2) ∧ (∀ x, yTb x → yKe (e + 1) x (g x).2) ∧ ∀ (X x : xSt) (s v : Int32), yRa X x → xI7 X → x.1 17 (e + 1) = s → x.1 18 (e + 1) = v → xSo s → rR x (f X s v) (g x)) :
    ∀ (n : Nat) (X x : xSt) (s v : Int32), yRa X x → xI7 X → ¬ X.2 5 = -1 → x.1 17 e = s → x.1 18 e = v → xSo s → rR x (xLoop rc n X s v) (yLp rq e n x) := by
  intro n
  induction n with
  | zero =>
    intro X x s v h _ _ _ _ _
    exact (rR_n (Or.inr (Or.inr rfl)) rfl h.b rfl : rR x (3, X) (4, x))
  | succ n ih =>
    intro X x s v h hi h0 hs1 hv1 hs
    obtain ⟨ra, -, ht⟩ := yRa_ask h hi h0 hs v 1
    have hIs := xSug_is hi.2.1 s v 7 _ (hi.1.resolve_left h0).2.1
    have hz : yZ x e = yAll x s v 1 := by rw [yZ, hs1, hv1]
    have hkd : yKd x e = xKind (xSug X 7 (X.2 5) s v) := by
      show (yZ x e).1 11 (tn (x.2 1)) = _
      rw [hz]; exact ht.1
    have hke := yKe_all e x s v 1
    have hi1 := i7_keep (xKeep_ask X 7 (X.2 5) s v 1) hi
    have e5 : (xAsk X 7 (X.2 5) s v 1).2 5 = X.2 5 := xAsk_int _ _ _ _ _ _ _ (by decide)
    have z1 : (yAll x s v 1).2 1 = x.2 1 := hke.2.1
    have z8 : (yAll x s v 1).2 8 = x.2 8 := (yKr_run 7 (xPut (xPut x 15 0 (x.2 1)) 16 0 0) 0 (x.2 1) s v 1).2.1 8 (by decide)
    have x2 : (xAsk X 7 (X.2 5) s v 1).1 2 = X.1 2 := xAsk_row _ _ _ _ _ _ _ (by decide)
    have x3 : (xAsk X 7 (X.2 5) s v 1).1 3 = X.1 3 := xAsk_row _ _ _ _ _ _ _ (by decide)
    by_cases hk : xKind (xSug X 7 (X.2 5) s v) = 2
    · obtain ⟨i, hi40, esrc, hsrc⟩ := xIs_src hIs (Or.inl hk)
      obtain ⟨a14, a12, a13⟩ := ht.2 (Or.inl hk)
      rw [if_pos hk] at a13
      have a14' : (yAll x s v 1).1 14 (tn ((yAll x s v 1).2 1)) = xSrc (xSug X 7 (X.2 5) s v) := by rw [z1]; exact a14
      rcases hr with ⟨r1, r2⟩ | ⟨f, g, r1, r2, kf, kg, hfg⟩
      · subst r1 r2
        rw [xLoop_none rfl rfl hk, yLp_none (hkd.trans hk), hz]
        exact rR_n (Or.inr (Or.inr rfl)) rfl (yRb_ins ra hi40 (a14'.trans esrc)) z8
      · subst r1 r2
        have hX := xLoop_some (f := f) (n := n) (x := X) (s := s) (v := v) (p := X.2 5) rfl rfl hk rfl (X := xSp (xAsk X 7 (X.2 5) s v 1) (xSug X 7 (X.2 5) s v)) rfl rfl rfl
        have hY := yLp_some (f := g) (n := n) (hkd.trans hk) rfl
        rw [hz] at hY
        rw [hX, hY]
        have b2 : (xSp (xAsk X 7 (X.2 5) s v 1) (xSug X 7 (X.2 5) s v)).1 2 = X.1 2 := (xPut_ne (xAsk X 7 (X.2 5) s v 1) (k := 7) (r := 2) (tn (xSrc (xSug X 7 (X.2 5) s v))) 1 (by decide)).trans x2
        have b3 : (xSp (xAsk X 7 (X.2 5) s v 1) (xSug X 7 (X.2 5) s v)).1 3 = X.1 3 := (xPut_ne (xAsk X 7 (X.2 5) s v 1) (k := 7) (r := 3) (tn (xSrc (xSug X 7 (X.2 5) s v))) 1 (by decide)).trans x3
        have hra2 := yRa_go (yRa_sp ra a14') (e + 1)
        have hkX := (xKeep_ask X 7 (X.2 5) s v 1).tr (xKeep_sp _ (xSug X 7 (X.2 5) s v))
        have hi2 := i7_keep hkX hi
        have hke2 := (hke.tr (yKe_ins e _)).tr (yKe_go e _)
        have c17 : (yGo (yIns (yAll x s v 1)) (e + 1)).1 17 (e + 1) = X.1 2 (tn (xSrc (xSug X 7 (X.2 5) s v))) := by
          show (xPut (xPut (yIns (yAll x s v 1)) 17 (e + 1) _) 18 (e + 1) _).1 17 (e + 1) = _
          rw [xPut_un _ _ _ _ (Or.inl (by decide)), xPut_at]
          show (xPut (yAll x s v 1) 7 _ 1).1 12 (tn ((yAll x s v 1).2 1)) = _
          rw [xPut_ne _ _ _ (by decide), z1]; exact a12
        have c18 : (yGo (yIns (yAll x s v 1)) (e + 1)).1 18 (e + 1) = X.1 3 (tn (xSrc (xSug X 7 (X.2 5) s v))) := by
          show (xPut (xPut (yIns (yAll x s v 1)) 17 (e + 1) _) 18 (e + 1) _).1 18 (e + 1) = _
          rw [xPut_at]
          show (xPut (yAll x s v 1) 7 _ 1).1 13 (tn ((yAll x s v 1).2 1)) = _
          rw [xPut_ne _ _ _ (by decide), z1]; exact a13
        have hso : xSo (X.1 2 (tn (xSrc (xSug X 7 (X.2 5) s v)))) := by
          rw [esrc, tn_nI (by omega)]
          rcases hsrc with ⟨-, -, q1, -⟩ | ⟨q, -⟩
          · exact (hi.2.1 i hi40).1 q1
          · rw [hk] at q; exact absurd q (by decide)
        have res := hfg _ _ (X.1 2 (tn (xSrc (xSug X 7 (X.2 5) s v)))) (X.1 3 (tn (xSrc (xSug X 7 (X.2 5) s v)))) hra2 hi2 c17 c18 hso
        have e8 : (yGo (yIns (yAll x s v 1)) (e + 1)).2 8 = x.2 8 := z8
        rw [b2, b3]
        have kf2 := kf (xSp (xAsk X 7 (X.2 5) s v 1) (xSug X 7 (X.2 5) s v)) (X.1 2 (tn (xSrc (xSug X 7 (X.2 5) s v)))) (X.1 3 (tn (xSrc (xSug X 7 (X.2 5) s v))))
        have kg2 := kg (yGo (yIns (yAll x s v 1)) (e + 1)) (yTb_ke hke2 (yTb_R h.1 hi.2.2))
        generalize f (xSp (xAsk X 7 (X.2 5) s v 1) (xSug X 7 (X.2 5) s v)) (X.1 2 (tn (xSrc (xSug X 7 (X.2 5) s v)))) (X.1 3 (tn (xSrc (xSug X 7 (X.2 5) s v)))) = R at *
        generalize g (yGo (yIns (yAll x s v 1)) (e + 1)) = Q at *
        by_cases hR0 : R.1 = 0
        · have hQ0 : Q.1 = 0 := by rw [res.1, hR0]; rfl
          rw [if_neg (fun z => z hR0), if_neg (fun z => z hQ0)]
          have k2 := hkX.tr kf2
          have k3 := hke2.tr kg2.mo
          have e82 : Q.2.2 8 = x.2 8 := by rw [res.2.2.2.2, if_neg (by rw [hR0]; decide)]; exact e8
          exact rR_x (ih R.2 Q.2 s v (res.2.2.1 hR0) (i7_keep k2 hi) (by rw [k2.2.1]; exact h0) ((k3.2.2.2.2 e (Nat.le_refl _)).1.trans hs1) ((k3.2.2.2.2 e (Nat.le_refl _)).2.trans hv1) hs) e82.symm
        · have hQ0 : ¬ Q.1 = 0 := by
            rw [res.1]
            rcases res.2.1 with q | q | q | q
            · exact absurd q hR0
            · rw [q]; decide
            · rw [q]; decide
            · rw [q]; decide
          rw [if_pos hR0, if_pos hQ0]
          exact rR_x res e8.symm
    · rw [xLoop_fol rfl rfl hk, yLp_end (fun z => hk (hkd.symm.trans z)), hz, hs1, hv1]
      refine rR_x (rR_end ra hi1 (by rw [e5]; exact h0) hs v ?_ hkd hk (fun q => ?_)) z8.symm
      · rcases hIs with q | ⟨i, q1, q2⟩
        · exact Or.inl q
        · refine Or.inr ⟨i, q1, ?_⟩
          rw [xAsk_row _ _ _ _ _ _ _ (by decide), xAsk_row _ _ _ _ _ _ _ (by decide)]
          exact q2
      · rw [z1, x2]
        have := (ht.2 (Or.inr q)).2.2
        rw [if_neg hk] at this
        exact this
theorem rR_lev : ∀ (n : Nat) (X x : xSt) (s v : Int32), n ≤ 4 → yRa X x → xI7 X → x.1 17 (4 - n) = s → x.1 18 (4 - n) = v → xSo s → rR x (xAct n X s v) (yLev n x) := by
  intro n
  induction n with
  | zero =>
    intro X x s v _ h hi hs1 hv1 hs
    have e1 : x.2 1 = X.2 5 := h.2.1 5 (by decide) (by decide)
    unfold xAct yLev
    by_cases h0 : X.2 5 = -1
    · rw [if_pos h0, if_neg (by rw [e1, h0]; decide), hs1, hv1]
      exact rR_0 (yRa_do h s v) rfl
    · rw [if_neg h0, if_pos (by rw [e1]; exact (hi.1.resolve_left h0).1)]
      exact rR_loop (Or.inl ⟨rfl, rfl⟩) 41 X x s v h hi h0 hs1 hv1 hs
  | succ n ih =>
    intro X x s v hn h hi hs1 hv1 hs
    have e1 : x.2 1 = X.2 5 := h.2.1 5 (by decide) (by decide)
    rw [show 4 - (n + 1) = 3 - n by omega] at hs1 hv1
    unfold xAct yLev
    by_cases h0 : X.2 5 = -1
    · rw [if_pos h0, if_neg (by rw [e1, h0]; decide), hs1, hv1]
      exact rR_0 (yRa_do h s v) rfl
    · rw [if_neg h0, if_pos (by rw [e1]; exact (hi.1.resolve_left h0).1)]
      refine rR_loop (Or.inr ⟨xAct n, yLev n, rfl, rfl, xKeep_act n, fun x hT => ?_, fun X x s v h hi hs1 hv1 hs => ?_⟩) 41 X x s v h hi h0 hs1 hv1 hs
      · have := yKe_lev n x (by omega) hT
        rw [show 4 - n = 3 - n + 1 by omega] at this
        exact this
      · exact ih X x s v (by omega) h hi (by rw [show 4 - n = 3 - n + 1 by omega]; exact hs1) (by rw [show 4 - n = 3 - n + 1 by omega]; exact hv1) hs
