/-! the reference: acting -/
def yIns (x : xSt) : xSt := xPut x 7 (tn (x.1 14 (tn (x.2 1)))) 1
def yGo (x : xSt) (e : Nat) : xSt := xPut (xPut x 17 e (x.1 12 (tn (x.2 1)))) 18 e (x.1 13 (tn (x.2 1)))
def yEnd (x : xSt) (k s v : Int32) : Int32 × xSt :=
  if k = 5 then (2, xI x 8 1) else if k = 4 then (3, x) else if k = 3 then (0, xI (xI x 7 (x.1 13 (tn (x.2 1)))) 4 (x.2 4 + 1)) else (0, yDo (yAcc x s v) s v)
abbrev yZ (x : xSt) (e : Nat) : xSt := yAll x (x.1 17 e) (x.1 18 e) 1
abbrev yKd (x : xSt) (e : Nat) : Int32 := (yZ x e).1 11 (tn (x.2 1))
def yLp (rc : Option (xSt → Int32 × xSt)) (e : Nat) : Nat → xSt → Int32 × xSt
  | 0, x => (4, x)
  | n + 1, x =>
    if ¬ yKd x e = 2 then yEnd (yZ x e) (yKd x e) (x.1 17 e) (x.1 18 e)
    else match rc with
      | none => (4, yIns (yZ x e))
      | some f => if ¬ (f (yGo (yIns (yZ x e)) (e + 1))).1 = 0 then f (yGo (yIns (yZ x e)) (e + 1)) else yLp rc e n (f (yGo (yIns (yZ x e)) (e + 1))).2
def yLev : Nat → xSt → Int32 × xSt
  | 0, x => if 0 ≤ x.2 1 then yLp none 4 41 x else (0, yDo x (x.1 17 4) (x.1 18 4))
  | n + 1, x => if 0 ≤ x.2 1 then yLp (some (yLev n)) (3 - n) 41 x else (0, yDo x (x.1 17 (3 - n)) (x.1 18 (3 - n)))
theorem yLp_end {rc : Option (xSt → Int32 × xSt)} {e n : Nat} {x : xSt} (h : ¬ yKd x e = 2) : yLp rc e (n + 1) x = yEnd (yZ x e) (yKd x e) (x.1 17 e) (x.1 18 e) := by
  conv => lhs; unfold yLp
  exact if_pos h
theorem yLp_none {e n : Nat} {x : xSt} (h : yKd x e = 2) : yLp none e (n + 1) x = (4, yIns (yZ x e)) := by
  conv => lhs; unfold yLp
  exact if_neg (fun z => z h)
theorem yLp_some {f : xSt → Int32 × xSt} {e n : Nat} {x X : xSt} (h : yKd x e = 2) (hX : X = yGo (yIns (yZ x e)) (e + 1)) : yLp (some f) e (n + 1) x = if ¬ (f X).1 = 0 then f X else yLp (some f) e n (f X).2 := by
  subst hX
  conv => lhs; unfold yLp
  exact if_neg (fun z => z h)
/-- what an acting leaves -/
def yKe (e : Nat) (x z : xSt) : Prop := (∀ k, k < 5 ∨ k = 6 ∨ k = 8 → z.1 k = x.1 k) ∧ z.2 1 = x.2 1 ∧ (∀ i, x.1 0 i = 6 → z.1 5 i = x.1 5 i ∨ ∃ t : Nat, t < 4 ∧ z.1 5 i = nI t) ∧ (∀ i, ¬ x.1 7 i = 0 → ¬ z.1 7 i = 0) ∧ ∀ i, i ≤ e → z.1 17 i = x.1 17 i ∧ z.1 18 i = x.1 18 i
theorem yKe.rf (e : Nat) (x : xSt) : yKe e x x := ⟨fun _ _ => rfl, rfl, fun _ _ => Or.inl rfl, fun _ h => h, fun _ _ => ⟨rfl, rfl⟩⟩
theorem yKe.tr {e : Nat} {x y z : xSt} (h : yKe e x y) (h2 : yKe e y z) : yKe e x z := by
  refine ⟨fun k a => (h2.1 k a).trans (h.1 k a), h2.2.1.trans h.2.1, fun i hi => ?_, fun i hi => h2.2.2.2.1 i (h.2.2.2.1 i hi), fun i hi => ⟨(h2.2.2.2.2 i hi).1.trans (h.2.2.2.2 i hi).1, (h2.2.2.2.2 i hi).2.trans (h.2.2.2.2 i hi).2⟩⟩
  rcases h2.2.2.1 i (by rw [h.1 0 (by decide)]; exact hi) with q | q
  · rcases h.2.2.1 i hi with r | ⟨t, r1, r2⟩
    · exact Or.inl (q.trans r)
    · exact Or.inr ⟨t, r1, q.trans r2⟩
  · exact Or.inr q
theorem yKe.mo {e : Nat} {x z : xSt} (h : yKe (e + 1) x z) : yKe e x z := ⟨h.1, h.2.1, h.2.2.1, h.2.2.2.1, fun i hi => h.2.2.2.2 i (by omega)⟩
theorem yKe_kr (e : Nat) {x z : xSt} {j : Nat} (h : yKr j x z) : yKe e x z := ⟨fun k q => h.1 k (by omega), h.2.1 1 (by decide), fun i _ => Or.inl (by rw [h.1 5 (by decide)]), fun i q => by rw [h.1 7 (by decide)]; exact q, fun i _ => ⟨by rw [h.1 17 (by decide)], by rw [h.1 18 (by decide)]⟩⟩
theorem yKe_ka (e : Nat) {x z : xSt} {j : Nat} (h : yKa j x z) : yKe e x z := ⟨fun k q => h.1 k (by omega) (by omega), by rw [h.2.1], h.2.2.2, fun i q => by rw [h.1 7 (by decide) (by decide)]; exact q, fun i _ => ⟨by rw [h.1 17 (by decide) (by decide)], by rw [h.1 18 (by decide) (by decide)]⟩⟩
theorem yKe_put (e : Nat) (x : xSt) {k : Nat} (i : Nat) (v : Int32) (h : k = 15 ∨ k = 16 ∨ k = 9) : yKe e x (xPut x k i v) := by
  refine ⟨fun r q => xPut_ne _ _ _ (by omega), rfl, fun z _ => Or.inl ?_, fun z q => ?_, fun z _ => ⟨?_, ?_⟩⟩
  · rw [xPut_ne _ _ _ (by omega)]
  · rw [xPut_ne _ _ _ (by omega)]; exact q
  · rw [xPut_ne _ _ _ (by omega)]
  · rw [xPut_ne _ _ _ (by omega)]
theorem yKe_all (e : Nat) (x : xSt) (s v n : Int32) : yKe e x (yAll x s v n) := ((yKe_put e x _ _ (Or.inl rfl)).tr (yKe_put e _ _ _ (Or.inr (Or.inl rfl)))).tr (yKe_kr e (yKr_run 7 _ 0 _ s v n))
theorem yTb_ke {e : Nat} {x z : xSt} (h : yKe e x z) (hT : yTb x) : yTb z := fun i => by rw [h.1 8 (by decide)]; exact hT i
theorem yKe_acc (e : Nat) {x : xSt} (hT : yTb x) (s v : Int32) : yKe e x (yAcc x s v) := by
  have h1 := (yKe_all e x s v 0).tr (yKe_put e (yAll x s v 0) 0 (x.2 1) (Or.inl rfl))
  exact h1.tr (yKe_ka e (yKa_ac 7 _ 0 _ s (yTb_ke h1 hT)))
theorem yKe_do (e : Nat) (x : xSt) (s v : Int32) : yKe e x (yDo x s v) := ⟨fun k q => va_up_ne _ _ (by omega), rfl, fun i _ => Or.inl rfl, fun i q => q, fun i _ => ⟨rfl, rfl⟩⟩
theorem yKe_int (e : Nat) (x : xSt) {j : Nat} (v : Int32) (hj : j ≠ 1) : yKe e x (xI x j v) := ⟨fun _ _ => rfl, va_up_ne _ _ (fun q => hj q.symm), fun i _ => Or.inl rfl, fun i q => q, fun i _ => ⟨rfl, rfl⟩⟩
theorem yKe_end (e : Nat) {x : xSt} (hT : yTb x) (k s v : Int32) : yKe e x (yEnd x k s v).2 := by
  unfold yEnd
  split
  · exact yKe_int e x 1 (by decide)
  · split
    · exact yKe.rf e x
    · split
      · exact (yKe_int e x _ (by decide)).tr (yKe_int e _ _ (by decide))
      · exact (yKe_acc e hT s v).tr (yKe_do e _ s v)
theorem yKe_ins (e : Nat) (x : xSt) : yKe e x (yIns x) := by
  refine ⟨fun k q => xPut_ne _ _ _ (by omega), rfl, fun i _ => Or.inl rfl, fun i q => ?_, fun i _ => ⟨rfl, rfl⟩⟩
  show ¬ (xPut x 7 (tn (x.1 14 (tn (x.2 1)))) 1).1 7 i = 0
  by_cases h : i = tn (x.1 14 (tn (x.2 1)))
  · rw [h, xPut_at]; decide
  · rw [xPut_un _ _ _ _ (Or.inr h)]; exact q
theorem yKe_go (e : Nat) (x : xSt) : yKe e x (yGo x (e + 1)) := by
  refine ⟨fun k q => ?_, rfl, fun i _ => Or.inl rfl, fun i q => q, fun i hi => ⟨?_, ?_⟩⟩
  · show (xPut (xPut x 17 (e + 1) _) 18 (e + 1) _).1 k = _
    rw [xPut_ne _ _ _ (by omega), xPut_ne _ _ _ (by omega)]
  · show (xPut (xPut x 17 (e + 1) _) 18 (e + 1) _).1 17 i = _
    rw [xPut_un _ _ _ _ (Or.inl (by decide)), xPut_un _ _ _ _ (Or.inr (by omega))]
  · show (xPut (xPut x 17 (e + 1) _) 18 (e + 1) _).1 18 i = _
    rw [xPut_un _ _ _ _ (Or.inr (by omega)), xPut_un _ _ _ _ (Or.inl (by decide))]
theorem yKe_lp {rc : Option (xSt → Int32 × xSt)} {e : Nat} (hr : ∀ f, rc = some f → ∀ x, yTb x → yKe (e + 1) x (f x).2) : ∀ (n : Nat) (x : xSt), yTb x → yKe e x (yLp rc e n x).2 := by
  intro n
  induction n with
  | zero => intro x _; exact yKe.rf e x
  | succ n ih =>
    intro x hT
    have h1 := yKe_all e x (x.1 17 e) (x.1 18 e) 1
    by_cases hk : yKd x e = 2
    · cases rc with
      | none => rw [yLp_none hk]; exact h1.tr (yKe_ins e _)
      | some f =>
        rw [yLp_some hk rfl]
        have h2 := (h1.tr (yKe_ins e _)).tr (yKe_go e _)
        have h3 := h2.tr (hr f rfl _ (yTb_ke h2 hT)).mo
        split
        · exact h3
        · exact h3.tr (ih _ (yTb_ke h3 hT))
    · rw [yLp_end hk]
      exact h1.tr (yKe_end e (yTb_ke h1 hT) _ _ _)
theorem yKe_lev : ∀ (n : Nat) (x : xSt), n ≤ 4 → yTb x → yKe (4 - n) x (yLev n x).2 := by
  intro n
  induction n with
  | zero =>
    intro x _ hT
    unfold yLev
    split
    · exact yKe_lp (fun f h => by cases h) 41 x hT
    · exact yKe_do _ _ _ _
  | succ n ih =>
    intro x hn hT
    have he : 4 - (n + 1) = 3 - n := by omega
    rw [he]
    unfold yLev
    split
    · refine yKe_lp (fun f h x hT => ?_) 41 x hT
      cases h
      have := ih x (by omega) hT
      rw [show 4 - n = 3 - n + 1 by omega] at this
      exact this
    · exact yKe_do _ _ _ _
/-- what stands of the reference's state -/
def yW (x : xSt) : Prop := (0 ≤ x.2 1 → xG (yx x) 7 (x.2 1) ∧ xTr (yx x) 7 (x.2 1)) ∧ xV (yx x) ∧ yT6 x
theorem yW_ke {e : Nat} {x z : xSt} (h : yKe e x z) (hW : yW x) : yW z := by
  refine ⟨fun q => ?_, fun i hi => ?_, fun i => ?_⟩
  · rw [h.2.1] at q ⊢
    obtain ⟨h1, h2⟩ := hW.1 q
    exact ⟨xG_k4 (x := yx x) (y := yx z) (h.1 0 (by decide)) (h.1 1 (by decide)) (h.1 2 (by decide)) h.2.2.1 _ _ h1, (xTr_eq (x := yx x) (y := yx z) (h.1 0 (by decide)) (h.1 1 (by decide)) (h.1 2 (by decide)) _ _).mpr h2⟩
  · have := hW.2.1 i hi
    show (z.1 0 i = 5 → xSo (z.1 2 i)) ∧ (z.1 0 i = 14 → z.1 3 i = 0 ∨ z.1 3 i = 1 ∨ z.1 3 i = 4 ∨ z.1 3 i = 5)
    rw [h.1 0 (by decide), h.1 2 (by decide), h.1 3 (by decide)]
    exact this
  · rw [h.1 8 (by decide)]; exact hW.2.2 i
theorem yR_self (x : xSt) : yR (yx x) x := fun _ _ => rfl
theorem yAll_ok {X x : xSt} (hR : yR X x) (hV : xV X) (hT : yT6 X) {s : Int32} (hs : xSo s) (v n : Int32) (hg : xG X 7 (x.2 1)) (ht : xTr X 7 (x.2 1)) : yOk X x (yAll x s v n) 7 (x.2 1) s v n :=
  yRun_ok hV hT hs v n 7 (xPut (xPut x 15 0 (x.2 1)) 16 0 0) 0 (x.2 1) (yR_put15 (yR_put15 hR _ _ (by decide)) _ _ (by decide)) hg ht
theorem xIs_kind {x : xSt} {g : Int32} (h : xIs x g) : xKind g = 0 ∨ xKind g = 1 ∨ xKind g = 2 ∨ xKind g = 3 ∨ xKind g = 4 ∨ xKind g = 5 := by
  rcases h with h | ⟨i, hi, ⟨rfl, -⟩ | ⟨rfl, -⟩⟩
  · rcases h with rfl | rfl | rfl | rfl <;> decide
  · rw [xKind_nI (by omega), show (i * 8 + 2) % 8 = 2 by omega]; decide
  · rw [xKind_nI (by omega), show (i * 8 + 3) % 8 = 3 by omega]; decide
theorem yAll_at {x : xSt} (hW : yW x) (hi : 0 ≤ x.2 1) {s : Int32} (hs : xSo s) (v n : Int32) : yAt (yx x) (yAll x s v n) (tn (x.2 1)) (xSug (yx x) 7 (x.2 1) s v) ∧ xIs (yx x) (xSug (yx x) 7 (x.2 1) s v) := by
  obtain ⟨hg, ht⟩ := hW.1 hi
  exact ⟨yTree_at (yAll_ok (yR_self x) hW.2.1 hW.2.2 hs v n hg ht).1 hg, xSug_is hW.2.1 s v 7 _ hg⟩
theorem yAll_k {x : xSt} (hW : yW x) (hi : 0 ≤ x.2 1) {s : Int32} (hs : xSo s) (v n : Int32) : ¬ (yAll x s v n).1 11 (tn (x.2 1)) < 0 := by
  obtain ⟨h1, h2⟩ := yAll_at hW hi hs v n
  rw [h1.1]
  rcases xIs_kind h2 with q | q | q | q | q | q <;> rw [q] <;> decide
theorem yAll_2 {x : xSt} (hW : yW x) (hi : 0 ≤ x.2 1) {s : Int32} (hs : xSo s) (v n : Int32) (hk : (yAll x s v n).1 11 (tn (x.2 1)) = 2) : ∃ i : Nat, i < 40 ∧ (yAll x s v n).1 14 (tn (x.2 1)) = nI i ∧ x.1 7 i = 0 ∧ xSo ((yAll x s v n).1 12 (tn (x.2 1))) := by
  obtain ⟨h1, h2⟩ := yAll_at hW hi hs v n
  rw [h1.1] at hk
  obtain ⟨i, hi, e, q⟩ := xIs_src h2 (Or.inl hk)
  obtain ⟨a, b, -⟩ := h1.2 (Or.inl hk)
  rcases q with ⟨-, -, q1, q2⟩ | ⟨q, -⟩
  · refine ⟨i, hi, a.trans e, q2, ?_⟩
    rw [b, e, tn_nI (by omega)]
    exact (hW.2.1 i hi).1 q1
  · rw [hk] at q; exact absurd q (by decide)
/-- how many are not spent -/
def yU (x : xSt) : Nat := (List.range 40).countP (fun i => decide (x.1 7 i = 0))
theorem cp_lt {l : List Nat} {f g : Nat → Bool} (h : ∀ i, g i = true → f i = true) {j : Nat} (hj : j ∈ l) (h1 : f j = true) (h2 : ¬ g j = true) : l.countP g < l.countP f := by
  induction l with
  | nil => cases hj
  | cons a l ih =>
    rw [List.countP_cons, List.countP_cons]
    have hle : l.countP g ≤ l.countP f := List.countP_mono_left (fun i _ => h i)
    rcases List.mem_cons.mp hj with q | q
    · subst q
      rw [if_pos h1, if_neg h2]
      omega
    · have := ih q
      by_cases hg : g a = true
      · rw [if_pos hg, if_pos (h a hg)]; omega
      · rw [if_neg hg]; split <;> omega
theorem yU_lt {x z : xSt} (h : ∀ i, ¬ x.1 7 i = 0 → ¬ z.1 7 i = 0) {j : Nat} (hj : j < 40) (h1 : x.1 7 j = 0) (h2 : ¬ z.1 7 j = 0) : yU z < yU x := by
  refine cp_lt (fun i hi => ?_) (List.mem_range.mpr hj) (decide_eq_true h1) (fun q => h2 (of_decide_eq_true q))
  have := of_decide_eq_true hi
  by_cases q : x.1 7 i = 0
  · exact decide_eq_true q
  · exact absurd this (h i q)
theorem yU_le (x : xSt) : yU x < 41 := by
  have := List.countP_le_length (p := fun i => decide (x.1 7 i = 0)) (l := List.range 40)
  rw [List.length_range] at this
  exact Nat.lt_succ_of_le this
