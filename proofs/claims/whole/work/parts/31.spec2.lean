/-! rows about the state's functions -/
def xSo (s : Int32) : Prop := ∃ j : Nat, j < 8 ∧ s = nI j
/-- what is asked of a policy so that it can be asked: by levels -/
def xG (x : xSt) : Nat → Int32 → Prop
  | 0, _ => False
  | d + 1, p => vp_in p 40 ∧ (∃ k : Nat, k < 15 ∧ x.1 0 (tn p) = nI k) ∧ (pA (x.1 0 (tn p)) → xG x d (x.1 1 (tn p))) ∧ (pB (x.1 0 (tn p)) → xG x d (x.1 2 (tn p))) ∧
    (x.1 0 (tn p) = 6 → (∃ a : Nat, a < 3 ∧ x.1 1 (tn p) = nI a) ∧ ∃ t : Nat, t < 4 ∧ x.1 6 (tn p) = nI t)
def xAsk (x : xSt) (d : Nat) (p s v n : Int32) : xSt := if n = 0 then x else xNotes x (xNot x d p s v)
theorem kc_nb {P : Prop} [Decidable P] {v : Int32} (h : v = xb P) : narrow .boolean (.int v) = .int v := by
  subst h
  unfold xb
  split <;> rfl
theorem xNotes_row (l : List Int32) : ∀ (x : xSt) (k : Nat), k ≠ 10 → (xNotes x l).1 k = x.1 k := by
  induction l with
  | nil => intro x k _; rfl
  | cons a l ih =>
    intro x k hk
    show (xNotes (xNote x a) l).1 k = _
    rw [ih _ _ hk]
    exact va_up_ne _ _ hk
theorem xAsk_row (x : xSt) (d : Nat) (p s v n : Int32) (k : Nat) (hk : k ≠ 10) : (xAsk x d p s v n).1 k = x.1 k := by
  unfold xAsk
  split
  · rfl
  · exact xNotes_row _ _ _ hk
theorem xSug_eq {x y : xSt} (h : ∀ k, k ≠ 10 → y.1 k = x.1 k) : ∀ (d : Nat) (p s v : Int32), xSug y d p s v = xSug x d p s v := by
  intro d
  induction d with
  | zero => intro p s v; rfl
  | succ d ih =>
    intro p s v
    simp only [xSug, xInSet, xEntry, h 0 (by decide), h 1 (by decide), h 2 (by decide), h 3 (by decide), h 6 (by decide), h 7 (by decide), h 8 (by decide), ih]
theorem xNot_eq {x y : xSt} (h : ∀ k, k ≠ 10 → y.1 k = x.1 k) : ∀ (d : Nat) (p s v : Int32), xNot y d p s v = xNot x d p s v := by
  intro d
  induction d with
  | zero => intro p s v; rfl
  | succ d ih =>
    intro p s v
    simp only [xNot, h 0 (by decide), h 1 (by decide), h 2 (by decide), ih, xSug_eq h]
theorem xG_eq {x y : xSt} (h : ∀ k, k ≠ 10 → y.1 k = x.1 k) : ∀ (d : Nat) (p : Int32), xG y d p ↔ xG x d p := by
  intro d
  induction d with
  | zero => intro p; exact Iff.rfl
  | succ d ih =>
    intro p
    simp only [xG, h 0 (by decide), h 1 (by decide), h 2 (by decide), h 6 (by decide), ih]
theorem xNotes_app (x : xSt) (l l2 : List Int32) : xNotes x (l ++ l2) = xNotes (xNotes x l) l2 := List.foldl_append
theorem xAsk_two (x : xSt) (d : Nat) (a b s v n : Int32) : xAsk (xAsk x d a s v n) d b s v n = if n = 0 then x else xNotes x (xNot x d a s v ++ xNot x d b s v) := by
  by_cases hn : n = 0
  · simp [xAsk, hn]
  · have hr := xAsk_row x d a s v n
    rw [xAsk, if_neg hn, if_neg hn, xNot_eq hr, xNotes_app, xAsk, if_neg hn]
def xStp (x : xSt) (p s : Int32) : xSt := if pBelow (xEntry x p s) 4 then xUp x p (xEntry x p s) else x
/-- but for the counts and states of policies: states of automata stay below 4 -/
def xS6 (x y : xSt) : Prop := (∀ k, k ≠ 6 → y.1 k = x.1 k) ∧ y.2 = x.2 ∧ ∀ i, x.1 0 i = 6 → y.1 6 i = x.1 6 i ∨ ∃ t : Nat, t < 4 ∧ y.1 6 i = nI t
theorem xS6.rf (x : xSt) : xS6 x x := ⟨fun _ _ => rfl, rfl, fun _ _ => Or.inl rfl⟩
theorem xS6.tr {x y z : xSt} (h : xS6 x y) (h2 : xS6 y z) : xS6 x z := by
  refine ⟨fun k hk => (h2.1 k hk).trans (h.1 k hk), h2.2.1.trans h.2.1, fun i hi => ?_⟩
  rcases h2.2.2 i (by rw [h.1 0 (by decide)]; exact hi) with q | q
  · rcases h.2.2 i hi with r | ⟨t, r1, r2⟩
    · exact Or.inl (q.trans r)
    · exact Or.inr ⟨t, r1, q.trans r2⟩
  · exact Or.inr q
theorem pBelow_nat {a : Int32} {n : Nat} {b : Int32} (h : pBelow a b) (hb : b = nI n) (hn : n < 2 ^ 31) : ∃ j : Nat, j < n ∧ a = nI j := by
  obtain ⟨j, h1, rfl⟩ := nI_of h.1
  refine ⟨j, ?_, rfl⟩
  rcases Nat.lt_or_ge j n with q | q
  · exact q
  · exact absurd (by rw [hb]; exact nI_le q h1) h.2
theorem xUp_6 {x : xSt} {p v : Int32} (h : x.1 0 (tn p) = 6 → ∃ t : Nat, t < 4 ∧ v = nI t) : xS6 x (xUp x p v) := by
  refine ⟨fun k hk => va_up_ne _ _ hk, rfl, fun i hi => ?_⟩
  show upd (x.1 6) (tn p) v i = _ ∨ _
  by_cases q : i = tn p
  · subst q
    obtain ⟨t, h1, h2⟩ := h hi
    exact Or.inr ⟨t, h1, by show upd (x.1 6) (tn p) v (tn p) = _; rw [pk_us, h2]⟩
  · exact Or.inl (pk_un q)
theorem xAcc_6 : ∀ (d : Nat) (x : xSt) (p s v : Int32), xS6 x (xAcc d x p s v) := by
  intro d
  induction d with
  | zero => intro x p s v; exact xS6.rf x
  | succ d ih =>
    intro x p s v
    unfold xAcc
    split
    · rename_i hk
      split
      · exact xUp_6 (fun z => by rw [hk] at z; exact absurd z (by decide))
      · exact xS6.rf x
    · split
      · split
        · rename_i hb
          exact xUp_6 (fun _ => pBelow_nat hb rfl (by decide))
        · exact xS6.rf x
      · split
        · exact (ih _ _ _ _).tr (ih _ _ _ _)
        · split
          · split
            · exact ih _ _ _ _
            · exact ih _ _ _ _
          · split
            · split
              · exact ih _ _ _ _
              · exact xS6.rf x
            · split
              · exact ih _ _ _ _
              · exact xS6.rf x
theorem xG_6 {x y : xSt} (h : xS6 x y) : ∀ (d : Nat) (p : Int32), xG x d p → xG y d p := by
  intro d
  induction d with
  | zero => intro p q; exact q
  | succ d ih =>
    intro p q
    obtain ⟨q1, q2, q3, q4, q5⟩ := q
    have h0 := h.1 0 (by decide)
    have h1 := h.1 1 (by decide)
    have h2 := h.1 2 (by decide)
    refine ⟨q1, by rw [h0]; exact q2, fun z => ?_, fun z => ?_, fun z => ?_⟩
    · rw [h1]; rw [h0] at z; exact ih _ (q3 z)
    · rw [h2]; rw [h0] at z; exact ih _ (q4 z)
    · rw [h1]; rw [h0] at z
      obtain ⟨r1, r2⟩ := q5 z
      refine ⟨r1, ?_⟩
      rcases h.2.2 _ z with r | r
      · rw [r]; exact r2
      · exact r
theorem xF_sgn (a : Int32) : (0 ≤ a ^^^ 16) ↔ 0 ≤ a := by
  have h : ∀ b : Int32, (0 ≤ b) ↔ b.toBitVec.msb = false := fun b => by
    rw [Int32.le_iff_toInt_le, BitVec.msb_eq_toInt]
    show (0 : Int) ≤ b.toBitVec.toInt ↔ _
    simp
  rw [h, h, Int32.toBitVec_xor, BitVec.msb_xor]
  have : (16 : Int32).toBitVec.msb = false := by decide
  rw [this, Bool.xor_false]
theorem xF_int (a : Int32) : (xF16 a).toInt = a.toInt % 16 := by
  have hr := rem_toInt a 16
  have h16 : (16 : Int32).toInt = 16 := by decide
  rw [h16] at hr
  have ht := Int.tmod_def a.toInt 16
  unfold xF16 xFm
  have hx := xF_sgn a
  have h0 : (0 ≤ a) ↔ 0 ≤ a.toInt := by
    rw [Int32.le_iff_toInt_le]
    exact Iff.rfl
  split
  · rename_i q
    have ha := h0.mp (hx.mp q)
    rw [hr, Int.tmod_eq_emod_of_nonneg ha]
  · rename_i q
    have ha : a.toInt < 0 := Int.not_le.mp (fun z => q (hx.mpr (h0.mpr z)))
    split
    · rename_i q2
      rw [q2] at hr ⊢
      have hz : (0 : Int32).toInt = 0 := by decide
      rw [hz] at hr ⊢
      have := Int.dvd_of_tmod_eq_zero hr.symm
      omega
    · rename_i q2
      have hne : ¬ (a - a / 16 * 16).toInt = 0 := fun z => q2 (Int32.toInt_inj.mp (by rw [z]; rfl))
      rw [hr] at hne
      have hb := tmod_bounds (a := a.toInt) (M := 16) (by decide)
      have h3 : a.toInt.tmod 16 ≤ 0 := by
        have := Int.tmod_nonneg (a := -a.toInt) 16 (by omega)
        rw [Int.neg_tmod] at this
        omega
      have h4 : (a - a / 16 * 16 + 16).toInt = a.toInt.tmod 16 + 16 := by
        rw [Int32.toInt_add, hr, h16]
        rw [Int.bmod_def]
        omega
      rw [h4]
      have h5 : a.toInt.tmod 16 = a.toInt - 16 * (a.toInt.tdiv 16) := Int.tmod_def _ _
      omega
theorem xF16_in (a : Int32) : vp_in (xF16 a) 16 := by
  rw [vp_in_iff, xF_int]
  omega
