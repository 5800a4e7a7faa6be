/-! what a suggestion is, kind by kind -/
theorem xb_t {P : Prop} [Decidable P] {v : Int32} (h : v = xb P) (hv : ¬ v = 0) : P := by
  by_cases q : P
  · exact q
  · exact absurd (h.trans (if_neg q)) hv
theorem xb_f {P : Prop} [Decidable P] {v : Int32} (h : v = xb P) (hv : v = 0) : ¬ P := fun q => by
  rw [h, xb, if_pos q] at hv
  exact absurd hv (by decide)
theorem xPair_skip {x : xSt} {d : Nat} {p s v n k a f : Int32} (hk : k = x.1 0 (tn p)) (ha : a = x.1 1 (tn p)) (hf : f = xSug x d a s v) (hpr : pPair (x.1 0 (tn p))) (h8 : ¬ k = 8) (h9 : ¬ k = 9) (ht : pFirst k (xKind f) 0) : f = xSug x (d + 1) p s v ∧ xAsk x d a s v n = xAsk x (d + 1) p s v n := by
  subst hk ha hf
  have hc : ¬ (x.1 0 (tn p) = 8 ∨ x.1 0 (tn p) = 9) ∧ pFirst (x.1 0 (tn p)) (xKind (xSug x d (x.1 1 (tn p)) s v)) 0 := ⟨fun z => z.elim h8 h9, ht⟩
  refine ⟨?_, ?_⟩
  · rw [xSug, if_pos hpr, if_pos hc]
  · rw [xAsk, xAsk, xNot, if_pos hpr, if_pos hc]
theorem xPair_two {x : xSt} {d : Nat} {p s v n k a b f g : Int32} (hk : k = x.1 0 (tn p)) (ha : a = x.1 1 (tn p)) (hb : b = x.1 2 (tn p)) (hf : f = xSug x d a s v) (hg : g = xSug (xAsk x d a s v n) d b s v) (hpr : pPair (x.1 0 (tn p))) (h : k = 8 ∨ k = 9 ∨ ¬ pFirst k (xKind f) 0) :
    (if pFirst k (xKind f) (xKind g) then f else g) = xSug x (d + 1) p s v ∧ xAsk (xAsk x d a s v n) d b s v n = xAsk x (d + 1) p s v n := by
  have hr : ∀ k, k ≠ 10 → (xAsk x d a s v n).1 k = x.1 k := fun k hk => xAsk_row _ _ _ _ _ _ _ hk
  rw [xSug_eq hr] at hg
  subst hk ha hb hf hg
  have hc : ¬ (¬ (x.1 0 (tn p) = 8 ∨ x.1 0 (tn p) = 9) ∧ pFirst (x.1 0 (tn p)) (xKind (xSug x d (x.1 1 (tn p)) s v)) 0) := fun z => by
    rcases h with q | q | q
    · exact z.1 (Or.inl q)
    · exact z.1 (Or.inr q)
    · exact q z.2
  refine ⟨?_, ?_⟩
  · rw [xSug, if_pos hpr, if_neg hc]
  · rw [xAsk_two]
    conv => rhs; rw [xAsk, xNot, if_pos hpr, if_neg hc]
theorem xSug_12 {x : xSt} {d : Nat} {p s v : Int32} (hk : x.1 0 (tn p) = 12) : xSug x (d + 1) p s v = if pIn (x.1 1 (tn p)) s then xSug x d (x.1 2 (tn p)) s v else 0 := by
  simp [xSug, pPair, hk]
theorem xNot_12 {x : xSt} {d : Nat} {p s v : Int32} (hk : x.1 0 (tn p) = 12) : xNot x (d + 1) p s v = if pIn (x.1 1 (tn p)) s then xNot x d (x.1 2 (tn p)) s v else [] := by
  simp [xNot, pPair, hk]
theorem xAsk_12 {x : xSt} {d : Nat} {p s v n : Int32} (hk : x.1 0 (tn p) = 12) : xAsk x (d + 1) p s v n = if pIn (x.1 1 (tn p)) s then xAsk x d (x.1 2 (tn p)) s v n else x := by
  rw [xAsk, xNot_12 hk]
  split
  · split
    · rw [xAsk, if_pos (by assumption)]
    · rfl
  · split
    · rw [xAsk, if_neg (by assumption)]
    · rfl
theorem xSug_13 {x : xSt} {d : Nat} {p s v : Int32} (hk : x.1 0 (tn p) = 13) : xSug x (d + 1) p s v = xSug x d (x.1 1 (tn p)) s v := by
  simp [xSug, pPair, hk]
theorem xNot_13 {x : xSt} {d : Nat} {p s v : Int32} (hk : x.1 0 (tn p) = 13) : xNot x (d + 1) p s v = xNot x d (x.1 1 (tn p)) s v ++ (if xKind (xSug x d (x.1 1 (tn p)) s v) = 0 then [] else [16 * xKind (xSug x d (x.1 1 (tn p)) s v) + s]) := by
  simp [xNot, pPair, hk]
theorem xAsk_13 {x : xSt} {d : Nat} {p s v n : Int32} (hk : x.1 0 (tn p) = 13) : xAsk x (d + 1) p s v n = if n = 0 ∨ xKind (xSug x d (x.1 1 (tn p)) s v) = 0 then xAsk x d (x.1 1 (tn p)) s v n else xNote (xAsk x d (x.1 1 (tn p)) s v n) (16 * xKind (xSug x d (x.1 1 (tn p)) s v) + s) := by
  rw [xAsk, xNot_13 hk]
  by_cases hn : n = 0
  · rw [if_pos hn, if_pos (Or.inl hn), xAsk, if_pos hn]
  · rw [if_neg hn]
    by_cases hz : xKind (xSug x d (x.1 1 (tn p)) s v) = 0
    · rw [if_pos (Or.inr hz), if_pos hz, List.append_nil, xAsk, if_neg hn]
    · have hz' : ¬ (n = 0 ∨ xKind (xSug x d (x.1 1 (tn p)) s v) = 0) := fun z => z.elim hn hz
      rw [if_neg hz', if_neg hz, xNotes_app, xAsk, if_neg hn]
      rfl
theorem xSug_14 {x : xSt} {d : Nat} {p s v : Int32} (hk : x.1 0 (tn p) = 14) : xSug x (d + 1) p s v = if xKind (xSug x d (x.1 1 (tn p)) s v) = x.1 2 (tn p) then x.1 3 (tn p) else xSug x d (x.1 1 (tn p)) s v := by
  simp [xSug, pPair, hk]
theorem xNot_14 {x : xSt} {d : Nat} {p s v : Int32} (hk : x.1 0 (tn p) = 14) : xNot x (d + 1) p s v = xNot x d (x.1 1 (tn p)) s v := by
  simp [xNot, pPair, hk]
theorem xAsk_14 {x : xSt} {d : Nat} {p s v n : Int32} (hk : x.1 0 (tn p) = 14) : xAsk x (d + 1) p s v n = xAsk x d (x.1 1 (tn p)) s v n := by
  rw [xAsk, xAsk, xNot_14 hk]
theorem xSug_6 {x : xSt} {d : Nat} {p s v : Int32} (hk : x.1 0 (tn p) = 6) : xSug x (d + 1) p s v = xOfEntry (xEntry x p s) := by
  simp [xSug, pPair, hk]
theorem xNot_6 {x : xSt} {d : Nat} {p s v : Int32} (hk : x.1 0 (tn p) = 6) : xNot x (d + 1) p s v = [] := by
  simp [xNot, pPair, hk]
theorem xAsk_6 {x : xSt} {d : Nat} {p s v n : Int32} (hk : x.1 0 (tn p) = 6) : xAsk x (d + 1) p s v n = x := by
  rw [xAsk, xNot_6 hk]
  split <;> rfl
abbrev pPlain (k : Int32) : Prop := k = 0 ∨ k = 1 ∨ k = 2 ∨ k = 3 ∨ k = 4 ∨ k = 5 ∨ k = 7
theorem xSug_0 {x : xSt} {d : Nat} {p s v : Int32} (hk : pPlain (x.1 0 (tn p))) : xSug x (d + 1) p s v = if pIn (x.1 1 (tn p)) s then xInSet x p v else 0 := by
  rcases hk with hk | hk | hk | hk | hk | hk | hk <;> simp [xSug, pPair, hk]
theorem xNot_0 {x : xSt} {d : Nat} {p s v : Int32} (hk : pPlain (x.1 0 (tn p))) : xNot x (d + 1) p s v = [] := by
  rcases hk with hk | hk | hk | hk | hk | hk | hk <;> simp [xNot, pPair, hk]
theorem xAsk_0 {x : xSt} {d : Nat} {p s v n : Int32} (hk : pPlain (x.1 0 (tn p))) : xAsk x (d + 1) p s v n = x := by
  rw [xAsk, xNot_0 hk]
  split <;> rfl
theorem xPlace_nI (a t j : Nat) : xPlace (nI a) (nI t) (nI j) = nI ((a * 4 + t) * 8 + j) := by
  show (nI a * nI 4 + nI t) * nI 8 + nI j = _
  rw [pk_mul, nI_add, pk_mul, nI_add]
theorem xG_place {x : xSt} {p s : Int32} (h : (∃ a : Nat, a < 3 ∧ x.1 1 (tn p) = nI a) ∧ ∃ t : Nat, t < 4 ∧ x.1 6 (tn p) = nI t) (hs : xSo s) : vp_in (xPlace (x.1 1 (tn p)) (x.1 6 (tn p)) s) 96 := by
  obtain ⟨⟨a, h1, h2⟩, t, h3, h4⟩ := h
  obtain ⟨j, h5, h6⟩ := hs
  rw [h2, h4, h6, xPlace_nI]
  exact vp_in_nI (by omega) (by decide)
theorem xAcc_3 {x : xSt} {d : Nat} {p s v : Int32} (hk : x.1 0 (tn p) = 3) : xAcc (d + 1) x p s v = if pIn (x.1 1 (tn p)) s then xUp x p (x.1 6 (tn p) + 1) else x := by
  simp [xAcc, hk]
theorem xAcc_k6 {x : xSt} {d : Nat} {p s v : Int32} (hk : x.1 0 (tn p) = 6) : xAcc (d + 1) x p s v = xStp x p s := by
  simp [xAcc, hk, xStp]
theorem xAcc_8 {x : xSt} {d : Nat} {p s v : Int32} (hk : x.1 0 (tn p) = 8) : xAcc (d + 1) x p s v = xAcc d (xAcc d x (x.1 1 (tn p)) s v) (x.1 2 (tn p)) s v := by
  simp [xAcc, hk]
theorem xAcc_9 {x : xSt} {d : Nat} {p s v : Int32} (hk : x.1 0 (tn p) = 9 ∨ x.1 0 (tn p) = 10 ∨ x.1 0 (tn p) = 11) : xAcc (d + 1) x p s v = if pFirst (x.1 0 (tn p)) (xKind (xSug x d (x.1 1 (tn p)) s v)) (xKind (xSug x d (x.1 2 (tn p)) s v)) then xAcc d x (x.1 1 (tn p)) s v else xAcc d x (x.1 2 (tn p)) s v := by
  rw [xAcc, if_neg (fun z => by rcases hk with q | q | q <;> rw [q] at z <;> exact absurd z (by decide)), if_neg (fun z => by rcases hk with q | q | q <;> rw [q] at z <;> exact absurd z (by decide)), if_neg (fun z => by rcases hk with q | q | q <;> rw [q] at z <;> exact absurd z (by decide)), if_pos hk]
theorem xAcc_12 {x : xSt} {d : Nat} {p s v : Int32} (hk : x.1 0 (tn p) = 12) : xAcc (d + 1) x p s v = if pIn (x.1 1 (tn p)) s then xAcc d x (x.1 2 (tn p)) s v else x := by
  simp [xAcc, hk]
theorem xAcc_13 {x : xSt} {d : Nat} {p s v : Int32} (hk : x.1 0 (tn p) = 13 ∨ x.1 0 (tn p) = 14) : xAcc (d + 1) x p s v = xAcc d x (x.1 1 (tn p)) s v := by
  rcases hk with hk | hk <;> simp [xAcc, hk]
theorem xAcc_0 {x : xSt} {d : Nat} {p s v : Int32} (hk : x.1 0 (tn p) = 0 ∨ x.1 0 (tn p) = 1 ∨ x.1 0 (tn p) = 2 ∨ x.1 0 (tn p) = 4 ∨ x.1 0 (tn p) = 5 ∨ x.1 0 (tn p) = 7) : xAcc (d + 1) x p s v = x := by
  rcases hk with hk | hk | hk | hk | hk | hk <;> simp [xAcc, hk]
theorem xDo_w {x : xSt} {s v : Int32} {z1 z2 z3 : Int32} (h1 : z1 = x.1 9 (tn s) + v) (h2 : z2 = x.2 2 + 1) (h3 : z3 = (xA x 9 (upd (x.1 9) (tn s) z1)).1 9 (tn s)) : xI (xI (xA x 9 (upd (x.1 9) (tn s) z1)) 2 z2) 7 z3 = xDo x s v := by
  have h4 : z3 = z1 := h3.trans (by show upd (x.1 9) (tn s) z1 (tn s) = z1; exact pk_us)
  rw [h4, h2, h1]
  rfl
