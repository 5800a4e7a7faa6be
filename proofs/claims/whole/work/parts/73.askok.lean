/-! the reference's asking is the class's -/
/-- the reference's state x has the class's rows X, but for the notes -/
def yR (X x : xSt) : Prop := ∀ k, k < 10 → x.1 (yr k) = X.1 k
theorem yR_kr {X x z : xSt} {j : Nat} (h : yKr j x z) (hR : yR X x) : yR X z := fun k hk => by
  have h10 : yr k < 10 := by
    match k, hk with
    | 0, _ | 1, _ | 2, _ | 3, _ | 4, _ | 5, _ | 6, _ | 7, _ | 8, _ | 9, _ => decide
  rw [h.1 _ (Or.inl h10)]
  exact hR k hk
def yOk (X x z : xSt) (d : Nat) (p s v n : Int32) : Prop := yTree X z s v d p ∧ (∀ i, ¬ xSub X d p i → yEq4 x z i) ∧ yN z = yNs (yN x) (if n = 0 then [] else xNot X d p s v)
theorem yUp {X x z1 z : xSt} {d j : Nat} {c p s v n : Int32} (h : yOk X (yDown x j c) z1 d c s v n) (hnp : ¬ xSub X d c (tn p)) (hz : ∀ i, i ≠ tn p → yEq4 z1 z i) : yTree X z s v d c ∧ ∀ i, i ≠ tn p → ¬ xSub X d c i → yEq4 x z i :=
  ⟨yTree_eq d c (fun i hi => hz i (fun q => hnp (q ▸ hi))) h.1, fun i h1 h2 => ((yEq4_down x j c i).tr (h.2.1 i h2)).tr (hz i h1)⟩
theorem yRun_0 {x : xSt} {d j : Nat} {p s v n : Int32} (h : ¬ 0 ≤ yNext x p 0 s) : yRun (d + 1) x j p s v n = yComb x p s v n := by rw [yRun, if_neg h]
theorem yRun_1 {x : xSt} {d j : Nat} {p s v n c : Int32} (h : yNext x p 0 s = c) (hc : 0 ≤ c) (h1 : ¬ 0 ≤ yNext (yRun d (yDown x j c) (j + 1) c s v n) p 1 s) : yRun (d + 1) x j p s v n = yComb (yRun d (yDown x j c) (j + 1) c s v n) p s v n := by
  subst h
  rw [yRun, if_pos hc, if_neg h1]
theorem yRun_2 {x : xSt} {d j : Nat} {p s v n c c1 : Int32} (h : yNext x p 0 s = c) (hc : 0 ≤ c) (h1 : yNext (yRun d (yDown x j c) (j + 1) c s v n) p 1 s = c1) (hc1 : 0 ≤ c1) : yRun (d + 1) x j p s v n = yComb (yRun d (yDown (yRun d (yDown x j c) (j + 1) c s v n) j c1) (j + 1) c1 s v n) p s v n := by
  subst h
  subst h1
  rw [yRun, if_pos hc, if_pos hc1]
theorem vp_0 {p : Int32} {n : Nat} (h : vp_in p n) (hn : n < 2 ^ 31) : 0 ≤ p := by
  obtain ⟨i, hi, rfl⟩ := vp_in_of h hn
  exact nI_le (a := 0) (b := i) (by omega) (by omega)
theorem lt2 (a : Int32) : a < 2 ↔ a ≤ 1 := by
  rw [Int32.lt_iff_toInt_lt, Int32.le_iff_toInt_le]
  have h1 : (1 : Int32).toInt = 1 := by decide
  have h2 : (2 : Int32).toInt = 2 := by decide
  omega
theorem yComb_pair {x : xSt} {p s v n : Int32} (h : pPair (x.1 0 (tn p))) : yComb x p s v n = if pFirst (x.1 0 (tn p)) (x.1 11 (tn (x.1 1 (tn p)))) (x.1 11 (tn (x.1 2 (tn p)))) then ySame x p (x.1 1 (tn p)) else ySame x p (x.1 2 (tn p)) := by
  rw [yComb]
  rcases h with hk | hk | hk | hk <;> simp only [hk, pFirst, pTA]
  · by_cases q : x.1 11 (tn (x.1 1 (tn p))) < x.1 11 (tn (x.1 2 (tn p))) <;> simp [q]
  · simp
  · simp
  · simp [lt2]
theorem yComb_12 {x : xSt} {p s v n : Int32} (h : x.1 0 (tn p) = 12) : yComb x p s v n = if pIn (x.1 1 (tn p)) s then ySame x p (x.1 2 (tn p)) else ySug x p 0 := by
  rw [yComb, h]; rfl
theorem yComb_13 {x : xSt} {p s v n : Int32} (h : x.1 0 (tn p) = 13) : yComb x p s v n = yAud x p s n := by
  rw [yComb, h]; rfl
theorem yComb_14 {x : xSt} {p s v n : Int32} (h : x.1 0 (tn p) = 14) : yComb x p s v n = yTurned x p := by
  rw [yComb, h]; rfl
theorem yNext_pair0 {x : xSt} {p s : Int32} (h : pPair (x.1 0 (tn p)) ∨ x.1 0 (tn p) = 13 ∨ x.1 0 (tn p) = 14) : yNext x p 0 s = x.1 1 (tn p) := by
  rw [yNext]
  rcases h with (h | h | h | h) | h | h <;> rw [h] <;> rfl
theorem yNext_pair1 {x : xSt} {p s : Int32} (h : pPair (x.1 0 (tn p))) : yNext x p 1 s = if ¬ (x.1 0 (tn p) = 8 ∨ x.1 0 (tn p) = 9) ∧ pFirst (x.1 0 (tn p)) (x.1 11 (tn (x.1 1 (tn p)))) 0 then -1 else x.1 2 (tn p) := by
  rw [yNext]
  rcases h with hk | hk | hk | hk <;> simp only [hk, pFirst, pTA]
  · simp
  · simp
  · simp
  · simp [lt2]
theorem yNext_13 {x : xSt} {p s : Int32} (h : x.1 0 (tn p) = 13 ∨ x.1 0 (tn p) = 14) : yNext x p 1 s = -1 := by
  rw [yNext]
  rcases h with h | h <;> rw [h] <;> rfl
theorem yNext_12 {x : xSt} {p s : Int32} (h : x.1 0 (tn p) = 12) : yNext x p 0 s = (if pIn (x.1 1 (tn p)) s then x.1 2 (tn p) else -1) ∧ yNext x p 1 s = -1 := by
  refine ⟨?_, ?_⟩
  · rw [yNext, h]
    by_cases q : pIn (x.1 1 (tn p)) s <;> simp [q]
  · rw [yNext, h]; rfl
theorem yNext_0 {x : xSt} {p t s : Int32} (h : ¬ 8 ≤ x.1 0 (tn p)) : yNext x p t s = -1 := by rw [yNext, if_neg h]
theorem yAt_src {X z : xSt} {p : Int32} (hp : vp_in p 40) {k : Nat} (hk : k = 2 ∨ k = 3) (hz : z.1 2 = X.1 2) {w : Int32} (hw : w = if k = 2 then X.1 3 (tn p) else X.1 2 (tn p)) : yAt X (ySrc z p (nI k) w) (tn p) (p * 8 + nI k) := by
  obtain ⟨i, hi, rfl⟩ := vp_in_of hp (by decide)
  have hg : nI i * 8 + nI k = nI (i * 8 + k) := xMk_nI i k
  have hK : xKind (nI (i * 8 + k)) = nI k := by
    rw [xKind_nI (by omega)]; congr 1; omega
  have hS : xSrc (nI (i * 8 + k)) = nI i := by
    rw [xSrc_nI (by omega)]; congr 1; omega
  rw [hg]
  refine ⟨?_, fun _ => ⟨?_, ?_, ?_⟩⟩
  · show (xPut (xPut (xPut (ySug z (nI i) (nI k)) 12 (tn (nI i)) _) 13 (tn (nI i)) w) 14 (tn (nI i)) (nI i)).1 11 (tn (nI i)) = _
    rw [xPut_un _ _ _ _ (Or.inl (by decide)), xPut_un _ _ _ _ (Or.inl (by decide)), xPut_un _ _ _ _ (Or.inl (by decide)), ySug_11, hK]
  · rw [hS]; exact xPut_at _ _ _ _
  · show (xPut (xPut (xPut (ySug z (nI i) (nI k)) 12 (tn (nI i)) _) 13 (tn (nI i)) w) 14 (tn (nI i)) (nI i)).1 12 (tn (nI i)) = _
    rw [xPut_un _ _ _ _ (Or.inl (by decide)), xPut_un _ _ _ _ (Or.inl (by decide)), xPut_at, hS, hz]
  · show (xPut (xPut (xPut (ySug z (nI i) (nI k)) 12 (tn (nI i)) _) 13 (tn (nI i)) w) 14 (tn (nI i)) (nI i)).1 13 (tn (nI i)) = _
    rw [xPut_un _ _ _ _ (Or.inl (by decide)), xPut_at, hS, hK, hw]
    rcases hk with rfl | rfl
    · rw [if_pos rfl, if_pos (show nI 2 = 2 from rfl)]
    · rw [if_neg (show ¬ (3 : Nat) = 2 by decide), if_neg (show ¬ nI 3 = 2 by decide)]
theorem yPlace_eq {X x : xSt} (hR : yR X x) {p s : Int32} (h : (∃ a : Nat, a < 3 ∧ X.1 1 (tn p) = nI a) ∧ ∃ t : Nat, t < 4 ∧ X.1 6 (tn p) = nI t) (hs : xSo s) : yEnt x p s = xEntry X p s := by
  obtain ⟨⟨a, h1, h2⟩, t, h3, h4⟩ := h
  obtain ⟨j, h5, h6⟩ := hs
  have r1 : x.1 1 = X.1 1 := hR 1 (by decide)
  have r5 : x.1 5 = X.1 6 := hR 6 (by decide)
  have r8 : x.1 8 = X.1 8 := hR 8 (by decide)
  have e : yPlace x p s = xPlace (X.1 1 (tn p)) (X.1 6 (tn p)) s := by
    rw [yPlace, r1, r5, h2, h4, h6, xPlace_nI]
    show nI a * nI 32 + nI t * nI 8 + nI j = _
    rw [pk_mul, pk_mul, nI_add, nI_add]
    congr 1; omega
  rw [yEnt, xEntry, e, r8]
theorem yOfEnt {e : Int32} (h : ∃ m : Nat, m < 6 ∧ e = nI m) : (if 4 ≤ e then (if e = 4 then 4 else 0) else 1) = xOfEntry e ∧ (xOfEntry e = 0 ∨ xOfEntry e = 1 ∨ xOfEntry e = 4 ∨ xOfEntry e = 5) := by
  obtain ⟨m, hm, rfl⟩ := h
  match m, hm with
  | 0, _ | 1, _ | 2, _ | 3, _ | 4, _ | 5, _ => decide
theorem yPlain_ok {X x : xSt} (hR : yR X x) (hT : yT6 X) {d : Nat} {p s v : Int32} (hg : xG X (d + 1) p) (h8 : ¬ 8 ≤ X.1 0 (tn p)) (hs : xSo s) : yAt X (yPlain x p s v) (tn p) (xSug X (d + 1) p s v) := by
  obtain ⟨hp, hk, -, -, h6⟩ := hg
  have r0 : x.1 0 = X.1 0 := hR 0 (by decide)
  have r1 : x.1 1 = X.1 1 := hR 1 (by decide)
  have r2 : x.1 2 = X.1 2 := hR 2 (by decide)
  have r3 : x.1 3 = X.1 3 := hR 3 (by decide)
  have r5 : x.1 5 = X.1 6 := hR 6 (by decide)
  have r7 : x.1 7 = X.1 7 := hR 7 (by decide)
  by_cases hk6 : X.1 0 (tn p) = 6
  · rw [xSug_6 hk6, yPlain, r0, if_pos hk6, yPlace_eq hR (h6 hk6) hs, (yOfEnt (e := xEntry X p s) (hT _)).1]
    exact yAt_sug X x p (yOfEnt (e := xEntry X p s) (hT _)).2
  · have hpl : pPlain (X.1 0 (tn p)) := by
      revert h8 hk6
      rcases k_all hk with q | q | q | q | q | q | q | q | q | q | q | q | q | q | q <;> rw [q] <;> decide
    rw [xSug_0 hpl, yPlain, r0, r1, r2, r3, r5, r7, if_neg hk6]
    by_cases hin : pIn (X.1 1 (tn p)) s
    · rw [if_pos hin, xInSet]
      rcases hpl with q | q | q | q | q | q | q <;> rw [q]
      · rw [if_pos ⟨hin, fun z => absurd z (by decide)⟩]; exact yAt_sug X x p (Or.inr (Or.inl rfl))
      · rw [if_pos ⟨hin, fun z => absurd z (by decide)⟩]; exact yAt_sug X x p (Or.inr (Or.inr (Or.inl rfl)))
      · rw [if_pos ⟨hin, fun z => absurd z (by decide)⟩]; exact yAt_sug X x p (Or.inr (Or.inr (Or.inr rfl)))
      · rw [if_pos ⟨hin, fun z => absurd z (by decide)⟩]
        by_cases hb : X.1 2 (tn p) ≤ X.1 6 (tn p)
        · rw [if_pos hb]; exact yAt_sug X x p (Or.inr (Or.inr (Or.inl rfl)))
        · rw [if_neg hb]; exact yAt_sug X x p (Or.inr (Or.inl rfl))
      · rw [if_pos ⟨hin, fun z => absurd z (by decide)⟩]; exact yAt_src (X := X) (z := x) hp (k := 3) (Or.inr rfl) r2 rfl
      · by_cases hsp : X.1 7 (tn p) = 0
        · rw [if_pos ⟨hin, fun _ => hsp⟩, if_pos hsp]
          exact yAt_src (X := X) (z := x) hp (k := 2) (Or.inl rfl) r2 rfl
        · rw [if_neg (fun z => hsp (z.2 rfl)), if_neg hsp]
          exact yAt_sug X x p (Or.inl rfl)
      · rw [if_pos ⟨hin, fun z => absurd z (by decide)⟩]
        by_cases hb : v < X.1 2 (tn p) ∨ X.1 3 (tn p) < v
        · rw [if_pos hb]; exact yAt_sug X x p (Or.inr (Or.inr (Or.inl rfl)))
        · rw [if_neg hb]; exact yAt_sug X x p (Or.inr (Or.inl rfl))
    · rw [if_neg hin, if_neg (fun z => hin z.1)]
      exact yAt_sug X x p (Or.inl rfl)
