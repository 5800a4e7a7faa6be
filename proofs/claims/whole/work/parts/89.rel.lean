/-! class and reference beside each other -/
/-- the notes: the class's ring c, f, the reference's row g -/
def nR (f : Nat → Int32) (c : Int32) (g : Nat → Int32) : Prop := ∀ k : Nat, k < 16 → f (xIx (c - nI (k + 1))) = g k
theorem s32_1 (c : Int32) : c + 1 - nI 1 = c := by
  show c + 1 - 1 = c
  rw [Int32.sub_eq_add_neg, Int32.add_assoc, ← Int32.sub_eq_add_neg, Int32.sub_self, Int32.add_zero]
theorem s32_2 (c : Int32) (j : Nat) : c + 1 - nI (j + 1 + 1) = c - nI (j + 1) := by
  have e : nI (j + 1 + 1) = nI (j + 1) + 1 := (nI_1 (j + 1)).symm
  rw [e, Int32.sub_eq_add_neg, Int32.sub_eq_add_neg, Int32.neg_add, Int32.add_assoc, Int32.add_comm 1, Int32.sub_add_cancel]
theorem nR_add {f g : Nat → Int32} {c n : Int32} (h : nR f c g) : nR (upd f (tn (xF16 c)) n) (c + 1) (yPush g n) := by
  intro k hk
  rw [xF_tn]
  cases k with
  | zero =>
    rw [show (0 : Nat) + 1 = 1 from rfl, s32_1, pk_us]
    rfl
  | succ j =>
    rw [s32_2]
    have hne : xIx (c - nI (j + 1)) ≠ xIx c := by
      rw [xIx_sub c (by omega)]
      unfold xIx
      omega
    rw [pk_un hne, h j (by omega), yPush, if_neg (by omega), if_pos hk]
    rfl
/-- rows but the notes' and ints but 6 (stopped) are the same; the notes are -/
def yIn (X x : xSt) : Prop := ∀ k, k < 8 → k ≠ 6 → x.2 (yi k) = X.2 k
def yRa (X x : xSt) : Prop := yR X x ∧ yIn X x ∧ nR (X.1 10) (X.2 1) (x.1 10)
/-- the same, but for the row of the spent ones -/
def yRb (X x : xSt) : Prop := (∀ k, k < 10 → k ≠ 7 → x.1 (yr k) = X.1 k) ∧ (∀ i, 40 ≤ i → x.1 7 i = X.1 7 i) ∧ yIn X x ∧ nR (X.1 10) (X.2 1) (x.1 10)
theorem yRa.b {X x : xSt} (h : yRa X x) : yRb X x := ⟨fun k hk _ => h.1 k hk, fun i _ => by rw [show x.1 7 = X.1 7 from h.1 7 (by decide)], h.2.1, h.2.2⟩
theorem yRel_notes {f g : Nat → Int32} {c e : Int32} (l : List Int32) : ∀ (X : xSt), X.1 10 = f → X.2 1 = c → nR f c g → e = c → nR ((xNotes X l).1 10) ((xNotes X l).2 1) (yNs (g, e) l).1 ∧ (yNs (g, e) l).2 = (xNotes X l).2 1 := by
  induction l generalizing f g c e with
  | nil => intro X h1 h2 h3 h4; subst h1 h2 h4; exact ⟨h3, rfl⟩
  | cons n l ih =>
    intro X h1 h2 h3 h4
    subst h1 h2 h4
    exact ih (xNote X n) rfl rfl (nR_add h3) rfl
theorem xNotes_1 (X : xSt) (l : List Int32) : ∀ k, k ≠ 10 → (xNotes X l).1 k = X.1 k := fun k hk => xNotes_row l X k hk
/-- an asking, noting or not -/
theorem yRa_ask {X x : xSt} (h : yRa X x) (hi : xI7 X) (h0 : ¬ X.2 5 = -1) {s : Int32} (hs : xSo s) (v n : Int32) : yRa (xAsk X 7 (X.2 5) s v n) (yAll x s v n) ∧ yTree X (yAll x s v n) s v 7 (X.2 5) ∧ yAt X (yAll x s v n) (tn (x.2 1)) (xSug X 7 (X.2 5) s v) := by
  obtain ⟨q1, q2, q3⟩ := hi.1.resolve_left h0
  have e1 : x.2 1 = X.2 5 := h.2.1 5 (by decide) (by decide)
  have ok := yAll_ok h.1 hi.2.1 hi.2.2 hs v n (by rw [e1]; exact q2) (by rw [e1]; exact q3)
  have hk := yKr_run 7 (xPut (xPut x 15 0 (x.2 1)) 16 0 0) 0 (x.2 1) s v n
  rw [e1] at ok ⊢
  refine ⟨⟨fun k hk' => ?_, fun k hk1 hk2 => ?_, ?_⟩, ok.1, yTree_at ok.1 q2⟩
  · rw [xAsk_row _ _ _ _ _ _ _ (by omega)]
    exact yR_kr hk (yR_put15 (yR_put15 h.1 _ _ (by decide)) _ _ (by decide)) k hk'
  · by_cases q : k = 1
    · subst q
      show (yN (yAll x s v n)).2 = _
      rw [ok.2.2]
      unfold xAsk
      split
      · exact h.2.1 1 (by decide) (by decide)
      · exact (yRel_notes _ X rfl rfl h.2.2 (h.2.1 1 (by decide) (by decide))).2
    · rw [xAsk_int _ _ _ _ _ _ _ q]
      refine Eq.trans (hk.2.1 (yi k) ?_) (h.2.1 k hk1 hk2)
      match k, hk1 with
      | 0, _ | 2, _ | 3, _ | 4, _ | 5, _ | 6, _ | 7, _ => decide
      | 1, _ => exact absurd rfl q
  · show nR _ _ (yN (yAll x s v n)).1
    rw [ok.2.2]
    unfold xAsk
    split
    · exact h.2.2
    · exact (yRel_notes _ X rfl rfl h.2.2 (h.2.1 1 (by decide) (by decide))).1
theorem yR_row {X x : xSt} (h : yR X x) {f g : Nat → Int32} {k : Nat} (hk : yr k = k ∧ k < 10) (hf : f = g) : yR (xA X k f) (xA x k g) := fun r hr => by
  subst hf
  by_cases q : r = k
  · subst q
    show va_up x.1 r f (yr r) = va_up X.1 r f r
    rw [hk.1]
    simp [va_up]
  · have h1 : yr r ≠ k := by
      intro z
      have : yr (yr r) = yr k := congrArg yr z
      rw [hk.1] at this
      have hrr : yr (yr r) = r := by
        match r, hr with
        | 0, _ | 1, _ | 2, _ | 3, _ | 4, _ | 5, _ | 6, _ | 7, _ | 8, _ | 9, _ => rfl
      exact q (hrr.symm.trans this)
    show va_up x.1 k f (yr r) = va_up X.1 k f r
    rw [va_up_ne _ _ h1, va_up_ne _ _ q]
    exact h r hr
def yj : Nat → Nat
  | 0 => 0
  | 2 => 1
  | 3 => 2
  | 4 => 3
  | 5 => 4
  | 1 => 5
  | 8 => 6
  | k => k
theorem yj_yi {k : Nat} (h : k < 8) : yj (yi k) = k := by
  match k, h with
  | 0, _ | 1, _ | 2, _ | 3, _ | 4, _ | 5, _ | 6, _ | 7, _ => rfl
theorem yIn_int {X x : xSt} (h : yIn X x) {j : Nat} {v w : Int32} (hj : j < 8 ∧ j ≠ 6) (hv : v = w) : yIn (xI X j v) (xI x (yi j) w) := fun k hk hk6 => by
  subst hv
  by_cases q : k = j
  · subst q
    show va_up x.2 (yi k) v (yi k) = va_up X.2 k v k
    simp [va_up]
  · have h1 : yi k ≠ yi j := fun z => q (by
      have := congrArg yj z
      rw [yj_yi hk, yj_yi hj.1] at this
      exact this)
    show va_up x.2 (yi j) v (yi k) = va_up X.2 j v k
    rw [va_up_ne _ _ h1, va_up_ne _ _ q]
    exact h k hk hk6
theorem yRa_do {X x : xSt} (h : yRa X x) (s v : Int32) : yRa (xDo X s v) (yDo x s v) := by
  have e9 : x.1 9 = X.1 9 := h.1 9 (by decide)
  have e3 : x.2 3 = X.2 2 := h.2.1 2 (by decide) (by decide)
  refine ⟨?_, ?_, h.2.2⟩
  · exact yR_row h.1 (k := 9) (by decide) (by rw [e9])
  · intro k hk hk6
    by_cases q7 : k = 7
    · subst q7
      show x.1 9 (tn s) + v = X.1 9 (tn s) + v
      rw [e9]
    · by_cases q2 : k = 2
      · subst q2
        show x.2 3 + 1 = X.2 2 + 1
        rw [e3]
      · have a : (yDo x s v).2 (yi k) = x.2 (yi k) := by
          match k, hk with
          | 0, _ | 1, _ | 3, _ | 4, _ | 5, _ | 6, _ => rfl
          | 2, _ => exact absurd rfl q2
          | 7, _ => exact absurd rfl q7
        have b : (xDo X s v).2 k = X.2 k := by
          match k, hk with
          | 0, _ | 1, _ | 3, _ | 4, _ | 5, _ | 6, _ => rfl
          | 2, _ => exact absurd rfl q2
          | 7, _ => exact absurd rfl q7
        rw [a, b]
        exact h.2.1 k hk hk6
theorem yRa_acc {X x : xSt} (h : yRa X x) (hi : xI7 X) (h0 : ¬ X.2 5 = -1) {s : Int32} (hs : xSo s) (v : Int32) : yRa (xAcc 7 X (X.2 5) s v) (yAcc x s v) := by
  obtain ⟨q1, q2, q3⟩ := hi.1.resolve_left h0
  have e1 : x.2 1 = X.2 5 := h.2.1 5 (by decide) (by decide)
  obtain ⟨ra, ta, -⟩ := yRa_ask h hi h0 hs v 0
  have eX : xAsk X 7 (X.2 5) s v 0 = X := if_pos rfl
  rw [eX] at ra
  have hR' : yR X (xPut (yAll x s v 0) 15 0 (X.2 5)) := yR_put15 ra.1 _ _ (by decide)
  have ac := yAc_ok hi.2.2 hs v 7 X (xPut (yAll x s v 0) 15 0 (X.2 5)) 0 (X.2 5) hR' (fun _ _ => rfl) (fun _ _ => rfl) q2 q3 (yTree_eq 7 _ (fun w _ => yEq4_put _ _ _ (Or.inr (Or.inr (by decide)))) ta)
  have ka := yKa_ac 7 (xPut (yAll x s v 0) 15 0 (X.2 5)) 0 (X.2 5) s (yTb_R hR' hi.2.2)
  have hdef : yAcc x s v = yAc 7 (xPut (yAll x s v 0) 15 0 (X.2 5)) 0 (X.2 5) s := by rw [yAcc, e1]
  rw [hdef]
  refine ⟨ac, fun k hk hk6 => ?_, ?_⟩
  · rw [(xAcc_6 7 X (X.2 5) s v).2.1, ka.2.1]
    exact ra.2.1 k hk hk6
  · rw [(xAcc_6 7 X (X.2 5) s v).2.1, (xAcc_6 7 X (X.2 5) s v).1 10 (by decide), ka.1 10 (by decide) (by decide)]
    exact ra.2.2
