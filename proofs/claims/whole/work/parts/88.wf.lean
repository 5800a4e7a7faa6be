/-! what stands of the class's state, and what follows from it -/
def itp (par : Nat → Nat) : Nat → Nat → Nat
  | 0, i => i
  | m + 1, i => par (itp par m i)
theorem itp_add (par : Nat → Nat) (m i : Nat) : ∀ k, itp par (m + k) i = itp par k (itp par m i) := by
  intro k
  induction k with
  | zero => rfl
  | succ k ih =>
    show par (itp par (m + k) i) = par (itp par k (itp par m i))
    rw [ih]
theorem itp_le {par : Nat → Nat} (h : ∀ q, q < par q) (i : Nat) : ∀ k, i ≤ itp par k i := by
  intro k
  induction k with
  | zero => exact Nat.le_refl _
  | succ k ih => exact Nat.le_trans ih (Nat.le_of_lt (h _))
/-- c is an operand of the policy i, which is of level L -/
def xCh (X : xSt) (par : Nat → Nat) (i L : Nat) (c : Int32) : Prop := ∃ a : Nat, a < i ∧ c = nI a ∧ par a = i ∧ ¬ X.1 5 a = 0 ∧ ∃ M : Nat, M < L ∧ X.1 4 a = nI M
def xPW (X : xSt) (par : Nat → Nat) (i : Nat) : Prop :=
  (∃ k : Nat, k < 15 ∧ X.1 0 i = nI k) ∧ (∃ L : Nat, L < 8 ∧ 0 < L ∧ X.1 4 i = nI L ∧ (pA (X.1 0 i) → xCh X par i L (X.1 1 i)) ∧ (pB (X.1 0 i) → xCh X par i L (X.1 2 i))) ∧
  (pPair (X.1 0 i) → ¬ X.1 1 i = X.1 2 i) ∧ (X.1 0 i = 6 → (∃ a : Nat, a < 3 ∧ X.1 1 i = nI a) ∧ ∃ t : Nat, t < 4 ∧ X.1 6 i = nI t) ∧ (X.1 0 i = 5 → xSo (X.1 2 i)) ∧ (X.1 0 i = 14 → X.1 3 i = 0 ∨ X.1 3 i = 1 ∨ X.1 3 i = 4 ∨ X.1 3 i = 5)
def xWN (X : xSt) (N : Nat) (par : Nat → Nat) : Prop :=
  N ≤ 40 ∧ X.2 0 = nI N ∧ (X.2 5 = -1 ∨ ∃ j : Nat, j < N ∧ X.2 5 = nI j) ∧ (X.2 6 = 0 ∨ X.2 6 = 1) ∧ yT6 X ∧ (∀ i, N ≤ i → X.1 0 i = 0 ∧ X.1 6 i = 0) ∧ (∀ q, q < par q) ∧ ∀ i, i < N → xPW X par i
def xWF (X : xSt) : Prop := ∃ (N : Nat) (par : Nat → Nat), xWN X N par
theorem nI_inj {a b : Nat} (h : nI a = nI b) (ha : a < 2 ^ 31) (hb : b < 2 ^ 31) : a = b := by
  have := congrArg tn h
  rw [tn_nI ha, tn_nI hb] at this
  exact this
theorem wf_G {X : xSt} {N : Nat} {par : Nat → Nat} (h : xWN X N par) : ∀ (d i : Nat), i < N → (∃ L : Nat, L ≤ d ∧ X.1 4 i = nI L) → d < 8 → xG X d (nI i) := by
  intro d
  induction d with
  | zero =>
    intro i hi hL _
    obtain ⟨L, h1, h2⟩ := hL
    obtain ⟨-, ⟨M, h3, h4, h5, -⟩, -⟩ := h.2.2.2.2.2.2.2 i hi
    have := nI_inj (h2.symm.trans h5) (by omega) (by omega)
    omega
  | succ d ih =>
    intro i hi hL hd
    obtain ⟨L, h1, h2⟩ := hL
    obtain ⟨hk, ⟨M, h3, h4, h5, hA, hB⟩, -, h6, -⟩ := h.2.2.2.2.2.2.2 i hi
    have e := nI_inj (h2.symm.trans h5) (by omega) (by omega)
    have hi40 : i < 40 := Nat.lt_of_lt_of_le hi h.1
    have ht : tn (nI i) = i := tn_nI (by omega)
    refine ⟨vp_in_nI hi40 (by decide), ?_, ?_, ?_, ?_⟩
    · rw [ht]; exact hk
    · rw [ht]; intro q
      obtain ⟨a, a1, a2, -, -, Ma, a3, a4⟩ := hA q
      rw [a2]
      exact ih a (by omega) ⟨Ma, by omega, a4⟩ (by omega)
    · rw [ht]; intro q
      obtain ⟨a, a1, a2, -, -, Ma, a3, a4⟩ := hB q
      rw [a2]
      exact ih a (by omega) ⟨Ma, by omega, a4⟩ (by omega)
    · rw [ht]; exact h6
theorem wf_sub {X : xSt} {N : Nat} {par : Nat → Nat} (h : xWN X N par) : ∀ (d p i : Nat), p < N → xSub X d (nI p) i → i ≤ p ∧ ∃ m, itp par m i = p := by
  intro d
  induction d with
  | zero => intro p i _ hs; exact hs.elim
  | succ d ih =>
    intro p i hp hs
    obtain ⟨-, ⟨M, h3, h4, h5, hA, hB⟩, -⟩ := h.2.2.2.2.2.2.2 p hp
    have hp40 : p < 40 := Nat.lt_of_lt_of_le hp h.1
    have ht : tn (nI p) = p := tn_nI (by omega)
    unfold xSub at hs
    rw [ht] at hs
    rcases hs with q | ⟨q, hs⟩ | ⟨q, hs⟩
    · exact ⟨Nat.le_of_eq q, 0, q⟩
    · obtain ⟨a, a1, a2, a3, -⟩ := hA q
      rw [a2] at hs
      obtain ⟨b1, m, b2⟩ := ih a i (by omega) hs
      exact ⟨by omega, m + 1, by show par (itp par m i) = p; rw [b2, a3]⟩
    · obtain ⟨a, a1, a2, a3, -⟩ := hB q
      rw [a2] at hs
      obtain ⟨b1, m, b2⟩ := ih a i (by omega) hs
      exact ⟨by omega, m + 1, by show par (itp par m i) = p; rw [b2, a3]⟩
theorem wf_dis {par : Nat → Nat} (hpar : ∀ q, q < par q) {a b p i m n : Nat} (ha : par a = p) (hb : b < p) (hab : a ≠ b) (h1 : itp par m i = a) (h2 : itp par n i = b) (hle : m ≤ n) : False := by
  obtain ⟨k, rfl⟩ : ∃ k, n = m + k := ⟨n - m, by omega⟩
  rw [itp_add, h1] at h2
  cases k with
  | zero => exact hab h2
  | succ k =>
    rw [Nat.add_comm k 1, itp_add] at h2
    have e : itp par 1 a = p := ha
    rw [e] at h2
    have := itp_le hpar p k
    omega
theorem wf_Tr {X : xSt} {N : Nat} {par : Nat → Nat} (h : xWN X N par) : ∀ (d p : Nat), p < N → xG X d (nI p) → xTr X d (nI p) := by
  intro d
  induction d with
  | zero => intro p _ hg; exact hg.elim
  | succ d ih =>
    intro p hp hg
    obtain ⟨-, -, gA, gB, -⟩ := hg
    obtain ⟨-, ⟨M, h3, h4, h5, hA, hB⟩, hne, -⟩ := h.2.2.2.2.2.2.2 p hp
    have hp40 : p < 40 := Nat.lt_of_lt_of_le hp h.1
    have ht : tn (nI p) = p := tn_nI (by omega)
    unfold xTr
    rw [ht] at gA gB ⊢
    refine ⟨fun q => ?_, fun q => ?_, fun q i s1 s2 => ?_⟩
    · have g := gA q
      obtain ⟨a, a1, a2, a3, -⟩ := hA q
      rw [a2] at g ⊢
      exact ⟨ih a (by omega) g, fun s => by have := (wf_sub h d a p (by omega) s).1; omega⟩
    · have g := gB q
      obtain ⟨a, a1, a2, a3, -⟩ := hB q
      rw [a2] at g ⊢
      exact ⟨ih a (by omega) g, fun s => by have := (wf_sub h d a p (by omega) s).1; omega⟩
    · obtain ⟨a, a1, a2, a3, -⟩ := hA (Or.inl q)
      obtain ⟨b, b1, b2, b3, -⟩ := hB (Or.inl q)
      have hab : a ≠ b := fun z => hne q (by rw [a2, b2, z])
      rw [a2] at s1
      rw [b2] at s2
      obtain ⟨-, m, e1⟩ := wf_sub h d a i (by omega) s1
      obtain ⟨-, n, e2⟩ := wf_sub h d b i (by omega) s2
      rcases Nat.le_total m n with z | z
      · exact wf_dis h.2.2.2.2.2.2.1 a3 b1 hab e1 e2 z
      · exact wf_dis h.2.2.2.2.2.2.1 b3 a1 (fun z => hab z.symm) e2 e1 z
theorem wf_V {X : xSt} {N : Nat} {par : Nat → Nat} (h : xWN X N par) : xV X := fun i _ => by
  rcases Nat.lt_or_ge i N with q | q
  · obtain ⟨-, -, -, -, h5, h14⟩ := h.2.2.2.2.2.2.2 i q
    exact ⟨h5, h14⟩
  · have := (h.2.2.2.2.2.1 i q).1
    rw [this]
    exact ⟨fun z => absurd z (by decide), fun z => absurd z (by decide)⟩
/-- what acting and asking need of the state -/
def xI7 (X : xSt) : Prop := (X.2 5 = -1 ∨ (0 ≤ X.2 5 ∧ xG X 7 (X.2 5) ∧ xTr X 7 (X.2 5))) ∧ xV X ∧ yT6 X
theorem wf_7 {X : xSt} (hw : xWF X) : xI7 X := by
  obtain ⟨N, par, h⟩ := hw
  refine ⟨?_, wf_V h, h.2.2.2.2.1⟩
  rcases h.2.2.1 with q | ⟨j, h1, h2⟩
  · exact Or.inl q
  · obtain ⟨-, ⟨M, h3, h4, h5, -⟩, -⟩ := h.2.2.2.2.2.2.2 j h1
    have h40 := h.1
    have g := wf_G h 7 j h1 ⟨M, by omega, h5⟩ (by decide)
    rw [h2]
    exact Or.inr ⟨nI_le (a := 0) (b := j) (by omega) (by omega), g, wf_Tr h 7 j h1 g⟩
theorem wf_N {X : xSt} (hw : xWF X) : xN X := by
  obtain ⟨N, par, h⟩ := hw
  exact ⟨N, h.1, h.2.1⟩
theorem i7_inst {X : xSt} (h : xI7 X) : xInst X := h.1.elim Or.inl (fun q => Or.inr q.2.1)
theorem i7_keep {X Y : xSt} (h : xKeep X Y) (hi : xI7 X) : xI7 Y := by
  refine ⟨?_, xKeep_v h hi.2.1, fun i => ?_⟩
  · rw [h.2.1]
    rcases hi.1 with q | ⟨q1, q2, q3⟩
    · exact Or.inl q
    · exact Or.inr ⟨q1, xKeep_g h _ _ q2, (xTr_eq (h.1 0 (by decide) (by decide) (by decide) (by decide)) (h.1 1 (by decide) (by decide) (by decide) (by decide)) (h.1 2 (by decide) (by decide) (by decide) (by decide)) _ _).mpr q3⟩
  · rw [h.1 8 (by decide) (by decide) (by decide) (by decide)]; exact hi.2.2 i
