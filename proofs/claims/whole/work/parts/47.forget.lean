set_option maxHeartbeats 4000000 in
set_option maxRecDepth 100000 in
theorem lp_forget {p : Program} {l : Launch} {e : Env} {R : Room} {s : State} {m : MethodId} {args : Array Value} {below : List Frame} {meth : Method} {c : Code} {Q : State → Prop} {D : va_G} {cI cZ cJ : ClassId} {q : Nat → Nat} {A : Nat → Prop} {u : Nat × Nat} (h : kc_C p s m args c cX0_forgetSpent 2 RX0 D vwCl (tyL cI cZ cJ) A) (x : xSt) (kk : ∀ i : Int32, kc_W p l e R s m args below meth c D vwCl A 2 Q 21 [(1, .int i), (0, .ref (q 0))] [] (wX cI cZ q (xA x 7 (xZ (x.1 7)))) u) : ∀ (n k : Nat) (i : Int32) (f : Nat → Int32), i = nI k → k ≤ 40 → 40 - k < n → (∀ j, j < k → f j = 0) → (∀ j, k ≤ j → f j = x.1 7 j) → kc_W p l e R s m args below meth c D vwCl A 2 Q 2 [(1, .int i), (0, .ref (q 0))] [] (wX cI cZ q (xA x 7 f)) u := by
  intro n
  induction n with
  | zero => intro k i f _ _ h; exact absurd h (by omega)
  | succ n ih =>
    intro k i f hi hk hn h0 h1
    refine kr_iload_n h dX0_forgetSpent_2 rfl 0 rfl ?_
    refine kr_bipush (v := 40) h dX0_forgetSpent_3 (by decide) ?_
    refine kr_icmp_ge h 21 dX0_forgetSpent_5 (by decide) (fun c5 => ?_) (fun c5 => ?_)
    · have hk40 : k = 40 := by
        rcases Nat.lt_or_ge k 40 with z | z
        · exact absurd (by rw [hi] at c5; exact c5) (nI_ge z (by decide))
        · omega
      have hf : f = xZ (x.1 7) := funext fun j => by
        unfold xZ
        split
        · exact h0 j (by omega)
        · exact h1 j (by omega)
      rw [hf]
      exact kk i
    · have hk40 : k < 40 := by
        rcases Nat.lt_or_ge k 40 with z | z
        · exact z
        · exact absurd (by rw [hi]; exact nI_le z (by omega)) c5
      refine kr_aload_n h dX0_forgetSpent_8 rfl 1 rfl ?_
      refine kr_get h FX0ok 0 7 dX0_forgetSpent_9 flX0_32 rfl rfl (by decide) rfl rfl ?_
      refine kr_iload_n h dX0_forgetSpent_12 rfl 0 rfl ?_
      refine kr_iconst (v := 0) h dX0_forgetSpent_13 (by decide) ?_
      refine kr_zastN (ws' := wX cI cZ q (xA (xA x 7 f) 7 (upd ((xA x 7 f).1 7) (tn i) 0))) h 8 1 kc_n0 dX0_forgetSpent_14 rfl rfl (by rw [hi]; exact vp_in_nI (by omega) (by decide)) (wX_r7 cI cZ q (xA x 7 f) _) ?_
      obtain ⟨v15, e15⟩ : ∃ z : Int32, z = i + 1 := ⟨_, rfl⟩
      refine kr_iinc (lv' := [(1, .int v15), (0, .ref (q 0))]) (k := 0) h dX0_forgetSpent_15 rfl (by rw [e15]; rfl) (by decide) rfl ?_
      refine kr_goto h 2 dX0_forgetSpent_18 (by decide) ?_
      exact ih (k + 1) v15 _ (by rw [e15, hi]; exact nI_1 k) (by omega) (by omega) (xFill hi (by omega) h0 h1).1 (xFill hi (by omega) h0 h1).2
set_option maxHeartbeats 4000000 in
set_option maxRecDepth 100000 in
theorem c_forgetSpent (l : Launch) (D : va_G) (cI cZ cJ : ClassId) (q : Nat → Nat) (x : xSt) : kc_M l yX0_forgetSpent cX0_forgetSpent 2 none 0 0 0 0 [.ref (q 0)] D vwCl (tyL cI cZ cJ) (wX cI cZ q x) none (wX cI cZ q (xA x 7 (xZ (x.1 7)))) := by
  refine kc_start RX0 (by decide +kernel) rfl (Nat.le_of_ble_eq_true rfl) ?_
  intro zp ze zs zm zb zt zc h hr hlk hnm
  refine kr_iconst (v := 0) h dX0_forgetSpent_0 (by decide) ?_
  refine kr_istore_n (lv' := [(1, .int 0), (0, .ref (q 0))]) h dX0_forgetSpent_1 rfl (by decide) rfl ?_
  refine lp_forget h x (fun i => ?_) 41 0 0 (x.1 7) rfl (by omega) (by omega) (fun j hj => absurd hj (by omega)) (fun j _ => rfl)
  exact kr_vret h hr hlk dX0_forgetSpent_21 rfl
