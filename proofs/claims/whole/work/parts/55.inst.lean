set_option maxHeartbeats 4000000 in
set_option maxRecDepth 100000 in
theorem lp_install {p : Program} {l : Launch} {e : Env} {R : Room} {s : State} {m : MethodId} {args : Array Value} {below : List Frame} {meth : Method} {c : Code} {Q : State → Prop} {D : va_G} {cI cZ cJ : ClassId} {q : Nat → Nat} {A : Nat → Prop} {u : Nat × Nat} {p1 : Int32} (h : kc_C p s m args c cX0_install 3 RX0 D vwCl (tyL cI cZ cJ) A) (x : xSt) (kk : ∀ i : Int32, kc_W p l e R s m args below meth c D vwCl A 3 Q 49 [(2, .int i), (0, .ref (q 0)), (1, .int p1)] [] (wX cI cZ q (xA x 6 (xZ (x.1 6)))) u) : ∀ (n k : Nat) (i : Int32) (f : Nat → Int32), i = nI k → k ≤ 40 → 40 - k < n → (∀ j, j < k → f j = 0) → (∀ j, k ≤ j → f j = x.1 6 j) → kc_W p l e R s m args below meth c D vwCl A 3 Q 30 [(2, .int i), (0, .ref (q 0)), (1, .int p1)] [] (wX cI cZ q (xA x 6 f)) u := by
  intro n
  induction n with
  | zero => intro k i f _ _ h; exact absurd h (by omega)
  | succ n ih =>
    intro k i f hi hk hn h0 h1
    refine kr_iload_n h dX0_install_30 rfl 0 rfl ?_
    refine kr_bipush (v := 40) h dX0_install_31 (by decide) ?_
    refine kr_icmp_ge h 49 dX0_install_33 (by decide) (fun c33 => ?_) (fun c33 => ?_)
    · have hk40 : k = 40 := by
        rcases Nat.lt_or_ge k 40 with z | z
        · exact absurd (by rw [hi] at c33; exact c33) (nI_ge z (by decide))
        · omega
      have hf : f = xZ (x.1 6) := funext fun j => by
        unfold xZ
        split
        · exact h0 j (by omega)
        · exact h1 j (by omega)
      rw [hf]
      exact kk i
    · have hk40 : k < 40 := by
        rcases Nat.lt_or_ge k 40 with z | z
        · exact z
        · exact absurd (by rw [hi]; exact nI_le z (by omega)) c33
      refine kr_aload_n h dX0_install_36 rfl 1 rfl ?_
      refine kr_get h FX0ok 0 6 dX0_install_37 flX0_29 rfl rfl (by decide) rfl rfl ?_
      refine kr_iload_n h dX0_install_40 rfl 0 rfl ?_
      refine kr_iconst (v := 0) h dX0_install_41 (by decide) ?_
      refine kr_iast (ws' := wX cI cZ q (xA (xA x 6 f) 6 (upd ((xA x 6 f).1 6) (tn i) 0))) h 7 0 dX0_install_42 rfl rfl (by rw [hi]; exact vp_in_nI (by omega) (by decide)) (wX_r6 cI cZ q (xA x 6 f) _) ?_
      obtain ⟨v43, e43⟩ : ∃ z : Int32, z = i + 1 := ⟨_, rfl⟩
      refine kr_iinc (lv' := [(2, .int v43), (0, .ref (q 0)), (1, .int p1)]) (k := 0) h dX0_install_43 rfl (by rw [e43]; rfl) (by decide) rfl ?_
      refine kr_goto h 30 dX0_install_46 (by decide) ?_
      exact ih (k + 1) v43 _ (by rw [e43, hi]; exact nI_1 k) (by omega) (by omega) (xFill hi (by omega) h0 h1).1 (xFill hi (by omega) h0 h1).2
set_option maxHeartbeats 4000000 in
set_option maxRecDepth 100000 in
theorem c_install (l : Launch) (hst : l.stackTraces = false) (D : va_G) (cI cZ cJ : ClassId) (q : Nat → Nat) (x : xSt) (p : Int32) : kc_MX l yX0_install cX0_install 3 (some .int) 6 90 1 6 [.ref (q 0), .int p] D vwCl (tyL cI cZ cJ) (wX cI cZ q x) (xInsO x p) (wX cI cZ q (xInsX x p)) := by
  refine kc_startX RX0 (by decide +kernel) rfl (Nat.le_of_ble_eq_true rfl) ?_
  intro zp ze zs zm zb zt zc h hr hlk hnh hT
  refine kr_aload_n h dX0_install_0 rfl 0 rfl ?_
  refine kr_iload_n h dX0_install_1 rfl 1 rfl ?_
  refine kr_iA h (kc_rV h (c_isPolicy l D cI cZ cJ q x p) mlX0_105 yvX0_isPolicy dX0_install_2 rfl rfl ⟨Nat.le_of_ble_eq_true rfl, Nat.le_of_ble_eq_true rfl⟩ ⟨Nat.le_of_ble_eq_true rfl, Nat.le_of_ble_eq_true rfl⟩ (Nat.le_of_ble_eq_true rfl) [0, 1, 2, 3, 4, 5, 6, 7, 8, 9, 10, 11] rfl rfl 0 rfl rfl rfl) (fun v2 e2 => ?_)
  refine kr_if_ne h 18 dX0_install_5 (by decide) (fun c5 => ?_) (fun c5 => ?_)
  · refine kr_aload_n h dX0_install_18 rfl 0 rfl ?_
    refine kr_iload_n h dX0_install_19 rfl 1 rfl ?_
    refine kr_put (ws' := wX cI cZ q (xI x 5 p)) h FX0ok 0 16 dX0_install_20 flX0_44 rfl rfl (by decide) rfl rfl rfl rfl (Nat.le_of_ble_eq_true rfl) rfl ?_
    refine kr_aload_n h dX0_install_23 rfl 0 rfl ?_
    refine kr_iconst (v := 0) h dX0_install_24 (by decide) ?_
    refine kr_put (ws' := wX cI cZ q (xI (xI x 5 p) 6 0)) h FX0ok 0 17 dX0_install_25 flX0_110 rfl rfl (by decide) rfl rfl rfl rfl (Nat.le_of_ble_eq_true rfl) rfl ?_
    refine kr_iconst (v := 0) h dX0_install_28 (by decide) ?_
    refine kr_istore_n (lv' := [(2, .int 0), (0, .ref (q 0)), (1, .int p)]) h dX0_install_29 rfl (by decide) rfl ?_
    refine lp_install h (xIns x p) (fun i => ?_) 41 0 0 (x.1 6) rfl (by omega) (by omega) (fun j hj => absurd hj (by omega)) (fun j _ => rfl)
    refine kr_iconst (v := 0) h dX0_install_49 (by decide) ?_
    exact kr_iretX h hr hlk dX0_install_50 (if_pos (xb_t e2 c5)) (congrArg _ (if_pos (xb_t e2 c5)).symm) (Nat.zero_le _) (Nat.zero_le _)
  · exact kr_throw (tx := "no such policy") h hlk hnh hT hst tx_63 (by decide +kernel) dX0_install_8 dX0_install_11 dX0_install_12 dX0_install_14 dX0_install_17 (Nat.le_of_ble_eq_true rfl) (Nat.le_of_ble_eq_true rfl) (Nat.le_of_ble_eq_true rfl) (Nat.le_of_ble_eq_true rfl) (Nat.le_of_ble_eq_true rfl) (Nat.le_of_ble_eq_true rfl) (if_neg (xb_f e2 c5)) (congrArg _ (if_neg (xb_f e2 c5)).symm)
