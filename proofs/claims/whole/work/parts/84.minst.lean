set_option maxHeartbeats 4000000 in
set_option maxRecDepth 100000 in
theorem lp_yinst {p : Program} {l : Launch} {e : Env} {R : Room} {s : State} {m : MethodId} {args : Array Value} {below : List Frame} {meth : Method} {c : Code} {Q : State → Prop} {D : va_G} {cI cZ cJ : ClassId} {q : Nat → Nat} {A : Nat → Prop} {u : Nat × Nat} {p1 : Int32} (h : kc_C p s m args c cX1_install 3 RX1 D vwCl (tyL cI cZ cJ) A) (x : xSt) (kk : ∀ i : Int32, kc_W p l e R s m args below meth c D vwCl A 3 Q 45 [(2, .int i), (0, .ref (q 0)), (1, .int p1)] [] (wY cI cZ q (xA x 5 (xZ (x.1 5)))) u) : ∀ (n k : Nat) (i : Int32) (f : Nat → Int32), i = nI k → k ≤ 40 → 40 - k < n → (∀ j, j < k → f j = 0) → (∀ j, k ≤ j → f j = x.1 5 j) → kc_W p l e R s m args below meth c D vwCl A 3 Q 26 [(2, .int i), (0, .ref (q 0)), (1, .int p1)] [] (wY cI cZ q (xA x 5 f)) u := by
  intro n
  induction n with
  | zero => intro k i f _ _ h; exact absurd h (by omega)
  | succ n ih =>
    intro k i f hi hk hn h0 h1
    refine kr_iload_n h dX1_install_26 rfl 0 rfl ?_
    refine kr_bipush (v := 40) h dX1_install_27 (by decide) ?_
    refine kr_icmp_ge h 45 dX1_install_29 (by decide) (fun c29 => ?_) (fun c29 => ?_)
    · have hk40 : k = 40 := by
        rcases Nat.lt_or_ge k 40 with z | z
        · exact absurd (by rw [hi] at c29; exact c29) (nI_ge z (by decide))
        · omega
      have hf : f = xZ (x.1 5) := funext fun j => by
        unfold xZ
        split
        · exact h0 j (by omega)
        · exact h1 j (by omega)
      rw [hf]
      exact kk i
    · have hk40 : k < 40 := by
        rcases Nat.lt_or_ge k 40 with z | z
        · exact z
        · exact absurd (by rw [hi]; exact nI_le z (by omega)) c29
      refine kr_aload_n h dX1_install_32 rfl 1 rfl ?_
      refine kr_get h FX1ok 0 14 dX1_install_33 flX1_54 rfl rfl (by decide) rfl rfl ?_
      refine kr_iload_n h dX1_install_36 rfl 0 rfl ?_
      refine kr_iconst (v := 0) h dX1_install_37 (by decide) ?_
      refine kr_iast (ws' := wY cI cZ q (xA (xA x 5 f) 5 (upd ((xA x 5 f).1 5) (tn i) 0))) h 6 0 dX1_install_38 rfl rfl (by rw [hi]; exact vp_in_nI (by omega) (by decide)) (wY_r5 cI cZ q (xA x 5 f) _) ?_
      obtain ⟨v39, e39⟩ : ∃ z : Int32, z = i + 1 := ⟨_, rfl⟩
      refine kr_iinc (lv' := [(2, .int v39), (0, .ref (q 0)), (1, .int p1)]) (k := 0) h dX1_install_39 rfl (by rw [e39]; rfl) (by decide) rfl ?_
      refine kr_goto h 26 dX1_install_42 (by decide) ?_
      exact ih (k + 1) v39 _ (by rw [e39, hi]; exact nI_1 k) (by omega) (by omega) (xFill hi (by omega) h0 h1).1 (xFill hi (by omega) h0 h1).2
set_option maxHeartbeats 4000000 in
set_option maxRecDepth 100000 in
theorem m_install (l : Launch) (D : va_G) (cI cZ cJ : ClassId) (q : Nat → Nat) (x : xSt) (p : Int32) : kc_M l yX1_install cX1_install 3 (some .int) 1 21 0 0 [.ref (q 0), .int p] D vwCl (tyL cI cZ cJ) (wY cI cZ q x) (some (.int (0))) (wY cI cZ q (yInsX x p)) := by
  refine kc_start RX1 (by decide +kernel) rfl (Nat.le_of_ble_eq_true rfl) ?_
  intro zp ze zs zm zb zt zc h hr hlk hnm
  refine kr_aload_n h dX1_install_0 rfl 0 rfl ?_
  refine kr_iload_n h dX1_install_1 rfl 1 rfl ?_
  refine kr_iA h (kc_rV h (m_no l D cI cZ cJ q x p) mlX1_112 yvX1_no dX1_install_2 rfl rfl ⟨Nat.le_of_ble_eq_true rfl, Nat.le_of_ble_eq_true rfl⟩ ⟨Nat.le_of_ble_eq_true rfl, Nat.le_of_ble_eq_true rfl⟩ (Nat.le_of_ble_eq_true rfl) [0, 1, 2, 3, 4, 5, 6, 7, 8, 9, 10, 11, 12, 13, 14, 15, 16, 17, 18, 19] rfl rfl 0 rfl rfl rfl) (fun v2 e2 => ?_)
  refine kr_if_eq h 14 dX1_install_5 (by decide) (fun c5 => ?_) (fun c5 => ?_)
  · refine kr_aload_n h dX1_install_14 rfl 0 rfl ?_
    refine kr_iload_n h dX1_install_15 rfl 1 rfl ?_
    refine kr_put (ws' := wY cI cZ q (xI x 1 p)) h FX1ok 0 1 dX1_install_16 flX1_13 rfl rfl (by decide) rfl rfl rfl rfl (Nat.le_of_ble_eq_true rfl) rfl ?_
    refine kr_aload_n h dX1_install_19 rfl 0 rfl ?_
    refine kr_iconst (v := 0) h dX1_install_20 (by decide) ?_
    refine kr_put (ws' := wY cI cZ q (xI (xI x 1 p) 8 0)) h FX1ok 0 8 dX1_install_21 flX1_34 rfl rfl (by decide) rfl rfl rfl rfl (Nat.le_of_ble_eq_true rfl) rfl ?_
    refine kr_iconst (v := 0) h dX1_install_24 (by decide) ?_
    refine kr_istore_n (lv' := [(2, .int 0), (0, .ref (q 0)), (1, .int p)]) h dX1_install_25 rfl (by decide) rfl ?_
    refine lp_yinst h (xI (xI x 1 p) 8 0) (fun i => ?_) 41 0 0 (x.1 5) rfl (by omega) (by omega) (fun j hj => absurd hj (by omega)) (fun j _ => rfl)
    refine kr_aload_n h dX1_install_45 rfl 1 rfl ?_
    refine kr_iconst (v := 0) h dX1_install_46 (by decide) ?_
    refine kr_iA h (kc_rV h (m_fine l D cI cZ cJ q (xA (xI (xI x 1 p) 8 0) 5 (xZ ((xI (xI x 1 p) 8 0).1 5))) 0) mlX1_105 yvX1_fine dX1_install_47 rfl rfl ⟨Nat.le_of_ble_eq_true rfl, Nat.le_of_ble_eq_true rfl⟩ ⟨Nat.le_of_ble_eq_true rfl, Nat.le_of_ble_eq_true rfl⟩ (Nat.le_of_ble_eq_true rfl) [0, 1, 2, 3, 4, 5, 6, 7, 8, 9, 10, 11, 12, 13, 14, 15, 16, 17, 18, 19] rfl rfl 0 rfl rfl rfl) (fun v47 e47 => ?_)
    exact kr_iret h hr hlk dX1_install_50 (e47) (congrArg _ (if_neg (xb_f e2 c5)).symm)
  · refine kr_aload_n h dX1_install_8 rfl 0 rfl ?_
    refine kr_iconst (v := 1) h dX1_install_9 (by decide) ?_
    refine kr_iA h (kc_rV h (m_fail l D cI cZ cJ q x 1) mlX1_101 yvX1_fail dX1_install_10 rfl rfl ⟨Nat.le_of_ble_eq_true rfl, Nat.le_of_ble_eq_true rfl⟩ ⟨Nat.le_of_ble_eq_true rfl, Nat.le_of_ble_eq_true rfl⟩ (Nat.le_of_ble_eq_true rfl) [0, 1, 2, 3, 4, 5, 6, 7, 8, 9, 10, 11, 12, 13, 14, 15, 16, 17, 18, 19] rfl rfl 0 rfl rfl rfl) (fun v10 e10 => ?_)
    exact kr_iret h hr hlk dX1_install_13 (e10) (congrArg _ (if_pos (xb_t e2 c5)).symm)
