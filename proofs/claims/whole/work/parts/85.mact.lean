set_option maxHeartbeats 4000000 in
set_option maxRecDepth 100000 in
theorem lp_yact {p : Program} {l : Launch} {e : Env} {R : Room} {s : State} {m : MethodId} {args : Array Value} {below : List Frame} {meth : Method} {c : Code} {Q : State → Prop} {D : va_G} {cI cZ cJ : ClassId} {q : Nat → Nat} {A : Nat → Prop} {u : Nat × Nat} {c1 s1 v1 : Int32} (h : kc_C p s m args c cX1_act 5 RX1 D vwCl (tyL cI cZ cJ) A) (x : xSt) (kk : ∀ i : Int32, kc_W p l e R s m args below meth c D vwCl A 5 Q 71 [(4, .int i), (3, .int c1), (0, .ref (q 0)), (1, .int s1), (2, .int v1)] [] (wY cI cZ q (yClr x)) u) : ∀ (n k : Nat) (i : Int32) (f : Nat → Int32), i = nI k → k ≤ 40 → 40 - k < n → (∀ j, j < k → f j = 0) → (∀ j, k ≤ j → f j = x.1 7 j) → kc_W p l e R s m args below meth c D vwCl A 5 Q 50 [(4, .int i), (3, .int c1), (0, .ref (q 0)), (1, .int s1), (2, .int v1)] [] (wY cI cZ q (xA x 7 f)) u := by
  intro n
  induction n with
  | zero => intro k i f _ _ h; exact absurd h (by omega)
  | succ n ih =>
    intro k i f hi hk hn h0 h1
    refine kr_iload h dX1_act_50 0 rfl ?_
    refine kr_bipush (v := 40) h dX1_act_52 (by decide) ?_
    refine kr_icmp_ge h 71 dX1_act_54 (by decide) (fun c54 => ?_) (fun c54 => ?_)
    · have hk40 : k = 40 := by
        rcases Nat.lt_or_ge k 40 with z | z
        · exact absurd (by rw [hi] at c54; exact c54) (nI_ge z (by decide))
        · omega
      have hf : f = xZ (x.1 7) := funext fun j => by
        unfold xZ
        split
        · exact h0 j (by omega)
        · exact h1 j (by omega)
      rw [hf]
      exact kk i
    · have hk40 : k < 40 := by
        rcases Nat.lt_or_ge k 40 with z | z
        · exact z
        · exact absurd (by rw [hi]; exact nI_le z (by omega)) c54
      refine kr_aload_n h dX1_act_57 rfl 2 rfl ?_
      refine kr_get h FX1ok 0 16 dX1_act_58 flX1_61 rfl rfl (by decide) rfl rfl ?_
      refine kr_iload h dX1_act_61 0 rfl ?_
      refine kr_iconst (v := 0) h dX1_act_63 (by decide) ?_
      refine kr_zastN (ws' := wY cI cZ q (xA (xA x 7 f) 7 (upd ((xA x 7 f).1 7) (tn i) 0))) h 8 1 kc_n0 dX1_act_64 rfl rfl (by rw [hi]; exact vp_in_nI (by omega) (by decide)) (wY_r7 cI cZ q (xA x 7 f) _) ?_
      obtain ⟨v65, e65⟩ : ∃ z : Int32, z = i + 1 := ⟨_, rfl⟩
      refine kr_iinc (lv' := [(4, .int v65), (3, .int c1), (0, .ref (q 0)), (1, .int s1), (2, .int v1)]) (k := 0) h dX1_act_65 rfl (by rw [e65]; rfl) (by decide) rfl ?_
      refine kr_goto h 50 dX1_act_68 (by decide) ?_
      exact ih (k + 1) v65 _ (by rw [e65, hi]; exact nI_1 k) (by omega) (by omega) (xFill hi (by omega) h0 h1).1 (xFill hi (by omega) h0 h1).2
set_option maxHeartbeats 4000000 in
set_option maxRecDepth 100000 in
theorem m_act (l : Launch) (D : va_G) (cI cZ cJ : ClassId) (q : Nat → Nat) (x : xSt) (s v : Int32) (hW : yW x) : kc_M l yX1_act cX1_act 5 (some .int) 6 155 0 0 [.ref (q 0), .int s, .int v] D vwCl (tyL cI cZ cJ) (wY cI cZ q x) (some (.int (yActR x s v))) (wY cI cZ q (yActX x s v)) := by
  refine kc_start RX1 (by decide +kernel) rfl (Nat.le_of_ble_eq_true rfl) ?_
  intro zp ze zs zm zb zt zc h hr hlk hnm
  refine kr_aload_n h dX1_act_0 rfl 0 rfl ?_
  refine kr_iload_n h dX1_act_1 rfl 1 rfl ?_
  refine kr_iconst (v := 0) h dX1_act_2 (by decide) ?_
  refine kr_bipush (v := 7) h dX1_act_3 (by decide) ?_
  refine kr_iA h (kc_rV h (m_out l D cI cZ cJ q x s 0 7) mlX1_97 yvX1_out dX1_act_5 rfl rfl ⟨Nat.le_of_ble_eq_true rfl, Nat.le_of_ble_eq_true rfl⟩ ⟨Nat.le_of_ble_eq_true rfl, Nat.le_of_ble_eq_true rfl⟩ (Nat.le_of_ble_eq_true rfl) [0, 1, 2, 3, 4, 5, 6, 7, 8, 9, 10, 11, 12, 13, 14, 15, 16, 17, 18, 19] rfl rfl 0 rfl rfl rfl) (fun v5 e5 => ?_)
  refine kr_if_eq h 17 dX1_act_8 (by decide) (fun c8 => ?_) (fun c8 => ?_)
  · refine kr_aload_n h dX1_act_17 rfl 0 rfl ?_
    refine kr_get h FX1ok 0 26 dX1_act_18 flX1_91 rfl rfl (by decide) rfl rfl ?_
    refine kr_iconst (v := 0) h dX1_act_21 (by decide) ?_
    refine kr_iload_n h dX1_act_22 rfl 1 rfl ?_
    refine kr_iast (ws' := wY cI cZ q (xA x 17 (upd (x.1 17) (tn 0) s))) h 18 0 dX1_act_23 rfl rfl (show vp_in (nI 0) 6 from vp_in_nI (by decide) (by decide)) (wY_r17 cI cZ q x _) ?_
    refine kr_aload_n h dX1_act_24 rfl 0 rfl ?_
    refine kr_get h FX1ok 0 27 dX1_act_25 flX1_94 rfl rfl (by decide) rfl rfl ?_
    refine kr_iconst (v := 0) h dX1_act_28 (by decide) ?_
    refine kr_iload_n h dX1_act_29 rfl 2 rfl ?_
    refine kr_iast (ws' := wY cI cZ q (xA (xA x 17 (upd (x.1 17) (tn 0) s)) 18 (upd ((xA x 17 (upd (x.1 17) (tn 0) s)).1 18) (tn 0) v))) h 19 0 dX1_act_30 rfl rfl (show vp_in (nI 0) 6 from vp_in_nI (by decide) (by decide)) (wY_r18 cI cZ q (xA x 17 (upd (x.1 17) (tn 0) s)) _) ?_
    refine kr_aload_n h dX1_act_31 rfl 0 rfl ?_
    refine kr_get h FX1ok 0 8 dX1_act_32 flX1_34 rfl rfl (by decide) rfl rfl ?_
    refine kr_top h (fun v32 e32 => ?_)
    refine kr_if_eq h 42 dX1_act_35 (by decide) (fun c35 => ?_) (fun c35 => ?_)
    · refine kr_aload_n h dX1_act_42 rfl 0 rfl ?_
      refine kr_iA h (kc_rV h (m_acting l D cI cZ cJ q (yBeg x s v) (yW_beg hW) (by show xSo s; exact pOut_in (xb_f e5 c8))) mlX1_158 yvX1_acting dX1_act_43 rfl rfl ⟨Nat.le_of_ble_eq_true rfl, Nat.le_of_ble_eq_true rfl⟩ ⟨Nat.le_of_ble_eq_true rfl, Nat.le_of_ble_eq_true rfl⟩ (Nat.le_of_ble_eq_true rfl) [0, 1, 2, 3, 4, 5, 6, 7, 8, 9, 10, 11, 12, 13, 14, 15, 16, 17, 18, 19] rfl rfl 0 rfl rfl rfl) (fun v43 e43 => ?_)
      refine kr_istore_n (lv' := [(3, .int v43), (0, .ref (q 0)), (1, .int s), (2, .int v)]) h dX1_act_46 rfl (by decide) rfl ?_
      refine kr_iconst (v := 0) h dX1_act_47 (by decide) ?_
      refine kr_istore (lv' := [(4, .int 0), (3, .int v43), (0, .ref (q 0)), (1, .int s), (2, .int v)]) h dX1_act_48 (by decide) rfl ?_
      first | have hQ : yActQ x s v = (2, yBeg x s v) := if_neg (fun z => c35 (e32.trans z)) | have hQ : yActQ x s v = yLev 4 (yBeg x s v) := if_pos (e32.symm.trans c35)
      refine lp_yact h (yLev 4 (yBeg x s v)).2 (fun i => ?_) 41 0 0 ((yLev 4 (yBeg x s v)).2.1 7) rfl (by omega) (by omega) (fun j hj => absurd hj (by omega)) (fun j _ => rfl)
      refine kr_iload_n h dX1_act_71 rfl 1 rfl ?_
      refine kr_if_ne h 84 dX1_act_72 (by decide) (fun c72 => ?_) (fun c72 => ?_)
      · refine kr_aload_n h dX1_act_84 rfl 2 rfl ?_
        refine kr_dup h dX1_act_85 rfl ?_
        refine kr_get h FX1ok 0 5 dX1_act_86 flX1_25 rfl rfl (by decide) rfl rfl ?_
        refine kr_top h (fun v86 e86 => ?_)
        refine kr_iconst (v := 1) h dX1_act_89 (by decide) ?_
        refine kr_iadd h dX1_act_90 (fun v90 e90 => ?_)
        refine kr_put (ws' := wY cI cZ q (xI (yClr (yLev 4 (yBeg x s v)).2) 5 v90)) h FX1ok 0 5 dX1_act_91 flX1_25 rfl rfl (by decide) rfl rfl rfl rfl (Nat.le_of_ble_eq_true rfl) rfl ?_
        refine kr_aload_n h dX1_act_94 rfl 2 rfl ?_
        refine kr_iload_n h dX1_act_95 rfl 1 rfl ?_
        refine kr_iA h (kc_rV h (m_fail l D cI cZ cJ q (xI (yClr (yLev 4 (yBeg x s v)).2) 5 v90) v43) mlX1_101 yvX1_fail dX1_act_96 rfl rfl ⟨Nat.le_of_ble_eq_true rfl, Nat.le_of_ble_eq_true rfl⟩ ⟨Nat.le_of_ble_eq_true rfl, Nat.le_of_ble_eq_true rfl⟩ (Nat.le_of_ble_eq_true rfl) [0, 1, 2, 3, 4, 5, 6, 7, 8, 9, 10, 11, 12, 13, 14, 15, 16, 17, 18, 19] rfl rfl 0 rfl rfl rfl) (fun v96 e96 => ?_)
        exact kr_iret h hr hlk dX1_act_99 (e96.trans (by rw [yActR, if_neg (xb_f e5 c8), hQ]; first | rw [if_neg (fun z => c72 (e43.trans z))] | rw [if_neg (show ¬ (2 : Int32) = 0 by decide)])) (congrArg _ (by rw [yActX, if_neg (xb_f e5 c8), hQ]; first | rw [if_neg (fun z => c72 (e43.trans z)), e90, e86, e43] | (rw [if_neg (show ¬ (2 : Int32) = 0 by decide), e90, e86]; rfl)))
      · refine kr_aload_n h dX1_act_75 rfl 2 rfl ?_
        refine kr_aload_n h dX1_act_76 rfl 2 rfl ?_
        refine kr_get h FX1ok 0 7 dX1_act_77 flX1_31 rfl rfl (by decide) rfl rfl ?_
        refine kr_top h (fun v77 e77 => ?_)
        refine kr_iA h (kc_rV h (m_fine l D cI cZ cJ q (yClr (yLev 4 (yBeg x s v)).2) v77) mlX1_105 yvX1_fine dX1_act_80 rfl rfl ⟨Nat.le_of_ble_eq_true rfl, Nat.le_of_ble_eq_true rfl⟩ ⟨Nat.le_of_ble_eq_true rfl, Nat.le_of_ble_eq_true rfl⟩ (Nat.le_of_ble_eq_true rfl) [0, 1, 2, 3, 4, 5, 6, 7, 8, 9, 10, 11, 12, 13, 14, 15, 16, 17, 18, 19] rfl rfl 0 rfl rfl rfl) (fun v80 e80 => ?_)
        exact kr_iret h hr hlk dX1_act_83 (by rw [yActR, if_neg (xb_f e5 c8), hQ, if_pos (e43.symm.trans c72)]; exact e80.trans e77) (congrArg _ (by rw [yActX, if_neg (xb_f e5 c8), hQ, if_pos (e43.symm.trans c72)]))
    · refine kr_iconst (v := 2) h dX1_act_38 (by decide) ?_
      refine kr_goto h 46 dX1_act_39 (by decide) ?_
      refine kr_istore_n (lv' := [(3, .int 2), (0, .ref (q 0)), (1, .int s), (2, .int v)]) h dX1_act_46 rfl (by decide) rfl ?_
      refine kr_iconst (v := 0) h dX1_act_47 (by decide) ?_
      refine kr_istore (lv' := [(4, .int 0), (3, .int 2), (0, .ref (q 0)), (1, .int s), (2, .int v)]) h dX1_act_48 (by decide) rfl ?_
      first | have hQ : yActQ x s v = (2, yBeg x s v) := if_neg (fun z => c35 (e32.trans z)) | have hQ : yActQ x s v = yLev 4 (yBeg x s v) := if_pos (e32.symm.trans c35)
      refine lp_yact h (xA (xA x 17 (upd (x.1 17) (tn 0) s)) 18 (upd ((xA x 17 (upd (x.1 17) (tn 0) s)).1 18) (tn 0) v)) (fun i => ?_) 41 0 0 ((xA (xA x 17 (upd (x.1 17) (tn 0) s)) 18 (upd ((xA x 17 (upd (x.1 17) (tn 0) s)).1 18) (tn 0) v)).1 7) rfl (by omega) (by omega) (fun j hj => absurd hj (by omega)) (fun j _ => rfl)
      refine kr_iload_n h dX1_act_71 rfl 1 rfl ?_
      refine kr_if_ne h 84 dX1_act_72 (by decide) (fun c72 => ?_) (fun c72 => ?_)
      · refine kr_aload_n h dX1_act_84 rfl 2 rfl ?_
        refine kr_dup h dX1_act_85 rfl ?_
        refine kr_get h FX1ok 0 5 dX1_act_86 flX1_25 rfl rfl (by decide) rfl rfl ?_
        refine kr_top h (fun v86 e86 => ?_)
        refine kr_iconst (v := 1) h dX1_act_89 (by decide) ?_
        refine kr_iadd h dX1_act_90 (fun v90 e90 => ?_)
        refine kr_put (ws' := wY cI cZ q (xI (yClr (xA (xA x 17 (upd (x.1 17) (tn 0) s)) 18 (upd ((xA x 17 (upd (x.1 17) (tn 0) s)).1 18) (tn 0) v))) 5 v90)) h FX1ok 0 5 dX1_act_91 flX1_25 rfl rfl (by decide) rfl rfl rfl rfl (Nat.le_of_ble_eq_true rfl) rfl ?_
        refine kr_aload_n h dX1_act_94 rfl 2 rfl ?_
        refine kr_iload_n h dX1_act_95 rfl 1 rfl ?_
        refine kr_iA h (kc_rV h (m_fail l D cI cZ cJ q (xI (yClr (xA (xA x 17 (upd (x.1 17) (tn 0) s)) 18 (upd ((xA x 17 (upd (x.1 17) (tn 0) s)).1 18) (tn 0) v))) 5 v90) 2) mlX1_101 yvX1_fail dX1_act_96 rfl rfl ⟨Nat.le_of_ble_eq_true rfl, Nat.le_of_ble_eq_true rfl⟩ ⟨Nat.le_of_ble_eq_true rfl, Nat.le_of_ble_eq_true rfl⟩ (Nat.le_of_ble_eq_true rfl) [0, 1, 2, 3, 4, 5, 6, 7, 8, 9, 10, 11, 12, 13, 14, 15, 16, 17, 18, 19] rfl rfl 0 rfl rfl rfl) (fun v96 e96 => ?_)
        exact kr_iret h hr hlk dX1_act_99 (e96.trans (by rw [yActR, if_neg (xb_f e5 c8), hQ]; first | rw [if_neg (fun z => c72 (e43.trans z))] | rw [if_neg (show ¬ (2 : Int32) = 0 by decide)])) (congrArg _ (by rw [yActX, if_neg (xb_f e5 c8), hQ]; first | rw [if_neg (fun z => c72 (e43.trans z)), e90, e86, e43] | (rw [if_neg (show ¬ (2 : Int32) = 0 by decide), e90, e86]; rfl)))
      · exact absurd c72 (by decide)
  · refine kr_aload_n h dX1_act_11 rfl 0 rfl ?_
    refine kr_iconst (v := 1) h dX1_act_12 (by decide) ?_
    refine kr_iA h (kc_rV h (m_fail l D cI cZ cJ q x 1) mlX1_101 yvX1_fail dX1_act_13 rfl rfl ⟨Nat.le_of_ble_eq_true rfl, Nat.le_of_ble_eq_true rfl⟩ ⟨Nat.le_of_ble_eq_true rfl, Nat.le_of_ble_eq_true rfl⟩ (Nat.le_of_ble_eq_true rfl) [0, 1, 2, 3, 4, 5, 6, 7, 8, 9, 10, 11, 12, 13, 14, 15, 16, 17, 18, 19] rfl rfl 0 rfl rfl rfl) (fun v13 e13 => ?_)
    exact kr_iret h hr hlk dX1_act_16 (e13.trans (if_pos (xb_t e5 c8)).symm) (congrArg _ (if_pos (xb_t e5 c8)).symm)
