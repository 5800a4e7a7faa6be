theorem he4 {e1 : Nat} {i : Int32} (hi : i = nI (e1 + 1)) (h : i = 5) (he : e1 < 5) : e1 = 4 := by
  rw [hi] at h
  have h5 : tn (nI (e1 + 1)) = tn 5 := congrArg tn h
  rw [tn_nI (by omega), show tn 5 = 5 from tn_nI (n := 5) (by decide)] at h5
  omega
theorem yEnd_3w {z : xSt} {a b c d : Int32} (h1 : a = z.2 1) (h2 : b = z.1 13 (tn a)) (h3 : c = (xI z 7 b).2 4) (h4 : d = c + 1) : xI (xI z 7 b) 4 d = xI (xI z 7 (z.1 13 (tn (z.2 1)))) 4 (z.2 4 + 1) := by
  subst h1 h2 h3 h4
  rfl
theorem yIns_w {z : xSt} {a b : Int32} (h1 : a = z.2 1) (h2 : b = z.1 14 (tn a)) : xA z 7 (upd (z.1 7) (tn b) 1) = yIns z := by
  subst h1 h2
  rfl
theorem yGo_w {z : xSt} {a b c d f g i : Int32} {e : Nat} (h1 : a = z.2 1) (h2 : b = z.1 14 (tn a)) (h3 : c = (xA z 7 (upd (z.1 7) (tn b) 1)).2 1) (h4 : d = (xA z 7 (upd (z.1 7) (tn b) 1)).1 12 (tn c))
    (h5 : f = (xA (xA z 7 (upd (z.1 7) (tn b) 1)) 17 (upd ((xA z 7 (upd (z.1 7) (tn b) 1)).1 17) (tn i) d)).2 1) (h6 : g = (xA (xA z 7 (upd (z.1 7) (tn b) 1)) 17 (upd ((xA z 7 (upd (z.1 7) (tn b) 1)).1 17) (tn i) d)).1 13 (tn f)) (h7 : tn i = e) :
    xA (xA (xA z 7 (upd (z.1 7) (tn b) 1)) 17 (upd ((xA z 7 (upd (z.1 7) (tn b) 1)).1 17) (tn i) d)) 18 (upd ((xA (xA z 7 (upd (z.1 7) (tn b) 1)) 17 (upd ((xA z 7 (upd (z.1 7) (tn b) 1)).1 17) (tn i) d)).1 18) (tn i) g) = yGo (yIns z) e := by
  rw [yIns_w h1 h2] at h3 h4 h5 h6 ⊢
  generalize yIns z = y at *
  subst h3 h4 h7
  have h8 : f = y.2 1 := h5
  have h9 : g = y.1 13 (tn f) := h6.trans (xPut_un y 17 (tn i) _ (r := 13) (z := tn f) (Or.inl (by decide)))
  rw [h9, h8]
  rfl
set_option maxHeartbeats 4000000 in
set_option maxRecDepth 100000 in
theorem m_perform (l : Launch) (D : va_G) (cI cZ cJ : ClassId) (q : Nat → Nat) (x : xSt) (s v : Int32) (hs : vp_in s 8) : kc_M l yX1_perform cX1_perform 3 none 0 0 0 0 [.ref (q 0), .int s, .int v] D vwCl (tyL cI cZ cJ) (wY cI cZ q x) none (wY cI cZ q (yDo x s v)) := by
  refine kc_start RX1 (by decide +kernel) rfl (Nat.le_of_ble_eq_true rfl) ?_
  intro zp ze zs zm zb zt zc h hr hlk hnm
  refine kr_aload_n h dX1_perform_0 rfl 0 rfl ?_
  refine kr_get h FX1ok 0 18 dX1_perform_1 flX1_67 rfl rfl (by decide) rfl rfl ?_
  refine kr_iload_n h dX1_perform_4 rfl 1 rfl ?_
  refine kr_dup2 h dX1_perform_5 rfl rfl ?_
  refine kr_iald h 10 0 dX1_perform_6 rfl rfl (hs) (fun v6 e6 => ?_)
  refine kr_iload_n h dX1_perform_7 rfl 2 rfl ?_
  refine kr_iadd h dX1_perform_8 (fun v8 e8 => ?_)
  refine kr_iast (ws' := wY cI cZ q (xA x 9 (upd (x.1 9) (tn s) v8))) h 10 0 dX1_perform_9 rfl rfl (hs) (wY_r9 cI cZ q x _) ?_
  refine kr_aload_n h dX1_perform_10 rfl 0 rfl ?_
  refine kr_aload_n h dX1_perform_11 rfl 0 rfl ?_
  refine kr_get h FX1ok 0 18 dX1_perform_12 flX1_67 rfl rfl (by decide) rfl rfl ?_
  refine kr_iload_n h dX1_perform_15 rfl 1 rfl ?_
  refine kr_iald h 10 0 dX1_perform_16 rfl rfl (hs) (fun v16 e16 => ?_)
  refine kr_put (ws' := wY cI cZ q (xI (xA x 9 (upd (x.1 9) (tn s) v8)) 7 v16)) h FX1ok 0 7 dX1_perform_17 flX1_31 rfl rfl (by decide) rfl rfl rfl rfl (Nat.le_of_ble_eq_true rfl) rfl ?_
  refine kr_aload_n h dX1_perform_20 rfl 0 rfl ?_
  refine kr_dup h dX1_perform_21 rfl ?_
  refine kr_get h FX1ok 0 3 dX1_perform_22 flX1_19 rfl rfl (by decide) rfl rfl ?_
  refine kr_top h (fun v22 e22 => ?_)
  refine kr_iconst (v := 1) h dX1_perform_25 (by decide) ?_
  refine kr_iadd h dX1_perform_26 (fun v26 e26 => ?_)
  refine kr_put (ws' := wY cI cZ q (xI (xI (xA x 9 (upd (x.1 9) (tn s) v8)) 7 v16) 3 v26)) h FX1ok 0 3 dX1_perform_27 flX1_19 rfl rfl (by decide) rfl rfl rfl rfl (Nat.le_of_ble_eq_true rfl) rfl ?_
  exact kr_vret h hr hlk dX1_perform_30 (congrArg _ (yDo_w (by rw [e8, e6]) e16 (by rw [e26, e22]; rfl)))
