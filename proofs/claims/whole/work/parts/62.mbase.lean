set_option maxHeartbeats 4000000 in
set_option maxRecDepth 100000 in
theorem m_thrown (l : Launch) (D : va_G) (cI cZ cJ : ClassId) (q : Nat → Nat) (x : xSt) : kc_M l yX1_thrown cX1_thrown 1 (some .int) 0 0 0 0 [.ref (q 0)] D vwCl (tyL cI cZ cJ) (wY cI cZ q x) (some (.int (x.2 6))) (wY cI cZ q (x)) := by
  refine kc_start RX1 (by decide +kernel) rfl (Nat.le_of_ble_eq_true rfl) ?_
  intro zp ze zs zm zb zt zc h hr hlk hnm
  refine kr_aload_n h dX1_thrown_0 rfl 0 rfl ?_
  refine kr_get h FX1ok 0 6 dX1_thrown_1 flX1_28 rfl rfl (by decide) rfl rfl ?_
  refine kr_top h (fun v1 e1 => ?_)
  exact kr_iret h hr hlk dX1_thrown_4 (e1) (rfl)
set_option maxHeartbeats 4000000 in
set_option maxRecDepth 100000 in
theorem m_fail (l : Launch) (D : va_G) (cI cZ cJ : ClassId) (q : Nat → Nat) (x : xSt) (c : Int32) : kc_M l yX1_fail cX1_fail 2 (some .int) 0 0 0 0 [.ref (q 0), .int c] D vwCl (tyL cI cZ cJ) (wY cI cZ q x) (some (.int (0))) (wY cI cZ q (xI x 6 c)) := by
  refine kc_start RX1 (by decide +kernel) rfl (Nat.le_of_ble_eq_true rfl) ?_
  intro zp ze zs zm zb zt zc h hr hlk hnm
  refine kr_aload_n h dX1_fail_0 rfl 0 rfl ?_
  refine kr_iload_n h dX1_fail_1 rfl 1 rfl ?_
  refine kr_put (ws' := wY cI cZ q (xI x 6 c)) h FX1ok 0 6 dX1_fail_2 flX1_28 rfl rfl (by decide) rfl rfl rfl rfl (Nat.le_of_ble_eq_true rfl) rfl ?_
  refine kr_iconst (v := 0) h dX1_fail_5 (by decide) ?_
  exact kr_iret h hr hlk dX1_fail_6 (rfl) (rfl)
set_option maxHeartbeats 4000000 in
set_option maxRecDepth 100000 in
theorem m_fine (l : Launch) (D : va_G) (cI cZ cJ : ClassId) (q : Nat → Nat) (x : xSt) (a : Int32) : kc_M l yX1_fine cX1_fine 2 (some .int) 0 0 0 0 [.ref (q 0), .int a] D vwCl (tyL cI cZ cJ) (wY cI cZ q x) (some (.int (a))) (wY cI cZ q (xI x 6 0)) := by
  refine kc_start RX1 (by decide +kernel) rfl (Nat.le_of_ble_eq_true rfl) ?_
  intro zp ze zs zm zb zt zc h hr hlk hnm
  refine kr_aload_n h dX1_fine_0 rfl 0 rfl ?_
  refine kr_iconst (v := 0) h dX1_fine_1 (by decide) ?_
  refine kr_put (ws' := wY cI cZ q (xI x 6 0)) h FX1ok 0 6 dX1_fine_2 flX1_28 rfl rfl (by decide) rfl rfl rfl rfl (Nat.le_of_ble_eq_true rfl) rfl ?_
  refine kr_iload_n h dX1_fine_5 rfl 1 rfl ?_
  exact kr_iret h hr hlk dX1_fine_6 (rfl) (rfl)
set_option maxHeartbeats 4000000 in
set_option maxRecDepth 100000 in
theorem m_out (l : Launch) (D : va_G) (cI cZ cJ : ClassId) (q : Nat → Nat) (x : xSt) (v a b : Int32) : kc_M l yX1_out cX1_out 4 (some .boolean) 0 0 0 0 [.ref (q 0), .int v, .int a, .int b] D vwCl (tyL cI cZ cJ) (wY cI cZ q x) (some (.int (xb (pOut v a b)))) (wY cI cZ q (x)) := by
  refine kc_start RX1 (by decide +kernel) rfl (Nat.le_of_ble_eq_true rfl) ?_
  intro zp ze zs zm zb zt zc h hr hlk hnm
  refine kr_iload_n h dX1_out_0 rfl 1 rfl ?_
  refine kr_iload_n h dX1_out_1 rfl 2 rfl ?_
  refine kr_icmp_lt h 10 dX1_out_2 (by decide) (fun c2 => ?_) (fun c2 => ?_)
  · refine kr_iconst (v := 1) h dX1_out_10 (by decide) ?_
    refine kr_goto h 15 dX1_out_11 (by decide) ?_
    exact kr_zret h hr hlk dX1_out_15 (rfl) (by clear h hr hlk hnm; subst_vars; simp_all) (rfl)
  · refine kr_iload_n h dX1_out_5 rfl 1 rfl ?_
    refine kr_iload_n h dX1_out_6 rfl 3 rfl ?_
    refine kr_icmp_le h 14 dX1_out_7 (by decide) (fun c7 => ?_) (fun c7 => ?_)
    · refine kr_iconst (v := 0) h dX1_out_14 (by decide) ?_
      exact kr_zret h hr hlk dX1_out_15 (rfl) (by clear h hr hlk hnm; subst_vars; simp_all) (rfl)
    · refine kr_iconst (v := 1) h dX1_out_10 (by decide) ?_
      refine kr_goto h 15 dX1_out_11 (by decide) ?_
      exact kr_zret h hr hlk dX1_out_15 (rfl) (by clear h hr hlk hnm; subst_vars; simp_all) (rfl)
set_option maxHeartbeats 4000000 in
set_option maxRecDepth 100000 in
theorem m_namesA (l : Launch) (D : va_G) (cI cZ cJ : ClassId) (q : Nat → Nat) (x : xSt) (k : Int32) : kc_M l yX1_namesA cX1_namesA 2 (some .boolean) 0 0 0 0 [.ref (q 0), .int k] D vwCl (tyL cI cZ cJ) (wY cI cZ q x) (some (.int (xb (pNA k)))) (wY cI cZ q (x)) := by
  refine kc_start RX1 (by decide +kernel) rfl (Nat.le_of_ble_eq_true rfl) ?_
  intro zp ze zs zm zb zt zc h hr hlk hnm
  refine kr_iload_n h dX1_namesA_0 rfl 1 rfl ?_
  refine kr_bipush (v := 7) h dX1_namesA_1 (by decide) ?_
  refine kr_icmp_le h 12 dX1_namesA_3 (by decide) (fun c3 => ?_) (fun c3 => ?_)
  · refine kr_iload_n h dX1_namesA_12 rfl 1 rfl ?_
    refine kr_bipush (v := 12) h dX1_namesA_13 (by decide) ?_
    refine kr_icmp_le h 22 dX1_namesA_15 (by decide) (fun c15 => ?_) (fun c15 => ?_)
    · refine kr_iconst (v := 0) h dX1_namesA_22 (by decide) ?_
      exact kr_zret h hr hlk dX1_namesA_23 (rfl) (by clear h hr hlk hnm; subst_vars; simp_all) (rfl)
    · refine kr_iconst (v := 1) h dX1_namesA_18 (by decide) ?_
      refine kr_goto h 23 dX1_namesA_19 (by decide) ?_
      exact kr_zret h hr hlk dX1_namesA_23 (rfl) (by clear h hr hlk hnm; subst_vars; simp_all) (rfl)
  · refine kr_iload_n h dX1_namesA_6 rfl 1 rfl ?_
    refine kr_bipush (v := 12) h dX1_namesA_7 (by decide) ?_
    refine kr_icmp_lt h 18 dX1_namesA_9 (by decide) (fun c9 => ?_) (fun c9 => ?_)
    · refine kr_iconst (v := 1) h dX1_namesA_18 (by decide) ?_
      refine kr_goto h 23 dX1_namesA_19 (by decide) ?_
      exact kr_zret h hr hlk dX1_namesA_23 (rfl) (by clear h hr hlk hnm; subst_vars; simp_all) (rfl)
    · refine kr_iload_n h dX1_namesA_12 rfl 1 rfl ?_
      refine kr_bipush (v := 12) h dX1_namesA_13 (by decide) ?_
      refine kr_icmp_le h 22 dX1_namesA_15 (by decide) (fun c15 => ?_) (fun c15 => ?_)
      · refine kr_iconst (v := 0) h dX1_namesA_22 (by decide) ?_
        exact kr_zret h hr hlk dX1_namesA_23 (rfl) (by clear h hr hlk hnm; subst_vars; simp_all) (rfl)
      · refine kr_iconst (v := 1) h dX1_namesA_18 (by decide) ?_
        refine kr_goto h 23 dX1_namesA_19 (by decide) ?_
        exact kr_zret h hr hlk dX1_namesA_23 (rfl) (by clear h hr hlk hnm; subst_vars; simp_all) (rfl)
set_option maxHeartbeats 4000000 in
set_option maxRecDepth 100000 in
theorem m_namesB (l : Launch) (D : va_G) (cI cZ cJ : ClassId) (q : Nat → Nat) (x : xSt) (k : Int32) : kc_M l yX1_namesB cX1_namesB 2 (some .boolean) 0 0 0 0 [.ref (q 0), .int k] D vwCl (tyL cI cZ cJ) (wY cI cZ q x) (some (.int (xb (pNB k)))) (wY cI cZ q (x)) := by
  refine kc_start RX1 (by decide +kernel) rfl (Nat.le_of_ble_eq_true rfl) ?_
  intro zp ze zs zm zb zt zc h hr hlk hnm
  refine kr_iload_n h dX1_namesB_0 rfl 1 rfl ?_
  refine kr_bipush (v := 7) h dX1_namesB_1 (by decide) ?_
  refine kr_icmp_le h 16 dX1_namesB_3 (by decide) (fun c3 => ?_) (fun c3 => ?_)
  · refine kr_iconst (v := 0) h dX1_namesB_16 (by decide) ?_
    exact kr_zret h hr hlk dX1_namesB_17 (rfl) (by clear h hr hlk hnm; subst_vars; simp_all) (rfl)
  · refine kr_iload_n h dX1_namesB_6 rfl 1 rfl ?_
    refine kr_bipush (v := 13) h dX1_namesB_7 (by decide) ?_
    refine kr_icmp_ge h 16 dX1_namesB_9 (by decide) (fun c9 => ?_) (fun c9 => ?_)
    · refine kr_iconst (v := 0) h dX1_namesB_16 (by decide) ?_
      exact kr_zret h hr hlk dX1_namesB_17 (rfl) (by clear h hr hlk hnm; subst_vars; simp_all) (rfl)
    · refine kr_iconst (v := 1) h dX1_namesB_12 (by decide) ?_
      refine kr_goto h 17 dX1_namesB_13 (by decide) ?_
      exact kr_zret h hr hlk dX1_namesB_17 (rfl) (by clear h hr hlk hnm; subst_vars; simp_all) (rfl)
set_option maxHeartbeats 4000000 in
set_option maxRecDepth 100000 in
theorem m_no (l : Launch) (D : va_G) (cI cZ cJ : ClassId) (q : Nat → Nat) (x : xSt) (p : Int32) : kc_M l yX1_no cX1_no 2 (some .boolean) 0 0 0 0 [.ref (q 0), .int p] D vwCl (tyL cI cZ cJ) (wY cI cZ q x) (some (.int (xb (pNo x p)))) (wY cI cZ q (x)) := by
  refine kc_start RX1 (by decide +kernel) rfl (Nat.le_of_ble_eq_true rfl) ?_
  intro zp ze zs zm zb zt zc h hr hlk hnm
  refine kr_iload_n h dX1_no_0 rfl 1 rfl ?_
  refine kr_if_lt h 12 dX1_no_1 (by decide) (fun c1 => ?_) (fun c1 => ?_)
  · refine kr_iconst (v := 1) h dX1_no_12 (by decide) ?_
    refine kr_goto h 17 dX1_no_13 (by decide) ?_
    exact kr_zret h hr hlk dX1_no_17 (rfl) (by first | exact xb_1 (Or.inl c1) | exact xb_1 (Or.inr (by rw [← e6]; exact c9)) | exact xb_0 (fun z => z.elim c1 (fun z => z (by rw [← e6]; exact c9)))) (rfl)
  · refine kr_iload_n h dX1_no_4 rfl 1 rfl ?_
    refine kr_aload_n h dX1_no_5 rfl 0 rfl ?_
    refine kr_get h FX1ok 0 0 dX1_no_6 flX1_7 rfl rfl (by decide) rfl rfl ?_
    refine kr_top h (fun v6 e6 => ?_)
    refine kr_icmp_lt h 16 dX1_no_9 (by decide) (fun c9 => ?_) (fun c9 => ?_)
    · refine kr_iconst (v := 0) h dX1_no_16 (by decide) ?_
      exact kr_zret h hr hlk dX1_no_17 (rfl) (by first | exact xb_1 (Or.inl c1) | exact xb_1 (Or.inr (by rw [← e6]; exact c9)) | exact xb_0 (fun z => z.elim c1 (fun z => z (by rw [← e6]; exact c9)))) (rfl)
    · refine kr_iconst (v := 1) h dX1_no_12 (by decide) ?_
      refine kr_goto h 17 dX1_no_13 (by decide) ?_
      exact kr_zret h hr hlk dX1_no_17 (rfl) (by first | exact xb_1 (Or.inl c1) | exact xb_1 (Or.inr (by rw [← e6]; exact c9)) | exact xb_0 (fun z => z.elim c1 (fun z => z (by rw [← e6]; exact c9)))) (rfl)
set_option maxHeartbeats 4000000 in
set_option maxRecDepth 100000 in
theorem m_in (l : Launch) (D : va_G) (cI cZ cJ : ClassId) (q : Nat → Nat) (x : xSt) (a s : Int32) : kc_M l yX1_in cX1_in 3 (some .boolean) 0 0 0 0 [.ref (q 0), .int a, .int s] D vwCl (tyL cI cZ cJ) (wY cI cZ q x) (some (.int (xb (pIn a s)))) (wY cI cZ q (x)) := by
  refine kc_start RX1 (by decide +kernel) rfl (Nat.le_of_ble_eq_true rfl) ?_
  intro zp ze zs zm zb zt zc h hr hlk hnm
  refine kr_iload_n h dX1_in_0 rfl 1 rfl ?_
  refine kr_iload_n h dX1_in_1 rfl 2 rfl ?_
  refine kr_ishr h dX1_in_2 (fun v2 e2 => ?_)
  refine kr_iconst (v := 1) h dX1_in_3 (by decide) ?_
  refine kr_iand h dX1_in_4 (fun v4 e4 => ?_)
  refine kr_iconst (v := 1) h dX1_in_5 (by decide) ?_
  refine kr_icmp_ne h 13 dX1_in_6 (by decide) (fun c6 => ?_) (fun c6 => ?_)
  · refine kr_iconst (v := 0) h dX1_in_13 (by decide) ?_
    exact kr_zret h hr hlk dX1_in_14 (rfl) (by rw [e4, e2] at c6; first | exact (if_pos c6).symm | exact (if_neg c6).symm) (rfl)
  · refine kr_iconst (v := 1) h dX1_in_9 (by decide) ?_
    refine kr_goto h 14 dX1_in_10 (by decide) ?_
    exact kr_zret h hr hlk dX1_in_14 (rfl) (by rw [e4, e2] at c6; first | exact (if_pos c6).symm | exact (if_neg c6).symm) (rfl)
set_option maxHeartbeats 4000000 in
set_option maxRecDepth 100000 in
theorem m_suggest (l : Launch) (D : va_G) (cI cZ cJ : ClassId) (q : Nat → Nat) (x : xSt) (p k : Int32) (hp : vp_in p 40) : kc_M l yX1_suggest cX1_suggest 3 none 0 0 0 0 [.ref (q 0), .int p, .int k] D vwCl (tyL cI cZ cJ) (wY cI cZ q x) none (wY cI cZ q (ySug x p k)) := by
  refine kc_start RX1 (by decide +kernel) rfl (Nat.le_of_ble_eq_true rfl) ?_
  intro zp ze zs zm zb zt zc h hr hlk hnm
  refine kr_aload_n h dX1_suggest_0 rfl 0 rfl ?_
  refine kr_get h FX1ok 0 20 dX1_suggest_1 flX1_73 rfl rfl (by decide) rfl rfl ?_
  refine kr_iload_n h dX1_suggest_4 rfl 1 rfl ?_
  refine kr_iload_n h dX1_suggest_5 rfl 2 rfl ?_
  refine kr_iast (ws' := wY cI cZ q (xA x 11 (upd (x.1 11) (tn p) k))) h 12 0 dX1_suggest_6 rfl rfl (hp) (wY_r11 cI cZ q x _) ?_
  generalize ex6 : (xA x 11 (upd (x.1 11) (tn p) k)) = x6
  refine kr_aload_n h dX1_suggest_7 rfl 0 rfl ?_
  refine kr_get h FX1ok 0 23 dX1_suggest_8 flX1_82 rfl rfl (by decide) rfl rfl ?_
  refine kr_iload_n h dX1_suggest_11 rfl 1 rfl ?_
  refine kr_iconst (v := (-1)) h dX1_suggest_12 (by decide) ?_
  refine kr_iast (ws' := wY cI cZ q (xA x6 14 (upd (x6.1 14) (tn p) (-1)))) h 15 0 dX1_suggest_13 rfl rfl (hp) (wY_r14 cI cZ q x6 _) ?_
  generalize ex13 : (xA x6 14 (upd (x6.1 14) (tn p) (-1))) = x13
  exact kr_vret h hr hlk dX1_suggest_14 (by subst_vars; rfl)
set_option maxHeartbeats 4000000 in
set_option maxRecDepth 100000 in
theorem m_same (l : Launch) (D : va_G) (cI cZ cJ : ClassId) (q : Nat → Nat) (x : xSt) (p r : Int32) (hp : vp_in p 40) (hrr : vp_in r 40) : kc_M l yX1_same cX1_same 3 none 0 0 0 0 [.ref (q 0), .int p, .int r] D vwCl (tyL cI cZ cJ) (wY cI cZ q x) none (wY cI cZ q (ySame x p r)) := by
  refine kc_start RX1 (by decide +kernel) rfl (Nat.le_of_ble_eq_true rfl) ?_
  intro zp ze zs zm zb zt zc h hr hlk hnm
  refine kr_aload_n h dX1_same_0 rfl 0 rfl ?_
  refine kr_get h FX1ok 0 20 dX1_same_1 flX1_73 rfl rfl (by decide) rfl rfl ?_
  refine kr_iload_n h dX1_same_4 rfl 1 rfl ?_
  refine kr_aload_n h dX1_same_5 rfl 0 rfl ?_
  refine kr_get h FX1ok 0 20 dX1_same_6 flX1_73 rfl rfl (by decide) rfl rfl ?_
  refine kr_iload_n h dX1_same_9 rfl 2 rfl ?_
  refine kr_iald h 12 0 dX1_same_10 rfl rfl (hrr) (fun v10 e10 => ?_)
  refine kr_iast (ws' := wY cI cZ q (xA x 11 (upd (x.1 11) (tn p) v10))) h 12 0 dX1_same_11 rfl rfl (hp) (wY_r11 cI cZ q x _) ?_
  generalize ex11 : (xA x 11 (upd (x.1 11) (tn p) v10)) = x11
  refine kr_aload_n h dX1_same_12 rfl 0 rfl ?_
  refine kr_get h FX1ok 0 21 dX1_same_13 flX1_76 rfl rfl (by decide) rfl rfl ?_
  refine kr_iload_n h dX1_same_16 rfl 1 rfl ?_
  refine kr_aload_n h dX1_same_17 rfl 0 rfl ?_
  refine kr_get h FX1ok 0 21 dX1_same_18 flX1_76 rfl rfl (by decide) rfl rfl ?_
  refine kr_iload_n h dX1_same_21 rfl 2 rfl ?_
  refine kr_iald h 13 0 dX1_same_22 rfl rfl (hrr) (fun v22 e22 => ?_)
  refine kr_iast (ws' := wY cI cZ q (xA x11 12 (upd (x11.1 12) (tn p) v22))) h 13 0 dX1_same_23 rfl rfl (hp) (wY_r12 cI cZ q x11 _) ?_
  generalize ex23 : (xA x11 12 (upd (x11.1 12) (tn p) v22)) = x23
  refine kr_aload_n h dX1_same_24 rfl 0 rfl ?_
  refine kr_get h FX1ok 0 22 dX1_same_25 flX1_79 rfl rfl (by decide) rfl rfl ?_
  refine kr_iload_n h dX1_same_28 rfl 1 rfl ?_
  refine kr_aload_n h dX1_same_29 rfl 0 rfl ?_
  refine kr_get h FX1ok 0 22 dX1_same_30 flX1_79 rfl rfl (by decide) rfl rfl ?_
  refine kr_iload_n h dX1_same_33 rfl 2 rfl ?_
  refine kr_iald h 14 0 dX1_same_34 rfl rfl (hrr) (fun v34 e34 => ?_)
  refine kr_iast (ws' := wY cI cZ q (xA x23 13 (upd (x23.1 13) (tn p) v34))) h 14 0 dX1_same_35 rfl rfl (hp) (wY_r13 cI cZ q x23 _) ?_
  generalize ex35 : (xA x23 13 (upd (x23.1 13) (tn p) v34)) = x35
  refine kr_aload_n h dX1_same_36 rfl 0 rfl ?_
  refine kr_get h FX1ok 0 23 dX1_same_37 flX1_82 rfl rfl (by decide) rfl rfl ?_
  refine kr_iload_n h dX1_same_40 rfl 1 rfl ?_
  refine kr_aload_n h dX1_same_41 rfl 0 rfl ?_
  refine kr_get h FX1ok 0 23 dX1_same_42 flX1_82 rfl rfl (by decide) rfl rfl ?_
  refine kr_iload_n h dX1_same_45 rfl 2 rfl ?_
  refine kr_iald h 15 0 dX1_same_46 rfl rfl (hrr) (fun v46 e46 => ?_)
  refine kr_iast (ws' := wY cI cZ q (xA x35 14 (upd (x35.1 14) (tn p) v46))) h 15 0 dX1_same_47 rfl rfl (hp) (wY_r14 cI cZ q x35 _) ?_
  generalize ex47 : (xA x35 14 (upd (x35.1 14) (tn p) v46)) = x47
  exact kr_vret h hr hlk dX1_same_48 (by clear h hr hlk hnm; subst_vars; rfl)
set_option maxHeartbeats 4000000 in
set_option maxRecDepth 100000 in
theorem m_takesA (l : Launch) (D : va_G) (cI cZ cJ : ClassId) (q : Nat → Nat) (x : xSt) (k a b : Int32) (ha : vp_in a 40) (hb : vp_in b 40) : kc_M l yX1_takesA cX1_takesA 4 (some .boolean) 0 0 0 0 [.ref (q 0), .int k, .int a, .int b] D vwCl (tyL cI cZ cJ) (wY cI cZ q x) (some (.int (xb (pTA x k a b)))) (wY cI cZ q (x)) := by
  refine kc_start RX1 (by decide +kernel) rfl (Nat.le_of_ble_eq_true rfl) ?_
  intro zp ze zs zm zb zt zc h hr hlk hnm
  refine kr_iload_n h dX1_takesA_0 rfl 1 rfl ?_
  refine kr_bipush (v := 10) h dX1_takesA_1 (by decide) ?_
  refine kr_icmp_ne h 21 dX1_takesA_3 (by decide) (fun c3 => ?_) (fun c3 => ?_)
  · refine kr_iload_n h dX1_takesA_21 rfl 1 rfl ?_
    refine kr_bipush (v := 11) h dX1_takesA_22 (by decide) ?_
    refine kr_icmp_ne h 43 dX1_takesA_24 (by decide) (fun c24 => ?_) (fun c24 => ?_)
    · refine kr_aload_n h dX1_takesA_43 rfl 0 rfl ?_
      refine kr_get h FX1ok 0 20 dX1_takesA_44 flX1_73 rfl rfl (by decide) rfl rfl ?_
      refine kr_iload_n h dX1_takesA_47 rfl 3 rfl ?_
      refine kr_iald h 12 0 dX1_takesA_48 rfl rfl (hb) (fun v48 e48 => ?_)
      refine kr_if_eq h 76 dX1_takesA_49 (by decide) (fun c49 => ?_) (fun c49 => ?_)
      · refine kr_iconst (v := 1) h dX1_takesA_76 (by decide) ?_
        refine kr_goto h 81 dX1_takesA_77 (by decide) ?_
        exact kr_zret h hr hlk dX1_takesA_81 (rfl) (by clear h hr hlk hnm; subst_vars; simp_all [pTA]) (rfl)
      · refine kr_aload_n h dX1_takesA_52 rfl 0 rfl ?_
        refine kr_get h FX1ok 0 20 dX1_takesA_53 flX1_73 rfl rfl (by decide) rfl rfl ?_
        refine kr_iload_n h dX1_takesA_56 rfl 2 rfl ?_
        refine kr_iald h 12 0 dX1_takesA_57 rfl rfl (ha) (fun v57 e57 => ?_)
        refine kr_if_eq h 80 dX1_takesA_58 (by decide) (fun c58 => ?_) (fun c58 => ?_)
        · refine kr_iconst (v := 0) h dX1_takesA_80 (by decide) ?_
          exact kr_zret h hr hlk dX1_takesA_81 (rfl) (by clear h hr hlk hnm; subst_vars; simp_all [pTA]) (rfl)
        · refine kr_aload_n h dX1_takesA_61 rfl 0 rfl ?_
          refine kr_get h FX1ok 0 20 dX1_takesA_62 flX1_73 rfl rfl (by decide) rfl rfl ?_
          refine kr_iload_n h dX1_takesA_65 rfl 2 rfl ?_
          refine kr_iald h 12 0 dX1_takesA_66 rfl rfl (ha) (fun v66 e66 => ?_)
          refine kr_aload_n h dX1_takesA_67 rfl 0 rfl ?_
          refine kr_get h FX1ok 0 20 dX1_takesA_68 flX1_73 rfl rfl (by decide) rfl rfl ?_
          refine kr_iload_n h dX1_takesA_71 rfl 3 rfl ?_
          refine kr_iald h 12 0 dX1_takesA_72 rfl rfl (hb) (fun v72 e72 => ?_)
          refine kr_icmp_gt h 80 dX1_takesA_73 (by decide) (fun c73 => ?_) (fun c73 => ?_)
          · refine kr_iconst (v := 0) h dX1_takesA_80 (by decide) ?_
            exact kr_zret h hr hlk dX1_takesA_81 (rfl) (by clear h hr hlk hnm; subst_vars; simp_all [pTA]) (rfl)
          · refine kr_iconst (v := 1) h dX1_takesA_76 (by decide) ?_
            refine kr_goto h 81 dX1_takesA_77 (by decide) ?_
            exact kr_zret h hr hlk dX1_takesA_81 (rfl) (by clear h hr hlk hnm; subst_vars; simp_all [pTA]) (rfl)
    · refine kr_aload_n h dX1_takesA_27 rfl 0 rfl ?_
      refine kr_get h FX1ok 0 20 dX1_takesA_28 flX1_73 rfl rfl (by decide) rfl rfl ?_
      refine kr_iload_n h dX1_takesA_31 rfl 2 rfl ?_
      refine kr_iald h 12 0 dX1_takesA_32 rfl rfl (ha) (fun v32 e32 => ?_)
      refine kr_iconst (v := 1) h dX1_takesA_33 (by decide) ?_
      refine kr_icmp_le h 41 dX1_takesA_34 (by decide) (fun c34 => ?_) (fun c34 => ?_)
      · refine kr_iconst (v := 0) h dX1_takesA_41 (by decide) ?_
        exact kr_zret h hr hlk dX1_takesA_42 (rfl) (by clear h hr hlk hnm; subst_vars; simp_all [pTA]) (rfl)
      · refine kr_iconst (v := 1) h dX1_takesA_37 (by decide) ?_
        refine kr_goto h 42 dX1_takesA_38 (by decide) ?_
        exact kr_zret h hr hlk dX1_takesA_42 (rfl) (by clear h hr hlk hnm; subst_vars; simp_all [pTA]) (rfl)
  · refine kr_aload_n h dX1_takesA_6 rfl 0 rfl ?_
    refine kr_get h FX1ok 0 20 dX1_takesA_7 flX1_73 rfl rfl (by decide) rfl rfl ?_
    refine kr_iload_n h dX1_takesA_10 rfl 2 rfl ?_
    refine kr_iald h 12 0 dX1_takesA_11 rfl rfl (ha) (fun v11 e11 => ?_)
    refine kr_if_eq h 19 dX1_takesA_12 (by decide) (fun c12 => ?_) (fun c12 => ?_)
    · refine kr_iconst (v := 0) h dX1_takesA_19 (by decide) ?_
      exact kr_zret h hr hlk dX1_takesA_20 (rfl) (by clear h hr hlk hnm; subst_vars; simp_all [pTA]) (rfl)
    · refine kr_iconst (v := 1) h dX1_takesA_15 (by decide) ?_
      refine kr_goto h 20 dX1_takesA_16 (by decide) ?_
      exact kr_zret h hr hlk dX1_takesA_20 (rfl) (by clear h hr hlk hnm; subst_vars; simp_all [pTA]) (rfl)
set_option maxHeartbeats 4000000 in
set_option maxRecDepth 100000 in
theorem m_next (l : Launch) (D : va_G) (cI cZ cJ : ClassId) (q : Nat → Nat) (x : xSt) (p t s : Int32) (hp : vp_in p 40) (ha : ¬ x.1 0 (tn p) < 8 → ¬ x.1 0 (tn p) = 12 → x.1 0 (tn p) ≤ 12 → vp_in (x.1 1 (tn p)) 40) : kc_M l yX1_next cX1_next 5 (some .int) 1 23 0 0 [.ref (q 0), .int p, .int t, .int s] D vwCl (tyL cI cZ cJ) (wY cI cZ q x) (some (.int (yNext x p t s))) (wY cI cZ q (x)) := by
  refine kc_start RX1 (by decide +kernel) rfl (Nat.le_of_ble_eq_true rfl) ?_
  intro zp ze zs zm zb zt zc h hr hlk hnm
  refine kr_aload_n h dX1_next_0 rfl 0 rfl ?_
  refine kr_get h FX1ok 0 9 dX1_next_1 flX1_38 rfl rfl (by decide) rfl rfl ?_
  refine kr_iload_n h dX1_next_4 rfl 1 rfl ?_
  refine kr_iald h 1 0 dX1_next_5 rfl rfl (hp) (fun v5 e5 => ?_)
  refine kr_istore (lv' := [(4, .int v5), (0, .ref (q 0)), (1, .int p), (2, .int t), (3, .int s)]) h dX1_next_6 (by decide) rfl ?_
  refine kr_iload h dX1_next_8 0 rfl ?_
  refine kr_bipush (v := 8) h dX1_next_10 (by decide) ?_
  refine kr_icmp_ge h 17 dX1_next_12 (by decide) (fun c12 => ?_) (fun c12 => ?_)
  · refine kr_iload h dX1_next_17 0 rfl ?_
    refine kr_bipush (v := 12) h dX1_next_19 (by decide) ?_
    refine kr_icmp_ne h 53 dX1_next_21 (by decide) (fun c21 => ?_) (fun c21 => ?_)
    · refine kr_iload_n h dX1_next_53 rfl 3 rfl ?_
      refine kr_if_ne h 64 dX1_next_54 (by decide) (fun c54 => ?_) (fun c54 => ?_)
      · refine kr_iload_n h dX1_next_64 rfl 3 rfl ?_
        refine kr_iconst (v := 1) h dX1_next_65 (by decide) ?_
        refine kr_icmp_gt h 76 dX1_next_66 (by decide) (fun c66 => ?_) (fun c66 => ?_)
        · refine kr_iconst (v := (-1)) h dX1_next_76 (by decide) ?_
          exact kr_iret h hr hlk dX1_next_77 (by rw [yNext, if_pos (by rw [← e5]; exact c12), if_neg (fun z => c21 (e5.trans z)), if_neg c54]; exact (if_pos (by first | exact Or.inl c66 | exact Or.inr (by rw [← e5]; exact c73))).symm) (rfl)
        · refine kr_iload h dX1_next_69 0 rfl ?_
          refine kr_bipush (v := 12) h dX1_next_71 (by decide) ?_
          refine kr_icmp_le h 78 dX1_next_73 (by decide) (fun c73 => ?_) (fun c73 => ?_)
          · refine kr_iload h dX1_next_78 0 rfl ?_
            refine kr_bipush (v := 9) h dX1_next_80 (by decide) ?_
            refine kr_icmp_le h 105 dX1_next_82 (by decide) (fun c82 => ?_) (fun c82 => ?_)
            · refine kr_aload_n h dX1_next_105 rfl 1 rfl ?_
              refine kr_get h FX1ok 0 11 dX1_next_106 flX1_45 rfl rfl (by decide) rfl rfl ?_
              refine kr_iload_n h dX1_next_109 rfl 2 rfl ?_
              refine kr_iald h 3 0 dX1_next_110 rfl rfl (hp) (fun v110 e110 => ?_)
              exact kr_iret h hr hlk dX1_next_111 (by rw [yNext, if_pos (by rw [← e5]; exact c12), if_neg (fun z => c21 (e5.trans z)), if_neg c54, if_neg (fun z => z.elim c66 (fun z => z (by rw [← e5]; exact c73)))]; first | (rw [if_neg (fun z => z.1 (by rw [← e5]; exact c82))]; exact e110) | (rw [if_neg (fun z => xb_f e95 c98 (by rw [e5, e93]; exact z.2))]; exact e110) | exact (if_pos ⟨by rw [← e5]; exact c82, by have z := xb_t e95 c98; rw [e5, e93] at z; exact z⟩).symm) (rfl)
            · refine kr_aload_n h dX1_next_85 rfl 1 rfl ?_
              refine kr_iload h dX1_next_86 0 rfl ?_
              refine kr_aload_n h dX1_next_88 rfl 1 rfl ?_
              refine kr_get h FX1ok 0 10 dX1_next_89 flX1_42 rfl rfl (by decide) rfl rfl ?_
              refine kr_iload_n h dX1_next_92 rfl 2 rfl ?_
              refine kr_iald h 2 0 dX1_next_93 rfl rfl (hp) (fun v93 e93 => ?_)
              refine kr_iconst (v := 0) h dX1_next_94 (by decide) ?_
              refine kr_iA h (kc_rV h (m_takesA l D cI cZ cJ q x v5 v93 0 (by rw [e93]; exact ha (by rw [← e5]; intro z; exact absurd c12 (fun q => Int32.not_le.mpr z q)) (by rw [← e5]; exact c21) (by rw [← e5]; exact c73)) (show vp_in (nI 0) 40 from vp_in_nI (by decide) (by decide))) mlX1_130 yvX1_takesA dX1_next_95 rfl rfl ⟨Nat.le_of_ble_eq_true rfl, Nat.le_of_ble_eq_true rfl⟩ ⟨Nat.le_of_ble_eq_true rfl, Nat.le_of_ble_eq_true rfl⟩ (Nat.le_of_ble_eq_true rfl) [0, 1, 2, 3, 4, 5, 6, 7, 8, 9, 10, 11, 12, 13, 14, 15, 16, 17, 18, 19] rfl rfl 0 rfl rfl rfl) (fun v95 e95 => ?_)
              refine kr_if_eq h 105 dX1_next_98 (by decide) (fun c98 => ?_) (fun c98 => ?_)
              · refine kr_aload_n h dX1_next_105 rfl 1 rfl ?_
                refine kr_get h FX1ok 0 11 dX1_next_106 flX1_45 rfl rfl (by decide) rfl rfl ?_
                refine kr_iload_n h dX1_next_109 rfl 2 rfl ?_
                refine kr_iald h 3 0 dX1_next_110 rfl rfl (hp) (fun v110 e110 => ?_)
                exact kr_iret h hr hlk dX1_next_111 (by rw [yNext, if_pos (by rw [← e5]; exact c12), if_neg (fun z => c21 (e5.trans z)), if_neg c54, if_neg (fun z => z.elim c66 (fun z => z (by rw [← e5]; exact c73)))]; first | (rw [if_neg (fun z => z.1 (by rw [← e5]; exact c82))]; exact e110) | (rw [if_neg (fun z => xb_f e95 c98 (by rw [e5, e93]; exact z.2))]; exact e110) | exact (if_pos ⟨by rw [← e5]; exact c82, by have z := xb_t e95 c98; rw [e5, e93] at z; exact z⟩).symm) (rfl)
              · refine kr_iconst (v := (-1)) h dX1_next_101 (by decide) ?_
                refine kr_goto h 111 dX1_next_102 (by decide) ?_
                exact kr_iret h hr hlk dX1_next_111 (by rw [yNext, if_pos (by rw [← e5]; exact c12), if_neg (fun z => c21 (e5.trans z)), if_neg c54, if_neg (fun z => z.elim c66 (fun z => z (by rw [← e5]; exact c73)))]; first | (rw [if_neg (fun z => z.1 (by rw [← e5]; exact c82))]; exact e110) | (rw [if_neg (fun z => xb_f e95 c98 (by rw [e5, e93]; exact z.2))]; exact e110) | exact (if_pos ⟨by rw [← e5]; exact c82, by have z := xb_t e95 c98; rw [e5, e93] at z; exact z⟩).symm) (rfl)
          · refine kr_iconst (v := (-1)) h dX1_next_76 (by decide) ?_
            exact kr_iret h hr hlk dX1_next_77 (by rw [yNext, if_pos (by rw [← e5]; exact c12), if_neg (fun z => c21 (e5.trans z)), if_neg c54]; exact (if_pos (by first | exact Or.inl c66 | exact Or.inr (by rw [← e5]; exact c73))).symm) (rfl)
      · refine kr_aload_n h dX1_next_57 rfl 1 rfl ?_
        refine kr_get h FX1ok 0 10 dX1_next_58 flX1_42 rfl rfl (by decide) rfl rfl ?_
        refine kr_iload_n h dX1_next_61 rfl 2 rfl ?_
        refine kr_iald h 2 0 dX1_next_62 rfl rfl (hp) (fun v62 e62 => ?_)
        exact kr_iret h hr hlk dX1_next_63 (by rw [yNext, if_pos (by rw [← e5]; exact c12), if_neg (fun z => c21 (e5.trans z)), if_pos c54]; exact e62) (rfl)
    · refine kr_iload_n h dX1_next_24 rfl 3 rfl ?_
      refine kr_if_ne h 51 dX1_next_25 (by decide) (fun c25 => ?_) (fun c25 => ?_)
      · refine kr_iconst (v := (-1)) h dX1_next_51 (by decide) ?_
        exact kr_iret h hr hlk dX1_next_52 (by rw [yNext, if_pos (by rw [← e5]; exact c12), if_pos (e5.symm.trans c21)]; first | exact (if_neg (fun z => c25 z.1)).symm | exact (if_neg (fun z => xb_f e36 c39 (by rw [e34]; exact z.2))).symm | (rw [if_pos ⟨c25, by have z := xb_t e36 c39; rw [e34] at z; exact z⟩]; exact e47)) (rfl)
      · refine kr_aload_n h dX1_next_28 rfl 1 rfl ?_
        refine kr_aload_n h dX1_next_29 rfl 1 rfl ?_
        refine kr_get h FX1ok 0 10 dX1_next_30 flX1_42 rfl rfl (by decide) rfl rfl ?_
        refine kr_iload_n h dX1_next_33 rfl 2 rfl ?_
        refine kr_iald h 2 0 dX1_next_34 rfl rfl (hp) (fun v34 e34 => ?_)
        refine kr_iload_n h dX1_next_35 rfl 4 rfl ?_
        refine kr_iA h (kc_rV h (m_in l D cI cZ cJ q x v34 s) mlX1_126 yvX1_in dX1_next_36 rfl rfl ⟨Nat.le_of_ble_eq_true rfl, Nat.le_of_ble_eq_true rfl⟩ ⟨Nat.le_of_ble_eq_true rfl, Nat.le_of_ble_eq_true rfl⟩ (Nat.le_of_ble_eq_true rfl) [0, 1, 2, 3, 4, 5, 6, 7, 8, 9, 10, 11, 12, 13, 14, 15, 16, 17, 18, 19] rfl rfl 0 rfl rfl rfl) (fun v36 e36 => ?_)
        refine kr_if_eq h 51 dX1_next_39 (by decide) (fun c39 => ?_) (fun c39 => ?_)
        · refine kr_iconst (v := (-1)) h dX1_next_51 (by decide) ?_
          exact kr_iret h hr hlk dX1_next_52 (by rw [yNext, if_pos (by rw [← e5]; exact c12), if_pos (e5.symm.trans c21)]; first | exact (if_neg (fun z => c25 z.1)).symm | exact (if_neg (fun z => xb_f e36 c39 (by rw [e34]; exact z.2))).symm | (rw [if_pos ⟨c25, by have z := xb_t e36 c39; rw [e34] at z; exact z⟩]; exact e47)) (rfl)
        · refine kr_aload_n h dX1_next_42 rfl 1 rfl ?_
          refine kr_get h FX1ok 0 11 dX1_next_43 flX1_45 rfl rfl (by decide) rfl rfl ?_
          refine kr_iload_n h dX1_next_46 rfl 2 rfl ?_
          refine kr_iald h 3 0 dX1_next_47 rfl rfl (hp) (fun v47 e47 => ?_)
          refine kr_goto h 52 dX1_next_48 (by decide) ?_
          exact kr_iret h hr hlk dX1_next_52 (by rw [yNext, if_pos (by rw [← e5]; exact c12), if_pos (e5.symm.trans c21)]; first | exact (if_neg (fun z => c25 z.1)).symm | exact (if_neg (fun z => xb_f e36 c39 (by rw [e34]; exact z.2))).symm | (rw [if_pos ⟨c25, by have z := xb_t e36 c39; rw [e34] at z; exact z⟩]; exact e47)) (rfl)
  · refine kr_iconst (v := (-1)) h dX1_next_15 (by decide) ?_
    exact kr_iret h hr hlk dX1_next_16 (by rw [yNext, if_neg (by rw [← e5]; exact c12)]) (rfl)
