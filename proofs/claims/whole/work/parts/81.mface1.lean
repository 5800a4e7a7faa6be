set_option maxHeartbeats 4000000 in
set_option maxRecDepth 100000 in
theorem m_table (l : Launch) (D : va_G) (cI cZ cJ : ClassId) (q : Nat → Nat) (x : xSt) (k t s n : Int32) : kc_M l yX1_table cX1_table 7 (some .int) 1 23 0 0 [.ref (q 0), .int k, .int t, .int s, .int n] D vwCl (tyL cI cZ cJ) (wY cI cZ q x) (some (.int (yTabR x k t s n))) (wY cI cZ q (yTabX x k t s n)) := by
  refine kc_start RX1 (by decide +kernel) rfl (Nat.le_of_ble_eq_true rfl) ?_
  intro zp ze zs zm zb zt zc h hr hlk hnm
  refine kr_aload_n h dX1_table_0 rfl 0 rfl ?_
  refine kr_iload_n h dX1_table_1 rfl 1 rfl ?_
  refine kr_iconst (v := 0) h dX1_table_2 (by decide) ?_
  refine kr_iconst (v := 2) h dX1_table_3 (by decide) ?_
  refine kr_iA h (kc_rV h (m_out l D cI cZ cJ q x k 0 2) mlX1_97 yvX1_out dX1_table_4 rfl rfl ⟨Nat.le_of_ble_eq_true rfl, Nat.le_of_ble_eq_true rfl⟩ ⟨Nat.le_of_ble_eq_true rfl, Nat.le_of_ble_eq_true rfl⟩ (Nat.le_of_ble_eq_true rfl) [0, 1, 2, 3, 4, 5, 6, 7, 8, 9, 10, 11, 12, 13, 14, 15, 16, 17, 18, 19] rfl rfl 0 rfl rfl rfl) (fun v4 e4 => ?_)
  refine kr_if_ne h 42 dX1_table_7 (by decide) (fun c7 => ?_) (fun c7 => ?_)
  · refine kr_aload_n h dX1_table_42 rfl 0 rfl ?_
    refine kr_iconst (v := 1) h dX1_table_43 (by decide) ?_
    refine kr_iA h (kc_rV h (m_fail l D cI cZ cJ q x 1) mlX1_101 yvX1_fail dX1_table_44 rfl rfl ⟨Nat.le_of_ble_eq_true rfl, Nat.le_of_ble_eq_true rfl⟩ ⟨Nat.le_of_ble_eq_true rfl, Nat.le_of_ble_eq_true rfl⟩ (Nat.le_of_ble_eq_true rfl) [0, 1, 2, 3, 4, 5, 6, 7, 8, 9, 10, 11, 12, 13, 14, 15, 16, 17, 18, 19] rfl rfl 0 rfl rfl rfl) (fun v44 e44 => ?_)
    exact kr_iret h hr hlk dX1_table_47 (e44.trans (if_pos (by first | exact Or.inl (xb_t e4 c7) | exact Or.inr (Or.inl (xb_t e14 c17)) | exact Or.inr (Or.inr (Or.inl (xb_t e25 c28))) | exact Or.inr (Or.inr (Or.inr (xb_t e36 c39))))).symm) (congrArg _ (if_pos (by first | exact Or.inl (xb_t e4 c7) | exact Or.inr (Or.inl (xb_t e14 c17)) | exact Or.inr (Or.inr (Or.inl (xb_t e25 c28))) | exact Or.inr (Or.inr (Or.inr (xb_t e36 c39))))).symm)
  · refine kr_aload_n h dX1_table_10 rfl 0 rfl ?_
    refine kr_iload_n h dX1_table_11 rfl 2 rfl ?_
    refine kr_iconst (v := 0) h dX1_table_12 (by decide) ?_
    refine kr_iconst (v := 3) h dX1_table_13 (by decide) ?_
    refine kr_iA h (kc_rV h (m_out l D cI cZ cJ q x t 0 3) mlX1_97 yvX1_out dX1_table_14 rfl rfl ⟨Nat.le_of_ble_eq_true rfl, Nat.le_of_ble_eq_true rfl⟩ ⟨Nat.le_of_ble_eq_true rfl, Nat.le_of_ble_eq_true rfl⟩ (Nat.le_of_ble_eq_true rfl) [0, 1, 2, 3, 4, 5, 6, 7, 8, 9, 10, 11, 12, 13, 14, 15, 16, 17, 18, 19] rfl rfl 0 rfl rfl rfl) (fun v14 e14 => ?_)
    refine kr_if_ne h 42 dX1_table_17 (by decide) (fun c17 => ?_) (fun c17 => ?_)
    · refine kr_aload_n h dX1_table_42 rfl 0 rfl ?_
      refine kr_iconst (v := 1) h dX1_table_43 (by decide) ?_
      refine kr_iA h (kc_rV h (m_fail l D cI cZ cJ q x 1) mlX1_101 yvX1_fail dX1_table_44 rfl rfl ⟨Nat.le_of_ble_eq_true rfl, Nat.le_of_ble_eq_true rfl⟩ ⟨Nat.le_of_ble_eq_true rfl, Nat.le_of_ble_eq_true rfl⟩ (Nat.le_of_ble_eq_true rfl) [0, 1, 2, 3, 4, 5, 6, 7, 8, 9, 10, 11, 12, 13, 14, 15, 16, 17, 18, 19] rfl rfl 0 rfl rfl rfl) (fun v44 e44 => ?_)
      exact kr_iret h hr hlk dX1_table_47 (e44.trans (if_pos (by first | exact Or.inl (xb_t e4 c7) | exact Or.inr (Or.inl (xb_t e14 c17)) | exact Or.inr (Or.inr (Or.inl (xb_t e25 c28))) | exact Or.inr (Or.inr (Or.inr (xb_t e36 c39))))).symm) (congrArg _ (if_pos (by first | exact Or.inl (xb_t e4 c7) | exact Or.inr (Or.inl (xb_t e14 c17)) | exact Or.inr (Or.inr (Or.inl (xb_t e25 c28))) | exact Or.inr (Or.inr (Or.inr (xb_t e36 c39))))).symm)
    · refine kr_aload_n h dX1_table_20 rfl 0 rfl ?_
      refine kr_iload_n h dX1_table_21 rfl 3 rfl ?_
      refine kr_iconst (v := 0) h dX1_table_22 (by decide) ?_
      refine kr_bipush (v := 7) h dX1_table_23 (by decide) ?_
      refine kr_iA h (kc_rV h (m_out l D cI cZ cJ q x s 0 7) mlX1_97 yvX1_out dX1_table_25 rfl rfl ⟨Nat.le_of_ble_eq_true rfl, Nat.le_of_ble_eq_true rfl⟩ ⟨Nat.le_of_ble_eq_true rfl, Nat.le_of_ble_eq_true rfl⟩ (Nat.le_of_ble_eq_true rfl) [0, 1, 2, 3, 4, 5, 6, 7, 8, 9, 10, 11, 12, 13, 14, 15, 16, 17, 18, 19] rfl rfl 0 rfl rfl rfl) (fun v25 e25 => ?_)
      refine kr_if_ne h 42 dX1_table_28 (by decide) (fun c28 => ?_) (fun c28 => ?_)
      · refine kr_aload_n h dX1_table_42 rfl 0 rfl ?_
        refine kr_iconst (v := 1) h dX1_table_43 (by decide) ?_
        refine kr_iA h (kc_rV h (m_fail l D cI cZ cJ q x 1) mlX1_101 yvX1_fail dX1_table_44 rfl rfl ⟨Nat.le_of_ble_eq_true rfl, Nat.le_of_ble_eq_true rfl⟩ ⟨Nat.le_of_ble_eq_true rfl, Nat.le_of_ble_eq_true rfl⟩ (Nat.le_of_ble_eq_true rfl) [0, 1, 2, 3, 4, 5, 6, 7, 8, 9, 10, 11, 12, 13, 14, 15, 16, 17, 18, 19] rfl rfl 0 rfl rfl rfl) (fun v44 e44 => ?_)
        exact kr_iret h hr hlk dX1_table_47 (e44.trans (if_pos (by first | exact Or.inl (xb_t e4 c7) | exact Or.inr (Or.inl (xb_t e14 c17)) | exact Or.inr (Or.inr (Or.inl (xb_t e25 c28))) | exact Or.inr (Or.inr (Or.inr (xb_t e36 c39))))).symm) (congrArg _ (if_pos (by first | exact Or.inl (xb_t e4 c7) | exact Or.inr (Or.inl (xb_t e14 c17)) | exact Or.inr (Or.inr (Or.inl (xb_t e25 c28))) | exact Or.inr (Or.inr (Or.inr (xb_t e36 c39))))).symm)
      · refine kr_aload_n h dX1_table_31 rfl 0 rfl ?_
        refine kr_iload h dX1_table_32 4 rfl ?_
        refine kr_iconst (v := 0) h dX1_table_34 (by decide) ?_
        refine kr_iconst (v := 5) h dX1_table_35 (by decide) ?_
        refine kr_iA h (kc_rV h (m_out l D cI cZ cJ q x n 0 5) mlX1_97 yvX1_out dX1_table_36 rfl rfl ⟨Nat.le_of_ble_eq_true rfl, Nat.le_of_ble_eq_true rfl⟩ ⟨Nat.le_of_ble_eq_true rfl, Nat.le_of_ble_eq_true rfl⟩ (Nat.le_of_ble_eq_true rfl) [0, 1, 2, 3, 4, 5, 6, 7, 8, 9, 10, 11, 12, 13, 14, 15, 16, 17, 18, 19] rfl rfl 0 rfl rfl rfl) (fun v36 e36 => ?_)
        refine kr_if_eq h 48 dX1_table_39 (by decide) (fun c39 => ?_) (fun c39 => ?_)
        · refine kr_iload_n h dX1_table_48 rfl 1 rfl ?_
          refine kr_bipush (v := 32) h dX1_table_49 (by decide) ?_
          refine kr_imul h dX1_table_51 (fun v51 e51 => ?_)
          refine kr_iload_n h dX1_table_52 rfl 2 rfl ?_
          refine kr_bipush (v := 8) h dX1_table_53 (by decide) ?_
          refine kr_imul h dX1_table_55 (fun v55 e55 => ?_)
          refine kr_iadd h dX1_table_56 (fun v56 e56 => ?_)
          refine kr_iload_n h dX1_table_57 rfl 3 rfl ?_
          refine kr_iadd h dX1_table_58 (fun v58 e58 => ?_)
          refine kr_istore (lv' := [(5, .int v58), (0, .ref (q 0)), (1, .int k), (2, .int t), (3, .int s), (4, .int n)]) h dX1_table_59 (by decide) rfl ?_
          refine kr_aload_n h dX1_table_61 rfl 1 rfl ?_
          refine kr_get h FX1ok 0 17 dX1_table_62 flX1_64 rfl rfl (by decide) rfl rfl ?_
          refine kr_iload h dX1_table_65 0 rfl ?_
          refine kr_iald h 9 0 dX1_table_67 rfl rfl (by rw [e58, e56, e51, e55]; exact yTab_in (fun z => by rcases z with z | z | z | z; exact xb_f e4 c7 z; exact xb_f e14 c17 z; exact xb_f e25 c28 z; exact xb_f e36 c39 z)) (fun v67 e67 => ?_)
          refine kr_istore (lv' := [(6, .int v67), (5, .int v58), (0, .ref (q 0)), (1, .int k), (2, .int t), (3, .int s), (4, .int n)]) h dX1_table_68 (by decide) rfl ?_
          refine kr_aload_n h dX1_table_70 rfl 2 rfl ?_
          refine kr_get h FX1ok 0 17 dX1_table_71 flX1_64 rfl rfl (by decide) rfl rfl ?_
          refine kr_iload h dX1_table_74 1 rfl ?_
          refine kr_iload h dX1_table_76 6 rfl ?_
          refine kr_iast (ws' := wY cI cZ q (xA x 8 (upd (x.1 8) (tn v58) n))) h 9 0 dX1_table_78 rfl rfl (by rw [e58, e56, e51, e55]; exact yTab_in (fun z => by rcases z with z | z | z | z; exact xb_f e4 c7 z; exact xb_f e14 c17 z; exact xb_f e25 c28 z; exact xb_f e36 c39 z)) (wY_r8 cI cZ q x _) ?_
          refine kr_aload_n h dX1_table_79 rfl 2 rfl ?_
          refine kr_iload h dX1_table_80 0 rfl ?_
          refine kr_iA h (kc_rV h (m_fine l D cI cZ cJ q (xA x 8 (upd (x.1 8) (tn v58) n)) v67) mlX1_105 yvX1_fine dX1_table_82 rfl rfl ⟨Nat.le_of_ble_eq_true rfl, Nat.le_of_ble_eq_true rfl⟩ ⟨Nat.le_of_ble_eq_true rfl, Nat.le_of_ble_eq_true rfl⟩ (Nat.le_of_ble_eq_true rfl) [0, 1, 2, 3, 4, 5, 6, 7, 8, 9, 10, 11, 12, 13, 14, 15, 16, 17, 18, 19] rfl rfl 0 rfl rfl rfl) (fun v82 e82 => ?_)
          exact kr_iret h hr hlk dX1_table_85 (by rw [yTabR, if_neg (fun z => by rcases z with z | z | z | z; exact xb_f e4 c7 z; exact xb_f e14 c17 z; exact xb_f e25 c28 z; exact xb_f e36 c39 z), e82, e67, e58, e56, e51, e55]; rfl) (congrArg _ (by rw [yTabX, if_neg (fun z => by rcases z with z | z | z | z; exact xb_f e4 c7 z; exact xb_f e14 c17 z; exact xb_f e25 c28 z; exact xb_f e36 c39 z), e58, e56, e51, e55]; rfl))
        · refine kr_aload_n h dX1_table_42 rfl 0 rfl ?_
          refine kr_iconst (v := 1) h dX1_table_43 (by decide) ?_
          refine kr_iA h (kc_rV h (m_fail l D cI cZ cJ q x 1) mlX1_101 yvX1_fail dX1_table_44 rfl rfl ⟨Nat.le_of_ble_eq_true rfl, Nat.le_of_ble_eq_true rfl⟩ ⟨Nat.le_of_ble_eq_true rfl, Nat.le_of_ble_eq_true rfl⟩ (Nat.le_of_ble_eq_true rfl) [0, 1, 2, 3, 4, 5, 6, 7, 8, 9, 10, 11, 12, 13, 14, 15, 16, 17, 18, 19] rfl rfl 0 rfl rfl rfl) (fun v44 e44 => ?_)
          exact kr_iret h hr hlk dX1_table_47 (e44.trans (if_pos (by first | exact Or.inl (xb_t e4 c7) | exact Or.inr (Or.inl (xb_t e14 c17)) | exact Or.inr (Or.inr (Or.inl (xb_t e25 c28))) | exact Or.inr (Or.inr (Or.inr (xb_t e36 c39))))).symm) (congrArg _ (if_pos (by first | exact Or.inl (xb_t e4 c7) | exact Or.inr (Or.inl (xb_t e14 c17)) | exact Or.inr (Or.inr (Or.inl (xb_t e25 c28))) | exact Or.inr (Or.inr (Or.inr (xb_t e36 c39))))).symm)
set_option maxHeartbeats 4000000 in
set_option maxRecDepth 100000 in
theorem m_total (l : Launch) (D : va_G) (cI cZ cJ : ClassId) (q : Nat → Nat) (x : xSt) (s : Int32) : kc_M l yX1_total cX1_total 2 (some .int) 1 23 0 0 [.ref (q 0), .int s] D vwCl (tyL cI cZ cJ) (wY cI cZ q x) (some (.int (yTotR x s))) (wY cI cZ q (yTotX x s)) := by
  refine kc_start RX1 (by decide +kernel) rfl (Nat.le_of_ble_eq_true rfl) ?_
  intro zp ze zs zm zb zt zc h hr hlk hnm
  refine kr_aload_n h dX1_total_0 rfl 0 rfl ?_
  refine kr_iload_n h dX1_total_1 rfl 1 rfl ?_
  refine kr_iconst (v := 0) h dX1_total_2 (by decide) ?_
  refine kr_bipush (v := 7) h dX1_total_3 (by decide) ?_
  refine kr_iA h (kc_rV h (m_out l D cI cZ cJ q x s 0 7) mlX1_97 yvX1_out dX1_total_5 rfl rfl ⟨Nat.le_of_ble_eq_true rfl, Nat.le_of_ble_eq_true rfl⟩ ⟨Nat.le_of_ble_eq_true rfl, Nat.le_of_ble_eq_true rfl⟩ (Nat.le_of_ble_eq_true rfl) [0, 1, 2, 3, 4, 5, 6, 7, 8, 9, 10, 11, 12, 13, 14, 15, 16, 17, 18, 19] rfl rfl 0 rfl rfl rfl) (fun v5 e5 => ?_)
  refine kr_if_eq h 19 dX1_total_8 (by decide) (fun c8 => ?_) (fun c8 => ?_)
  · refine kr_aload_n h dX1_total_19 rfl 0 rfl ?_
    refine kr_aload_n h dX1_total_20 rfl 0 rfl ?_
    refine kr_get h FX1ok 0 18 dX1_total_21 flX1_67 rfl rfl (by decide) rfl rfl ?_
    refine kr_iload_n h dX1_total_24 rfl 1 rfl ?_
    refine kr_iald h 10 0 dX1_total_25 rfl rfl (xSo_in (pOut_in (xb_f e5 c8))) (fun v25 e25 => ?_)
    refine kr_iA h (kc_rV h (m_fine l D cI cZ cJ q x v25) mlX1_105 yvX1_fine dX1_total_26 rfl rfl ⟨Nat.le_of_ble_eq_true rfl, Nat.le_of_ble_eq_true rfl⟩ ⟨Nat.le_of_ble_eq_true rfl, Nat.le_of_ble_eq_true rfl⟩ (Nat.le_of_ble_eq_true rfl) [0, 1, 2, 3, 4, 5, 6, 7, 8, 9, 10, 11, 12, 13, 14, 15, 16, 17, 18, 19] rfl rfl 0 rfl rfl rfl) (fun v26 e26 => ?_)
    exact kr_iret h hr hlk dX1_total_29 (by first | exact e13.trans (if_pos (xb_t e5 c8)).symm | exact (e26.trans e25).trans (if_neg (xb_f e5 c8)).symm) (congrArg _ (by first | exact (if_pos (xb_t e5 c8)).symm | exact (if_neg (xb_f e5 c8)).symm))
  · refine kr_aload_n h dX1_total_11 rfl 0 rfl ?_
    refine kr_iconst (v := 1) h dX1_total_12 (by decide) ?_
    refine kr_iA h (kc_rV h (m_fail l D cI cZ cJ q x 1) mlX1_101 yvX1_fail dX1_total_13 rfl rfl ⟨Nat.le_of_ble_eq_true rfl, Nat.le_of_ble_eq_true rfl⟩ ⟨Nat.le_of_ble_eq_true rfl, Nat.le_of_ble_eq_true rfl⟩ (Nat.le_of_ble_eq_true rfl) [0, 1, 2, 3, 4, 5, 6, 7, 8, 9, 10, 11, 12, 13, 14, 15, 16, 17, 18, 19] rfl rfl 0 rfl rfl rfl) (fun v13 e13 => ?_)
    refine kr_goto h 29 dX1_total_16 (by decide) ?_
    exact kr_iret h hr hlk dX1_total_29 (by first | exact e13.trans (if_pos (xb_t e5 c8)).symm | exact (e26.trans e25).trans (if_neg (xb_f e5 c8)).symm) (congrArg _ (by first | exact (if_pos (xb_t e5 c8)).symm | exact (if_neg (xb_f e5 c8)).symm))
set_option maxHeartbeats 4000000 in
set_option maxRecDepth 100000 in
theorem m_state (l : Launch) (D : va_G) (cI cZ cJ : ClassId) (q : Nat → Nat) (x : xSt) (p : Int32) (hN : xN x) : kc_M l yX1_state cX1_state 2 (some .int) 1 21 0 0 [.ref (q 0), .int p] D vwCl (tyL cI cZ cJ) (wY cI cZ q x) (some (.int (yStaR x p))) (wY cI cZ q (xI x 6 0)) := by
  refine kc_start RX1 (by decide +kernel) rfl (Nat.le_of_ble_eq_true rfl) ?_
  intro zp ze zs zm zb zt zc h hr hlk hnm
  refine kr_aload_n h dX1_state_0 rfl 0 rfl ?_
  refine kr_aload_n h dX1_state_1 rfl 0 rfl ?_
  refine kr_iload_n h dX1_state_2 rfl 1 rfl ?_
  refine kr_iA h (kc_rV h (m_no l D cI cZ cJ q x p) mlX1_112 yvX1_no dX1_state_3 rfl rfl ⟨Nat.le_of_ble_eq_true rfl, Nat.le_of_ble_eq_true rfl⟩ ⟨Nat.le_of_ble_eq_true rfl, Nat.le_of_ble_eq_true rfl⟩ (Nat.le_of_ble_eq_true rfl) [0, 1, 2, 3, 4, 5, 6, 7, 8, 9, 10, 11, 12, 13, 14, 15, 16, 17, 18, 19] rfl rfl 0 rfl rfl rfl) (fun v3 e3 => ?_)
  refine kr_if_ne h 30 dX1_state_6 (by decide) (fun c6 => ?_) (fun c6 => ?_)
  · refine kr_iconst (v := (-1)) h dX1_state_30 (by decide) ?_
    refine kr_goto h 40 dX1_state_31 (by decide) ?_
    refine kr_iA h (kc_rV h (m_fine l D cI cZ cJ q x ((-1))) mlX1_105 yvX1_fine dX1_state_40 rfl rfl ⟨Nat.le_of_ble_eq_true rfl, Nat.le_of_ble_eq_true rfl⟩ ⟨Nat.le_of_ble_eq_true rfl, Nat.le_of_ble_eq_true rfl⟩ (Nat.le_of_ble_eq_true rfl) [0, 1, 2, 3, 4, 5, 6, 7, 8, 9, 10, 11, 12, 13, 14, 15, 16, 17, 18, 19] rfl rfl 0 rfl rfl rfl) (fun v40 e40 => ?_)
    exact kr_iret h hr hlk dX1_state_43 (by rw [yStaR, e40]; first | rw [if_pos (xb_t e3 c6)] | (rw [if_neg (xb_f e3 c6)]; first | (rw [if_pos (Or.inl (e14.symm.trans c16))]; exact e39) | (rw [if_pos (Or.inr (e24.symm.trans c27))]; exact e39) | rw [if_neg (fun z => z.elim (fun z => c16 (e14.trans z)) (fun z => c27 (e24.trans z)))])) (rfl)
  · refine kr_aload_n h dX1_state_9 rfl 0 rfl ?_
    refine kr_get h FX1ok 0 9 dX1_state_10 flX1_38 rfl rfl (by decide) rfl rfl ?_
    refine kr_iload_n h dX1_state_13 rfl 1 rfl ?_
    refine kr_iald h 1 0 dX1_state_14 rfl rfl (pNo_in hN (xb_f e3 c6)) (fun v14 e14 => ?_)
    refine kr_iconst (v := 3) h dX1_state_15 (by decide) ?_
    refine kr_icmp_eq h 34 dX1_state_16 (by decide) (fun c16 => ?_) (fun c16 => ?_)
    · refine kr_aload_n h dX1_state_34 rfl 0 rfl ?_
      refine kr_get h FX1ok 0 14 dX1_state_35 flX1_54 rfl rfl (by decide) rfl rfl ?_
      refine kr_iload_n h dX1_state_38 rfl 1 rfl ?_
      refine kr_iald h 6 0 dX1_state_39 rfl rfl (pNo_in hN (xb_f e3 c6)) (fun v39 e39 => ?_)
      refine kr_iA h (kc_rV h (m_fine l D cI cZ cJ q x v39) mlX1_105 yvX1_fine dX1_state_40 rfl rfl ⟨Nat.le_of_ble_eq_true rfl, Nat.le_of_ble_eq_true rfl⟩ ⟨Nat.le_of_ble_eq_true rfl, Nat.le_of_ble_eq_true rfl⟩ (Nat.le_of_ble_eq_true rfl) [0, 1, 2, 3, 4, 5, 6, 7, 8, 9, 10, 11, 12, 13, 14, 15, 16, 17, 18, 19] rfl rfl 0 rfl rfl rfl) (fun v40 e40 => ?_)
      exact kr_iret h hr hlk dX1_state_43 (by rw [yStaR, e40]; first | rw [if_pos (xb_t e3 c6)] | (rw [if_neg (xb_f e3 c6)]; first | (rw [if_pos (Or.inl (e14.symm.trans c16))]; exact e39) | (rw [if_pos (Or.inr (e24.symm.trans c27))]; exact e39) | rw [if_neg (fun z => z.elim (fun z => c16 (e14.trans z)) (fun z => c27 (e24.trans z)))])) (rfl)
    · refine kr_aload_n h dX1_state_19 rfl 0 rfl ?_
      refine kr_get h FX1ok 0 9 dX1_state_20 flX1_38 rfl rfl (by decide) rfl rfl ?_
      refine kr_iload_n h dX1_state_23 rfl 1 rfl ?_
      refine kr_iald h 1 0 dX1_state_24 rfl rfl (pNo_in hN (xb_f e3 c6)) (fun v24 e24 => ?_)
      refine kr_bipush (v := 6) h dX1_state_25 (by decide) ?_
      refine kr_icmp_eq h 34 dX1_state_27 (by decide) (fun c27 => ?_) (fun c27 => ?_)
      · refine kr_aload_n h dX1_state_34 rfl 0 rfl ?_
        refine kr_get h FX1ok 0 14 dX1_state_35 flX1_54 rfl rfl (by decide) rfl rfl ?_
        refine kr_iload_n h dX1_state_38 rfl 1 rfl ?_
        refine kr_iald h 6 0 dX1_state_39 rfl rfl (pNo_in hN (xb_f e3 c6)) (fun v39 e39 => ?_)
        refine kr_iA h (kc_rV h (m_fine l D cI cZ cJ q x v39) mlX1_105 yvX1_fine dX1_state_40 rfl rfl ⟨Nat.le_of_ble_eq_true rfl, Nat.le_of_ble_eq_true rfl⟩ ⟨Nat.le_of_ble_eq_true rfl, Nat.le_of_ble_eq_true rfl⟩ (Nat.le_of_ble_eq_true rfl) [0, 1, 2, 3, 4, 5, 6, 7, 8, 9, 10, 11, 12, 13, 14, 15, 16, 17, 18, 19] rfl rfl 0 rfl rfl rfl) (fun v40 e40 => ?_)
        exact kr_iret h hr hlk dX1_state_43 (by rw [yStaR, e40]; first | rw [if_pos (xb_t e3 c6)] | (rw [if_neg (xb_f e3 c6)]; first | (rw [if_pos (Or.inl (e14.symm.trans c16))]; exact e39) | (rw [if_pos (Or.inr (e24.symm.trans c27))]; exact e39) | rw [if_neg (fun z => z.elim (fun z => c16 (e14.trans z)) (fun z => c27 (e24.trans z)))])) (rfl)
      · refine kr_iconst (v := (-1)) h dX1_state_30 (by decide) ?_
        refine kr_goto h 40 dX1_state_31 (by decide) ?_
        refine kr_iA h (kc_rV h (m_fine l D cI cZ cJ q x ((-1))) mlX1_105 yvX1_fine dX1_state_40 rfl rfl ⟨Nat.le_of_ble_eq_true rfl, Nat.le_of_ble_eq_true rfl⟩ ⟨Nat.le_of_ble_eq_true rfl, Nat.le_of_ble_eq_true rfl⟩ (Nat.le_of_ble_eq_true rfl) [0, 1, 2, 3, 4, 5, 6, 7, 8, 9, 10, 11, 12, 13, 14, 15, 16, 17, 18, 19] rfl rfl 0 rfl rfl rfl) (fun v40 e40 => ?_)
        exact kr_iret h hr hlk dX1_state_43 (by rw [yStaR, e40]; first | rw [if_pos (xb_t e3 c6)] | (rw [if_neg (xb_f e3 c6)]; first | (rw [if_pos (Or.inl (e14.symm.trans c16))]; exact e39) | (rw [if_pos (Or.inr (e24.symm.trans c27))]; exact e39) | rw [if_neg (fun z => z.elim (fun z => c16 (e14.trans z)) (fun z => c27 (e24.trans z)))])) (rfl)
set_option maxHeartbeats 4000000 in
set_option maxRecDepth 100000 in
theorem m_noted (l : Launch) (D : va_G) (cI cZ cJ : ClassId) (q : Nat → Nat) (x : xSt) (k : Int32) : kc_M l yX1_noted cX1_noted 2 (some .int) 1 21 0 0 [.ref (q 0), .int k] D vwCl (tyL cI cZ cJ) (wY cI cZ q x) (some (.int (yNotR x k))) (wY cI cZ q (xI x 6 0)) := by
  refine kc_start RX1 (by decide +kernel) rfl (Nat.le_of_ble_eq_true rfl) ?_
  intro zp ze zs zm zb zt zc h hr hlk hnm
  refine kr_aload_n h dX1_noted_0 rfl 0 rfl ?_
  refine kr_iload_n h dX1_noted_1 rfl 1 rfl ?_
  refine kr_if_lt h 19 dX1_noted_2 (by decide) (fun c2 => ?_) (fun c2 => ?_)
  · refine kr_iconst (v := (-1)) h dX1_noted_19 (by decide) ?_
    refine kr_goto h 29 dX1_noted_20 (by decide) ?_
    refine kr_iA h (kc_rV h (m_fine l D cI cZ cJ q x ((-1))) mlX1_105 yvX1_fine dX1_noted_29 rfl rfl ⟨Nat.le_of_ble_eq_true rfl, Nat.le_of_ble_eq_true rfl⟩ ⟨Nat.le_of_ble_eq_true rfl, Nat.le_of_ble_eq_true rfl⟩ (Nat.le_of_ble_eq_true rfl) [0, 1, 2, 3, 4, 5, 6, 7, 8, 9, 10, 11, 12, 13, 14, 15, 16, 17, 18, 19] rfl rfl 0 rfl rfl rfl) (fun v29 e29 => ?_)
    exact kr_iret h hr hlk dX1_noted_32 (by rw [yNotR, e29]; first | rw [if_pos (Or.inl c2)] | rw [if_pos (Or.inr (Or.inl c8))] | rw [if_pos (Or.inr (Or.inr (by rw [← e13]; exact c16)))] | (rw [if_neg (fun z => by rcases z with z | z | z; exact c2 z; exact c8 z; exact z (by rw [← e13]; exact c16))]; exact e28)) (rfl)
  · refine kr_iload_n h dX1_noted_5 rfl 1 rfl ?_
    refine kr_bipush (v := 15) h dX1_noted_6 (by decide) ?_
    refine kr_icmp_gt h 19 dX1_noted_8 (by decide) (fun c8 => ?_) (fun c8 => ?_)
    · refine kr_iconst (v := (-1)) h dX1_noted_19 (by decide) ?_
      refine kr_goto h 29 dX1_noted_20 (by decide) ?_
      refine kr_iA h (kc_rV h (m_fine l D cI cZ cJ q x ((-1))) mlX1_105 yvX1_fine dX1_noted_29 rfl rfl ⟨Nat.le_of_ble_eq_true rfl, Nat.le_of_ble_eq_true rfl⟩ ⟨Nat.le_of_ble_eq_true rfl, Nat.le_of_ble_eq_true rfl⟩ (Nat.le_of_ble_eq_true rfl) [0, 1, 2, 3, 4, 5, 6, 7, 8, 9, 10, 11, 12, 13, 14, 15, 16, 17, 18, 19] rfl rfl 0 rfl rfl rfl) (fun v29 e29 => ?_)
      exact kr_iret h hr hlk dX1_noted_32 (by rw [yNotR, e29]; first | rw [if_pos (Or.inl c2)] | rw [if_pos (Or.inr (Or.inl c8))] | rw [if_pos (Or.inr (Or.inr (by rw [← e13]; exact c16)))] | (rw [if_neg (fun z => by rcases z with z | z | z; exact c2 z; exact c8 z; exact z (by rw [← e13]; exact c16))]; exact e28)) (rfl)
    · refine kr_iload_n h dX1_noted_11 rfl 1 rfl ?_
      refine kr_aload_n h dX1_noted_12 rfl 0 rfl ?_
      refine kr_get h FX1ok 0 2 dX1_noted_13 flX1_16 rfl rfl (by decide) rfl rfl ?_
      refine kr_top h (fun v13 e13 => ?_)
      refine kr_icmp_lt h 23 dX1_noted_16 (by decide) (fun c16 => ?_) (fun c16 => ?_)
      · refine kr_aload_n h dX1_noted_23 rfl 0 rfl ?_
        refine kr_get h FX1ok 0 19 dX1_noted_24 flX1_70 rfl rfl (by decide) rfl rfl ?_
        refine kr_iload_n h dX1_noted_27 rfl 1 rfl ?_
        refine kr_iald h 11 0 dX1_noted_28 rfl rfl (yNot_in c2 c8) (fun v28 e28 => ?_)
        refine kr_iA h (kc_rV h (m_fine l D cI cZ cJ q x v28) mlX1_105 yvX1_fine dX1_noted_29 rfl rfl ⟨Nat.le_of_ble_eq_true rfl, Nat.le_of_ble_eq_true rfl⟩ ⟨Nat.le_of_ble_eq_true rfl, Nat.le_of_ble_eq_true rfl⟩ (Nat.le_of_ble_eq_true rfl) [0, 1, 2, 3, 4, 5, 6, 7, 8, 9, 10, 11, 12, 13, 14, 15, 16, 17, 18, 19] rfl rfl 0 rfl rfl rfl) (fun v29 e29 => ?_)
        exact kr_iret h hr hlk dX1_noted_32 (by rw [yNotR, e29]; first | rw [if_pos (Or.inl c2)] | rw [if_pos (Or.inr (Or.inl c8))] | rw [if_pos (Or.inr (Or.inr (by rw [← e13]; exact c16)))] | (rw [if_neg (fun z => by rcases z with z | z | z; exact c2 z; exact c8 z; exact z (by rw [← e13]; exact c16))]; exact e28)) (rfl)
      · refine kr_iconst (v := (-1)) h dX1_noted_19 (by decide) ?_
        refine kr_goto h 29 dX1_noted_20 (by decide) ?_
        refine kr_iA h (kc_rV h (m_fine l D cI cZ cJ q x ((-1))) mlX1_105 yvX1_fine dX1_noted_29 rfl rfl ⟨Nat.le_of_ble_eq_true rfl, Nat.le_of_ble_eq_true rfl⟩ ⟨Nat.le_of_ble_eq_true rfl, Nat.le_of_ble_eq_true rfl⟩ (Nat.le_of_ble_eq_true rfl) [0, 1, 2, 3, 4, 5, 6, 7, 8, 9, 10, 11, 12, 13, 14, 15, 16, 17, 18, 19] rfl rfl 0 rfl rfl rfl) (fun v29 e29 => ?_)
        exact kr_iret h hr hlk dX1_noted_32 (by rw [yNotR, e29]; first | rw [if_pos (Or.inl c2)] | rw [if_pos (Or.inr (Or.inl c8))] | rw [if_pos (Or.inr (Or.inr (by rw [← e13]; exact c16)))] | (rw [if_neg (fun z => by rcases z with z | z | z; exact c2 z; exact c8 z; exact z (by rw [← e13]; exact c16))]; exact e28)) (rfl)
set_option maxHeartbeats 4000000 in
set_option maxRecDepth 100000 in
theorem m_count (l : Launch) (D : va_G) (cI cZ cJ : ClassId) (q : Nat → Nat) (x : xSt) (w : Int32) : kc_M l yX1_count cX1_count 2 (some .int) 0 0 0 0 [.ref (q 0), .int w] D vwCl (tyL cI cZ cJ) (wY cI cZ q x) (some (.int (yCntR x w))) (wY cI cZ q (xI x 6 0)) := by
  refine kc_start RX1 (by decide +kernel) rfl (Nat.le_of_ble_eq_true rfl) ?_
  intro zp ze zs zm zb zt zc h hr hlk hnm
  refine kr_aload_n h dX1_count_0 rfl 0 rfl ?_
  refine kr_iconst (v := 0) h dX1_count_1 (by decide) ?_
  refine kr_put (ws' := wY cI cZ q (xI x 6 0)) h FX1ok 0 6 dX1_count_2 flX1_28 rfl rfl (by decide) rfl rfl rfl rfl (Nat.le_of_ble_eq_true rfl) rfl ?_
  refine kr_iload_n h dX1_count_5 rfl 1 rfl ?_
  refine kr_if_ne h 16 dX1_count_6 (by decide) (fun c6 => ?_) (fun c6 => ?_)
  · refine kr_iload_n h dX1_count_16 rfl 1 rfl ?_
    refine kr_iconst (v := 1) h dX1_count_17 (by decide) ?_
    refine kr_icmp_ne h 28 dX1_count_18 (by decide) (fun c18 => ?_) (fun c18 => ?_)
    · refine kr_iload_n h dX1_count_28 rfl 1 rfl ?_
      refine kr_iconst (v := 2) h dX1_count_29 (by decide) ?_
      refine kr_icmp_ne h 40 dX1_count_30 (by decide) (fun c30 => ?_) (fun c30 => ?_)
      · refine kr_iload_n h dX1_count_40 rfl 1 rfl ?_
        refine kr_iconst (v := 3) h dX1_count_41 (by decide) ?_
        refine kr_icmp_ne h 52 dX1_count_42 (by decide) (fun c42 => ?_) (fun c42 => ?_)
        · refine kr_iload_n h dX1_count_52 rfl 1 rfl ?_
          refine kr_iconst (v := 4) h dX1_count_53 (by decide) ?_
          refine kr_icmp_ne h 64 dX1_count_54 (by decide) (fun c54 => ?_) (fun c54 => ?_)
          · refine kr_iload_n h dX1_count_64 rfl 1 rfl ?_
            refine kr_iconst (v := 5) h dX1_count_65 (by decide) ?_
            refine kr_icmp_ne h 84 dX1_count_66 (by decide) (fun c66 => ?_) (fun c66 => ?_)
            · refine kr_iload_n h dX1_count_84 rfl 1 rfl ?_
              refine kr_bipush (v := 6) h dX1_count_85 (by decide) ?_
              refine kr_icmp_ne h 97 dX1_count_87 (by decide) (fun c87 => ?_) (fun c87 => ?_)
              · refine kr_iconst (v := (-1)) h dX1_count_97 (by decide) ?_
                exact kr_iret h hr hlk dX1_count_98 (by clear h hr hlk hnm; subst_vars; simp_all [yCntR, xI, va_up]) (rfl)
              · refine kr_aload_n h dX1_count_90 rfl 0 rfl ?_
                refine kr_get h FX1ok 0 1 dX1_count_91 flX1_13 rfl rfl (by decide) rfl rfl ?_
                refine kr_top h (fun v91 e91 => ?_)
                refine kr_goto h 98 dX1_count_94 (by decide) ?_
                exact kr_iret h hr hlk dX1_count_98 (by clear h hr hlk hnm; subst_vars; simp_all [yCntR, xI, va_up]) (rfl)
            · refine kr_aload_n h dX1_count_69 rfl 0 rfl ?_
              refine kr_get h FX1ok 0 8 dX1_count_70 flX1_34 rfl rfl (by decide) rfl rfl ?_
              refine kr_top h (fun v70 e70 => ?_)
              refine kr_if_eq h 80 dX1_count_73 (by decide) (fun c73 => ?_) (fun c73 => ?_)
              · refine kr_iconst (v := 0) h dX1_count_80 (by decide) ?_
                refine kr_goto h 98 dX1_count_81 (by decide) ?_
                exact kr_iret h hr hlk dX1_count_98 (by clear h hr hlk hnm; subst_vars; simp_all [yCntR, xI, va_up]) (rfl)
              · refine kr_iconst (v := 1) h dX1_count_76 (by decide) ?_
                refine kr_goto h 98 dX1_count_77 (by decide) ?_
                exact kr_iret h hr hlk dX1_count_98 (by clear h hr hlk hnm; subst_vars; simp_all [yCntR, xI, va_up]) (rfl)
          · refine kr_aload_n h dX1_count_57 rfl 0 rfl ?_
            refine kr_get h FX1ok 0 5 dX1_count_58 flX1_25 rfl rfl (by decide) rfl rfl ?_
            refine kr_top h (fun v58 e58 => ?_)
            refine kr_goto h 98 dX1_count_61 (by decide) ?_
            exact kr_iret h hr hlk dX1_count_98 (by clear h hr hlk hnm; subst_vars; simp_all [yCntR, xI, va_up]) (rfl)
        · refine kr_aload_n h dX1_count_45 rfl 0 rfl ?_
          refine kr_get h FX1ok 0 4 dX1_count_46 flX1_22 rfl rfl (by decide) rfl rfl ?_
          refine kr_top h (fun v46 e46 => ?_)
          refine kr_goto h 98 dX1_count_49 (by decide) ?_
          exact kr_iret h hr hlk dX1_count_98 (by clear h hr hlk hnm; subst_vars; simp_all [yCntR, xI, va_up]) (rfl)
      · refine kr_aload_n h dX1_count_33 rfl 0 rfl ?_
        refine kr_get h FX1ok 0 3 dX1_count_34 flX1_19 rfl rfl (by decide) rfl rfl ?_
        refine kr_top h (fun v34 e34 => ?_)
        refine kr_goto h 98 dX1_count_37 (by decide) ?_
        exact kr_iret h hr hlk dX1_count_98 (by clear h hr hlk hnm; subst_vars; simp_all [yCntR, xI, va_up]) (rfl)
    · refine kr_aload_n h dX1_count_21 rfl 0 rfl ?_
      refine kr_get h FX1ok 0 2 dX1_count_22 flX1_16 rfl rfl (by decide) rfl rfl ?_
      refine kr_top h (fun v22 e22 => ?_)
      refine kr_goto h 98 dX1_count_25 (by decide) ?_
      exact kr_iret h hr hlk dX1_count_98 (by clear h hr hlk hnm; subst_vars; simp_all [yCntR, xI, va_up]) (rfl)
  · refine kr_aload_n h dX1_count_9 rfl 0 rfl ?_
    refine kr_get h FX1ok 0 0 dX1_count_10 flX1_7 rfl rfl (by decide) rfl rfl ?_
    refine kr_top h (fun v10 e10 => ?_)
    refine kr_goto h 98 dX1_count_13 (by decide) ?_
    exact kr_iret h hr hlk dX1_count_98 (by clear h hr hlk hnm; subst_vars; simp_all [yCntR, xI, va_up]) (rfl)
