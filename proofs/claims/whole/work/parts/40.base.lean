set_option maxHeartbeats 4000000 in
set_option maxRecDepth 100000 in
theorem c_isBelow (l : Launch) (D : va_G) (cI cZ cJ : ClassId) (a b : Int32) : kc_M l yX0_isBelow cX0_isBelow 2 (some .boolean) 0 0 0 0 [.int a, .int b] D vwCl (tyL cI cZ cJ) [] (some (.int (xb (pBelow a b)))) [] := by
  refine kc_start RX0 (by decide +kernel) rfl (Nat.le_of_ble_eq_true rfl) ?_
  intro zp ze zs zm zb zt zc h hr hlk hnm
  refine kr_iconst (v := 0) h dX0_isBelow_0 (by decide) ?_
  refine kr_iload_n h dX0_isBelow_1 rfl 0 rfl ?_
  refine kr_icmp_gt h 14 dX0_isBelow_2 (by decide) (fun c2 => ?_) (fun c2 => ?_)
  · refine kr_iconst (v := 0) h dX0_isBelow_14 (by decide) ?_
    exact kr_zret h hr hlk dX0_isBelow_15 (rfl) (by clear h hr hlk hnm; simp_all) (rfl)
  · refine kr_iload_n h dX0_isBelow_5 rfl 0 rfl ?_
    refine kr_iload_n h dX0_isBelow_6 rfl 1 rfl ?_
    refine kr_icmp_ge h 14 dX0_isBelow_7 (by decide) (fun c7 => ?_) (fun c7 => ?_)
    · refine kr_iconst (v := 0) h dX0_isBelow_14 (by decide) ?_
      exact kr_zret h hr hlk dX0_isBelow_15 (rfl) (by clear h hr hlk hnm; simp_all) (rfl)
    · refine kr_iconst (v := 1) h dX0_isBelow_10 (by decide) ?_
      refine kr_goto h 15 dX0_isBelow_11 (by decide) ?_
      exact kr_zret h hr hlk dX0_isBelow_15 (rfl) (by clear h hr hlk hnm; simp_all) (rfl)
set_option maxHeartbeats 4000000 in
set_option maxRecDepth 100000 in
theorem c_isSort (l : Launch) (D : va_G) (cI cZ cJ : ClassId) (a : Int32) : kc_M l yX0_isSort cX0_isSort 1 (some .boolean) 1 21 0 0 [.int a] D vwCl (tyL cI cZ cJ) [] (some (.int (xb (pBelow a 8)))) [] := by
  refine kc_start RX0 (by decide +kernel) rfl (Nat.le_of_ble_eq_true rfl) ?_
  intro zp ze zs zm zb zt zc h hr hlk hnm
  refine kr_iload_n h dX0_isSort_0 rfl 0 rfl ?_
  refine kr_bipush (v := 8) h dX0_isSort_1 (by decide) ?_
  refine kr_i0 h (kc_rS h (c_isBelow l D cI cZ cJ a 8) mlX0_52 ysX0_isBelow dX0_isSort_3 rfl rfl ⟨Nat.le_of_ble_eq_true rfl, Nat.le_of_ble_eq_true rfl⟩ ⟨Nat.le_of_ble_eq_true rfl, Nat.le_of_ble_eq_true rfl⟩ (Nat.le_of_ble_eq_true rfl) [] rfl rfl) (fun v3 e3 => ?_)
  exact kr_zret h hr hlk dX0_isSort_6 (kc_nb e3) (e3) (rfl)
set_option maxHeartbeats 4000000 in
set_option maxRecDepth 100000 in
theorem c_isSet (l : Launch) (D : va_G) (cI cZ cJ : ClassId) (a : Int32) : kc_M l yX0_isSet cX0_isSet 1 (some .boolean) 1 21 0 0 [.int a] D vwCl (tyL cI cZ cJ) [] (some (.int (xb (pBelow a 256)))) [] := by
  refine kc_start RX0 (by decide +kernel) rfl (Nat.le_of_ble_eq_true rfl) ?_
  intro zp ze zs zm zb zt zc h hr hlk hnm
  refine kr_iload_n h dX0_isSet_0 rfl 0 rfl ?_
  refine kr_sipush (v := 256) h dX0_isSet_1 (by decide) ?_
  refine kr_i0 h (kc_rS h (c_isBelow l D cI cZ cJ a 256) mlX0_52 ysX0_isBelow dX0_isSet_4 rfl rfl ⟨Nat.le_of_ble_eq_true rfl, Nat.le_of_ble_eq_true rfl⟩ ⟨Nat.le_of_ble_eq_true rfl, Nat.le_of_ble_eq_true rfl⟩ (Nat.le_of_ble_eq_true rfl) [] rfl rfl) (fun v4 e4 => ?_)
  exact kr_zret h hr hlk dX0_isSet_7 (kc_nb e4) (e4) (rfl)
set_option maxHeartbeats 4000000 in
set_option maxRecDepth 100000 in
theorem c_isTable (l : Launch) (D : va_G) (cI cZ cJ : ClassId) (a : Int32) : kc_M l yX0_isTable cX0_isTable 1 (some .boolean) 1 21 0 0 [.int a] D vwCl (tyL cI cZ cJ) [] (some (.int (xb (pBelow a 3)))) [] := by
  refine kc_start RX0 (by decide +kernel) rfl (Nat.le_of_ble_eq_true rfl) ?_
  intro zp ze zs zm zb zt zc h hr hlk hnm
  refine kr_iload_n h dX0_isTable_0 rfl 0 rfl ?_
  refine kr_iconst (v := 3) h dX0_isTable_1 (by decide) ?_
  refine kr_i0 h (kc_rS h (c_isBelow l D cI cZ cJ a 3) mlX0_52 ysX0_isBelow dX0_isTable_2 rfl rfl ⟨Nat.le_of_ble_eq_true rfl, Nat.le_of_ble_eq_true rfl⟩ ⟨Nat.le_of_ble_eq_true rfl, Nat.le_of_ble_eq_true rfl⟩ (Nat.le_of_ble_eq_true rfl) [] rfl rfl) (fun v2 e2 => ?_)
  exact kr_zret h hr hlk dX0_isTable_5 (kc_nb e2) (e2) (rfl)
set_option maxHeartbeats 4000000 in
set_option maxRecDepth 100000 in
theorem c_isPolicy (l : Launch) (D : va_G) (cI cZ cJ : ClassId) (q : Nat → Nat) (x : xSt) (a : Int32) : kc_M l yX0_isPolicy cX0_isPolicy 2 (some .boolean) 1 21 0 0 [.ref (q 0), .int a] D vwCl (tyL cI cZ cJ) (wX cI cZ q x) (some (.int (xb (pBelow a (x.2 0))))) (wX cI cZ q (x)) := by
  refine kc_start RX0 (by decide +kernel) rfl (Nat.le_of_ble_eq_true rfl) ?_
  intro zp ze zs zm zb zt zc h hr hlk hnm
  refine kr_iload_n h dX0_isPolicy_0 rfl 1 rfl ?_
  refine kr_aload_n h dX0_isPolicy_1 rfl 0 rfl ?_
  refine kr_get h FX0ok 0 11 dX0_isPolicy_2 flX0_93 rfl rfl (by decide) rfl rfl ?_
  refine kr_top h (fun v2 e2 => ?_)
  refine kr_i0 h (kc_rS h (c_isBelow l D cI cZ cJ a v2) mlX0_52 ysX0_isBelow dX0_isPolicy_5 rfl rfl ⟨Nat.le_of_ble_eq_true rfl, Nat.le_of_ble_eq_true rfl⟩ ⟨Nat.le_of_ble_eq_true rfl, Nat.le_of_ble_eq_true rfl⟩ (Nat.le_of_ble_eq_true rfl) [] rfl rfl) (fun v5 e5 => ?_)
  exact kr_zret h hr hlk dX0_isPolicy_8 (kc_nb e5) (by rw [e5, e2]) (rfl)
set_option maxHeartbeats 4000000 in
set_option maxRecDepth 100000 in
theorem c_inSet (l : Launch) (D : va_G) (cI cZ cJ : ClassId) (a s : Int32) : kc_M l yX0_inSet cX0_inSet 2 (some .boolean) 0 0 0 0 [.int a, .int s] D vwCl (tyL cI cZ cJ) [] (some (.int (xb (pIn a s)))) [] := by
  refine kc_start RX0 (by decide +kernel) rfl (Nat.le_of_ble_eq_true rfl) ?_
  intro zp ze zs zm zb zt zc h hr hlk hnm
  refine kr_iload_n h dX0_inSet_0 rfl 0 rfl ?_
  refine kr_iload_n h dX0_inSet_1 rfl 1 rfl ?_
  refine kr_ishr h dX0_inSet_2 (fun v2 e2 => ?_)
  refine kr_iconst (v := 1) h dX0_inSet_3 (by decide) ?_
  refine kr_iand h dX0_inSet_4 (fun v4 e4 => ?_)
  refine kr_iconst (v := 1) h dX0_inSet_5 (by decide) ?_
  refine kr_icmp_ne h 13 dX0_inSet_6 (by decide) (fun c6 => ?_) (fun c6 => ?_)
  · refine kr_iconst (v := 0) h dX0_inSet_13 (by decide) ?_
    exact kr_zret h hr hlk dX0_inSet_14 (rfl) (by rw [e4, e2] at c6; first | exact (if_pos c6).symm | exact (if_neg c6).symm) (rfl)
  · refine kr_iconst (v := 1) h dX0_inSet_9 (by decide) ?_
    refine kr_goto h 14 dX0_inSet_10 (by decide) ?_
    exact kr_zret h hr hlk dX0_inSet_14 (rfl) (by rw [e4, e2] at c6; first | exact (if_pos c6).symm | exact (if_neg c6).symm) (rfl)
set_option maxHeartbeats 4000000 in
set_option maxRecDepth 100000 in
theorem c_entryPlace (l : Launch) (D : va_G) (cI cZ cJ : ClassId) (k t s : Int32) : kc_M l yX0_entryPlace cX0_entryPlace 3 (some .int) 0 0 0 0 [.int k, .int t, .int s] D vwCl (tyL cI cZ cJ) [] (some (.int (xPlace k t s))) [] := by
  refine kc_start RX0 (by decide +kernel) rfl (Nat.le_of_ble_eq_true rfl) ?_
  intro zp ze zs zm zb zt zc h hr hlk hnm
  refine kr_iload_n h dX0_entryPlace_0 rfl 0 rfl ?_
  refine kr_iconst (v := 4) h dX0_entryPlace_1 (by decide) ?_
  refine kr_imul h dX0_entryPlace_2 (fun v2 e2 => ?_)
  refine kr_iload_n h dX0_entryPlace_3 rfl 1 rfl ?_
  refine kr_iadd h dX0_entryPlace_4 (fun v4 e4 => ?_)
  refine kr_bipush (v := 8) h dX0_entryPlace_5 (by decide) ?_
  refine kr_imul h dX0_entryPlace_7 (fun v7 e7 => ?_)
  refine kr_iload_n h dX0_entryPlace_8 rfl 2 rfl ?_
  refine kr_iadd h dX0_entryPlace_9 (fun v9 e9 => ?_)
  exact kr_iret h hr hlk dX0_entryPlace_10 (by simp_all [xPlace]) (rfl)
set_option maxHeartbeats 4000000 in
set_option maxRecDepth 100000 in
theorem c_isPair (l : Launch) (D : va_G) (cI cZ cJ : ClassId) (k : Int32) : kc_M l yX0_isPair cX0_isPair 1 (some .boolean) 0 0 0 0 [.int k] D vwCl (tyL cI cZ cJ) [] (some (.int (xb (pPair k)))) [] := by
  refine kc_start RX0 (by decide +kernel) rfl (Nat.le_of_ble_eq_true rfl) ?_
  intro zp ze zs zm zb zt zc h hr hlk hnm
  refine kr_iload_n h dX0_isPair_0 rfl 0 rfl ?_
  refine kr_bipush (v := 8) h dX0_isPair_1 (by decide) ?_
  refine kr_icmp_eq h 24 dX0_isPair_3 (by decide) (fun c3 => ?_) (fun c3 => ?_)
  · refine kr_iconst (v := 1) h dX0_isPair_24 (by decide) ?_
    refine kr_goto h 29 dX0_isPair_25 (by decide) ?_
    exact kr_zret h hr hlk dX0_isPair_29 (rfl) (by clear h hr hlk hnm; simp_all) (rfl)
  · refine kr_iload_n h dX0_isPair_6 rfl 0 rfl ?_
    refine kr_bipush (v := 9) h dX0_isPair_7 (by decide) ?_
    refine kr_icmp_eq h 24 dX0_isPair_9 (by decide) (fun c9 => ?_) (fun c9 => ?_)
    · refine kr_iconst (v := 1) h dX0_isPair_24 (by decide) ?_
      refine kr_goto h 29 dX0_isPair_25 (by decide) ?_
      exact kr_zret h hr hlk dX0_isPair_29 (rfl) (by clear h hr hlk hnm; simp_all) (rfl)
    · refine kr_iload_n h dX0_isPair_12 rfl 0 rfl ?_
      refine kr_bipush (v := 10) h dX0_isPair_13 (by decide) ?_
      refine kr_icmp_eq h 24 dX0_isPair_15 (by decide) (fun c15 => ?_) (fun c15 => ?_)
      · refine kr_iconst (v := 1) h dX0_isPair_24 (by decide) ?_
        refine kr_goto h 29 dX0_isPair_25 (by decide) ?_
        exact kr_zret h hr hlk dX0_isPair_29 (rfl) (by clear h hr hlk hnm; simp_all) (rfl)
      · refine kr_iload_n h dX0_isPair_18 rfl 0 rfl ?_
        refine kr_bipush (v := 11) h dX0_isPair_19 (by decide) ?_
        refine kr_icmp_ne h 28 dX0_isPair_21 (by decide) (fun c21 => ?_) (fun c21 => ?_)
        · refine kr_iconst (v := 0) h dX0_isPair_28 (by decide) ?_
          exact kr_zret h hr hlk dX0_isPair_29 (rfl) (by clear h hr hlk hnm; simp_all) (rfl)
        · refine kr_iconst (v := 1) h dX0_isPair_24 (by decide) ?_
          refine kr_goto h 29 dX0_isPair_25 (by decide) ?_
          exact kr_zret h hr hlk dX0_isPair_29 (rfl) (by clear h hr hlk hnm; simp_all) (rfl)
set_option maxHeartbeats 4000000 in
set_option maxRecDepth 100000 in
theorem c_hasPolicyA (l : Launch) (D : va_G) (cI cZ cJ : ClassId) (k : Int32) : kc_M l yX0_hasPolicyA cX0_hasPolicyA 1 (some .boolean) 1 20 0 0 [.int k] D vwCl (tyL cI cZ cJ) [] (some (.int (xb (pA k)))) [] := by
  refine kc_start RX0 (by decide +kernel) rfl (Nat.le_of_ble_eq_true rfl) ?_
  intro zp ze zs zm zb zt zc h hr hlk hnm
  refine kr_iload_n h dX0_hasPolicyA_0 rfl 0 rfl ?_
  refine kr_i0 h (kc_rS h (c_isPair l D cI cZ cJ k) mlX0_162 ysX0_isPair dX0_hasPolicyA_1 rfl rfl ⟨Nat.le_of_ble_eq_true rfl, Nat.le_of_ble_eq_true rfl⟩ ⟨Nat.le_of_ble_eq_true rfl, Nat.le_of_ble_eq_true rfl⟩ (Nat.le_of_ble_eq_true rfl) [] rfl rfl) (fun v1 e1 => ?_)
  refine kr_if_ne h 19 dX0_hasPolicyA_4 (by decide) (fun c4 => ?_) (fun c4 => ?_)
  · refine kr_iconst (v := 1) h dX0_hasPolicyA_19 (by decide) ?_
    refine kr_goto h 24 dX0_hasPolicyA_20 (by decide) ?_
    exact kr_zret h hr hlk dX0_hasPolicyA_24 (rfl) (by clear h hr hlk hnm; simp_all) (rfl)
  · refine kr_iload_n h dX0_hasPolicyA_7 rfl 0 rfl ?_
    refine kr_bipush (v := 13) h dX0_hasPolicyA_8 (by decide) ?_
    refine kr_icmp_eq h 19 dX0_hasPolicyA_10 (by decide) (fun c10 => ?_) (fun c10 => ?_)
    · refine kr_iconst (v := 1) h dX0_hasPolicyA_19 (by decide) ?_
      refine kr_goto h 24 dX0_hasPolicyA_20 (by decide) ?_
      exact kr_zret h hr hlk dX0_hasPolicyA_24 (rfl) (by clear h hr hlk hnm; simp_all) (rfl)
    · refine kr_iload_n h dX0_hasPolicyA_13 rfl 0 rfl ?_
      refine kr_bipush (v := 14) h dX0_hasPolicyA_14 (by decide) ?_
      refine kr_icmp_ne h 23 dX0_hasPolicyA_16 (by decide) (fun c16 => ?_) (fun c16 => ?_)
      · refine kr_iconst (v := 0) h dX0_hasPolicyA_23 (by decide) ?_
        exact kr_zret h hr hlk dX0_hasPolicyA_24 (rfl) (by clear h hr hlk hnm; simp_all) (rfl)
      · refine kr_iconst (v := 1) h dX0_hasPolicyA_19 (by decide) ?_
        refine kr_goto h 24 dX0_hasPolicyA_20 (by decide) ?_
        exact kr_zret h hr hlk dX0_hasPolicyA_24 (rfl) (by clear h hr hlk hnm; simp_all) (rfl)
set_option maxHeartbeats 4000000 in
set_option maxRecDepth 100000 in
theorem c_hasPolicyB (l : Launch) (D : va_G) (cI cZ cJ : ClassId) (k : Int32) : kc_M l yX0_hasPolicyB cX0_hasPolicyB 1 (some .boolean) 1 20 0 0 [.int k] D vwCl (tyL cI cZ cJ) [] (some (.int (xb (pB k)))) [] := by
  refine kc_start RX0 (by decide +kernel) rfl (Nat.le_of_ble_eq_true rfl) ?_
  intro zp ze zs zm zb zt zc h hr hlk hnm
  refine kr_iload_n h dX0_hasPolicyB_0 rfl 0 rfl ?_
  refine kr_i0 h (kc_rS h (c_isPair l D cI cZ cJ k) mlX0_162 ysX0_isPair dX0_hasPolicyB_1 rfl rfl ⟨Nat.le_of_ble_eq_true rfl, Nat.le_of_ble_eq_true rfl⟩ ⟨Nat.le_of_ble_eq_true rfl, Nat.le_of_ble_eq_true rfl⟩ (Nat.le_of_ble_eq_true rfl) [] rfl rfl) (fun v1 e1 => ?_)
  refine kr_if_ne h 13 dX0_hasPolicyB_4 (by decide) (fun c4 => ?_) (fun c4 => ?_)
  · refine kr_iconst (v := 1) h dX0_hasPolicyB_13 (by decide) ?_
    refine kr_goto h 18 dX0_hasPolicyB_14 (by decide) ?_
    exact kr_zret h hr hlk dX0_hasPolicyB_18 (rfl) (by clear h hr hlk hnm; simp_all) (rfl)
  · refine kr_iload_n h dX0_hasPolicyB_7 rfl 0 rfl ?_
    refine kr_bipush (v := 12) h dX0_hasPolicyB_8 (by decide) ?_
    refine kr_icmp_ne h 17 dX0_hasPolicyB_10 (by decide) (fun c10 => ?_) (fun c10 => ?_)
    · refine kr_iconst (v := 0) h dX0_hasPolicyB_17 (by decide) ?_
      exact kr_zret h hr hlk dX0_hasPolicyB_18 (rfl) (by clear h hr hlk hnm; simp_all) (rfl)
    · refine kr_iconst (v := 1) h dX0_hasPolicyB_13 (by decide) ?_
      refine kr_goto h 18 dX0_hasPolicyB_14 (by decide) ?_
      exact kr_zret h hr hlk dX0_hasPolicyB_18 (rfl) (by clear h hr hlk hnm; simp_all) (rfl)
set_option maxHeartbeats 4000000 in
set_option maxRecDepth 100000 in
theorem c_canBeTurned (l : Launch) (D : va_G) (cI cZ cJ : ClassId) (k : Int32) : kc_M l yX0_canBeTurned cX0_canBeTurned 1 (some .boolean) 0 0 0 0 [.int k] D vwCl (tyL cI cZ cJ) [] (some (.int (xb (pTurn k)))) [] := by
  refine kc_start RX0 (by decide +kernel) rfl (Nat.le_of_ble_eq_true rfl) ?_
  intro zp ze zs zm zb zt zc h hr hlk hnm
  refine kr_iload_n h dX0_canBeTurned_0 rfl 0 rfl ?_
  refine kr_iconst (v := 1) h dX0_canBeTurned_1 (by decide) ?_
  refine kr_icmp_eq h 15 dX0_canBeTurned_2 (by decide) (fun c2 => ?_) (fun c2 => ?_)
  · refine kr_iconst (v := 1) h dX0_canBeTurned_15 (by decide) ?_
    refine kr_goto h 20 dX0_canBeTurned_16 (by decide) ?_
    exact kr_zret h hr hlk dX0_canBeTurned_20 (rfl) (by clear h hr hlk hnm; simp_all) (rfl)
  · refine kr_iload_n h dX0_canBeTurned_5 rfl 0 rfl ?_
    refine kr_iconst (v := 4) h dX0_canBeTurned_6 (by decide) ?_
    refine kr_icmp_eq h 15 dX0_canBeTurned_7 (by decide) (fun c7 => ?_) (fun c7 => ?_)
    · refine kr_iconst (v := 1) h dX0_canBeTurned_15 (by decide) ?_
      refine kr_goto h 20 dX0_canBeTurned_16 (by decide) ?_
      exact kr_zret h hr hlk dX0_canBeTurned_20 (rfl) (by clear h hr hlk hnm; simp_all) (rfl)
    · refine kr_iload_n h dX0_canBeTurned_10 rfl 0 rfl ?_
      refine kr_iconst (v := 5) h dX0_canBeTurned_11 (by decide) ?_
      refine kr_icmp_ne h 19 dX0_canBeTurned_12 (by decide) (fun c12 => ?_) (fun c12 => ?_)
      · refine kr_iconst (v := 0) h dX0_canBeTurned_19 (by decide) ?_
        exact kr_zret h hr hlk dX0_canBeTurned_20 (rfl) (by clear h hr hlk hnm; simp_all) (rfl)
      · refine kr_iconst (v := 1) h dX0_canBeTurned_15 (by decide) ?_
        refine kr_goto h 20 dX0_canBeTurned_16 (by decide) ?_
        exact kr_zret h hr hlk dX0_canBeTurned_20 (rfl) (by clear h hr hlk hnm; simp_all) (rfl)
set_option maxHeartbeats 4000000 in
set_option maxRecDepth 100000 in
theorem c_suggestionFrom (l : Launch) (D : va_G) (cI cZ cJ : ClassId) (k p : Int32) : kc_M l yX0_suggestionFrom cX0_suggestionFrom 2 (some .int) 0 0 0 0 [.int k, .int p] D vwCl (tyL cI cZ cJ) [] (some (.int (p * 8 + k))) [] := by
  refine kc_start RX0 (by decide +kernel) rfl (Nat.le_of_ble_eq_true rfl) ?_
  intro zp ze zs zm zb zt zc h hr hlk hnm
  refine kr_iload_n h dX0_suggestionFrom_0 rfl 1 rfl ?_
  refine kr_bipush (v := 8) h dX0_suggestionFrom_1 (by decide) ?_
  refine kr_imul h dX0_suggestionFrom_3 (fun v3 e3 => ?_)
  refine kr_iload_n h dX0_suggestionFrom_4 rfl 0 rfl ?_
  refine kr_iadd h dX0_suggestionFrom_5 (fun v5 e5 => ?_)
  exact kr_iret h hr hlk dX0_suggestionFrom_6 (by clear h hr hlk hnm; simp_all) (rfl)
set_option maxHeartbeats 4000000 in
set_option maxRecDepth 100000 in
theorem c_kindOf (l : Launch) (D : va_G) (cI cZ cJ : ClassId) (g : Int32) : kc_M l yX0_kindOf cX0_kindOf 1 (some .int) 0 0 0 0 [.int g] D vwCl (tyL cI cZ cJ) [] (some (.int (xKind g))) [] := by
  refine kc_start RX0 (by decide +kernel) rfl (Nat.le_of_ble_eq_true rfl) ?_
  intro zp ze zs zm zb zt zc h hr hlk hnm
  refine kr_iload_n h dX0_kindOf_0 rfl 0 rfl ?_
  refine kr_bipush (v := 8) h dX0_kindOf_1 (by decide) ?_
  refine kr_irem h dX0_kindOf_3 (by decide) (fun v3 e3 => ?_)
  exact kr_iret h hr hlk dX0_kindOf_4 (by simp_all [xKind]) (rfl)
set_option maxHeartbeats 4000000 in
set_option maxRecDepth 100000 in
theorem c_sourceOf (l : Launch) (D : va_G) (cI cZ cJ : ClassId) (g : Int32) : kc_M l yX0_sourceOf cX0_sourceOf 1 (some .int) 0 0 0 0 [.int g] D vwCl (tyL cI cZ cJ) [] (some (.int (xSrc g))) [] := by
  refine kc_start RX0 (by decide +kernel) rfl (Nat.le_of_ble_eq_true rfl) ?_
  intro zp ze zs zm zb zt zc h hr hlk hnm
  refine kr_iload_n h dX0_sourceOf_0 rfl 0 rfl ?_
  refine kr_bipush (v := 8) h dX0_sourceOf_1 (by decide) ?_
  refine kr_idiv h dX0_sourceOf_3 (by decide) (fun v3 e3 => ?_)
  exact kr_iret h hr hlk dX0_sourceOf_4 (by simp_all [xSrc]) (rfl)
set_option maxHeartbeats 4000000 in
set_option maxRecDepth 100000 in
theorem c_okOnlyIf (l : Launch) (D : va_G) (cI cZ cJ : ClassId) (f : Int32) : kc_M l yX0_okOnlyIf cX0_okOnlyIf 1 (some .int) 0 0 0 0 [.int f] D vwCl (tyL cI cZ cJ) [] (some (.int (if f = 0 then 4 else 1))) [] := by
  refine kc_start RX0 (by decide +kernel) rfl (Nat.le_of_ble_eq_true rfl) ?_
  intro zp ze zs zm zb zt zc h hr hlk hnm
  refine kr_iload_n h dX0_okOnlyIf_0 rfl 0 rfl ?_
  refine kr_if_eq h 8 dX0_okOnlyIf_1 (by decide) (fun c1 => ?_) (fun c1 => ?_)
  · refine kr_iconst (v := 4) h dX0_okOnlyIf_8 (by decide) ?_
    exact kr_iret h hr hlk dX0_okOnlyIf_9 (by clear h hr hlk hnm; simp_all) (rfl)
  · refine kr_iconst (v := 1) h dX0_okOnlyIf_4 (by decide) ?_
    refine kr_goto h 9 dX0_okOnlyIf_5 (by decide) ?_
    exact kr_iret h hr hlk dX0_okOnlyIf_9 (by clear h hr hlk hnm; simp_all) (rfl)
set_option maxHeartbeats 4000000 in
set_option maxRecDepth 100000 in
theorem c_takesFirst (l : Launch) (D : va_G) (cI cZ cJ : ClassId) (k f g : Int32) : kc_M l yX0_takesFirst cX0_takesFirst 3 (some .boolean) 0 0 0 0 [.int k, .int f, .int g] D vwCl (tyL cI cZ cJ) [] (some (.int (xb (pFirst k f g)))) [] := by
  refine kc_start RX0 (by decide +kernel) rfl (Nat.le_of_ble_eq_true rfl) ?_
  intro zp ze zs zm zb zt zc h hr hlk hnm
  refine kr_iload_n h dX0_takesFirst_0 rfl 0 rfl ?_
  rcases kc_sw k 8 11 with hj1 | ⟨j1, hl1, hj1, ej1⟩
  · refine kr_tabOut h 68 dX0_takesFirst_1 (by omega) (by decide) ?_
    have n1_8 : ¬ k = 8 := fun z => by rw [z] at hj1; revert hj1; decide +kernel
    have n1_9 : ¬ k = 9 := fun z => by rw [z] at hj1; revert hj1; decide +kernel
    have n1_10 : ¬ k = 10 := fun z => by rw [z] at hj1; revert hj1; decide +kernel
    refine kr_iload_n h dX0_takesFirst_68 rfl 1 rfl ?_
    refine kr_iconst (v := 2) h dX0_takesFirst_69 (by decide) ?_
    refine kr_icmp_lt h 77 dX0_takesFirst_70 (by decide) (fun c70 => ?_) (fun c70 => ?_)
    · refine kr_iconst (v := 0) h dX0_takesFirst_77 (by decide) ?_
      exact kr_zret h hr hlk dX0_takesFirst_78 (rfl) (by clear h hr hlk hnm; simp_all) (rfl)
    · refine kr_iconst (v := 1) h dX0_takesFirst_73 (by decide) ?_
      refine kr_goto h 78 dX0_takesFirst_74 (by decide) ?_
      exact kr_zret h hr hlk dX0_takesFirst_78 (rfl) (by clear h hr hlk hnm; simp_all) (rfl)
  · have hg1 : (j1 = 8) ∨ (j1 = 9) ∨ (j1 = 10) := by omega
    rcases hg1 with hg1 | hg1 | hg1
    · refine kr_tab h 28 dX0_takesFirst_1 (by rw [ej1, hg1]; decide +kernel) ?_
      have q1 : k = 8 := by rw [ej1, hg1]; decide +kernel
      clear hg1 ej1 hj1
      refine kr_iload_n h dX0_takesFirst_28 rfl 1 rfl ?_
      refine kr_iload_n h dX0_takesFirst_29 rfl 2 rfl ?_
      refine kr_icmp_lt h 37 dX0_takesFirst_30 (by decide) (fun c30 => ?_) (fun c30 => ?_)
      · refine kr_iconst (v := 0) h dX0_takesFirst_37 (by decide) ?_
        exact kr_zret h hr hlk dX0_takesFirst_38 (rfl) (by clear h hr hlk hnm; simp_all) (rfl)
      · refine kr_iconst (v := 1) h dX0_takesFirst_33 (by decide) ?_
        refine kr_goto h 38 dX0_takesFirst_34 (by decide) ?_
        exact kr_zret h hr hlk dX0_takesFirst_38 (rfl) (by clear h hr hlk hnm; simp_all) (rfl)
    · refine kr_tab h 39 dX0_takesFirst_1 (by rw [ej1, hg1]; decide +kernel) ?_
      have q1 : k = 9 := by rw [ej1, hg1]; decide +kernel
      clear hg1 ej1 hj1
      refine kr_iload_n h dX0_takesFirst_39 rfl 2 rfl ?_
      refine kr_if_eq h 52 dX0_takesFirst_40 (by decide) (fun c40 => ?_) (fun c40 => ?_)
      · refine kr_iconst (v := 1) h dX0_takesFirst_52 (by decide) ?_
        refine kr_goto h 57 dX0_takesFirst_53 (by decide) ?_
        exact kr_zret h hr hlk dX0_takesFirst_57 (rfl) (by clear h hr hlk hnm; simp_all) (rfl)
      · refine kr_iload_n h dX0_takesFirst_43 rfl 1 rfl ?_
        refine kr_if_eq h 56 dX0_takesFirst_44 (by decide) (fun c44 => ?_) (fun c44 => ?_)
        · refine kr_iconst (v := 0) h dX0_takesFirst_56 (by decide) ?_
          exact kr_zret h hr hlk dX0_takesFirst_57 (rfl) (by clear h hr hlk hnm; simp_all) (rfl)
        · refine kr_iload_n h dX0_takesFirst_47 rfl 1 rfl ?_
          refine kr_iload_n h dX0_takesFirst_48 rfl 2 rfl ?_
          refine kr_icmp_gt h 56 dX0_takesFirst_49 (by decide) (fun c49 => ?_) (fun c49 => ?_)
          · refine kr_iconst (v := 0) h dX0_takesFirst_56 (by decide) ?_
            exact kr_zret h hr hlk dX0_takesFirst_57 (rfl) (by clear h hr hlk hnm; simp_all) (rfl)
          · refine kr_iconst (v := 1) h dX0_takesFirst_52 (by decide) ?_
            refine kr_goto h 57 dX0_takesFirst_53 (by decide) ?_
            exact kr_zret h hr hlk dX0_takesFirst_57 (rfl) (by clear h hr hlk hnm; simp_all) (rfl)
    · refine kr_tab h 58 dX0_takesFirst_1 (by rw [ej1, hg1]; decide +kernel) ?_
      have q1 : k = 10 := by rw [ej1, hg1]; decide +kernel
      clear hg1 ej1 hj1
      refine kr_iload_n h dX0_takesFirst_58 rfl 1 rfl ?_
      refine kr_if_eq h 66 dX0_takesFirst_59 (by decide) (fun c59 => ?_) (fun c59 => ?_)
      · refine kr_iconst (v := 0) h dX0_takesFirst_66 (by decide) ?_
        exact kr_zret h hr hlk dX0_takesFirst_67 (rfl) (by clear h hr hlk hnm; simp_all) (rfl)
      · refine kr_iconst (v := 1) h dX0_takesFirst_62 (by decide) ?_
        refine kr_goto h 67 dX0_takesFirst_63 (by decide) ?_
        exact kr_zret h hr hlk dX0_takesFirst_67 (rfl) (by clear h hr hlk hnm; simp_all) (rfl)
set_option maxHeartbeats 4000000 in
set_option maxRecDepth 100000 in
theorem c_suggestOfEntry (l : Launch) (D : va_G) (cI cZ cJ : ClassId) (g : Int32) : kc_M l yX0_suggestOfEntry cX0_suggestOfEntry 1 (some .int) 1 20 0 0 [.int g] D vwCl (tyL cI cZ cJ) [] (some (.int (xOfEntry g))) [] := by
  refine kc_start RX0 (by decide +kernel) rfl (Nat.le_of_ble_eq_true rfl) ?_
  intro zp ze zs zm zb zt zc h hr hlk hnm
  refine kr_iload_n h dX0_suggestOfEntry_0 rfl 0 rfl ?_
  refine kr_iconst (v := 5) h dX0_suggestOfEntry_1 (by decide) ?_
  refine kr_icmp_ne h 7 dX0_suggestOfEntry_2 (by decide) (fun c2 => ?_) (fun c2 => ?_)
  · refine kr_iload_n h dX0_suggestOfEntry_7 rfl 0 rfl ?_
    refine kr_iconst (v := 4) h dX0_suggestOfEntry_8 (by decide) ?_
    refine kr_icmp_eq h 16 dX0_suggestOfEntry_9 (by decide) (fun c9 => ?_) (fun c9 => ?_)
    · refine kr_iconst (v := 0) h dX0_suggestOfEntry_16 (by decide) ?_
      refine kr_i0 h (kc_rS h (c_okOnlyIf l D cI cZ cJ 0) mlX0_206 ysX0_okOnlyIf dX0_suggestOfEntry_17 rfl rfl ⟨Nat.le_of_ble_eq_true rfl, Nat.le_of_ble_eq_true rfl⟩ ⟨Nat.le_of_ble_eq_true rfl, Nat.le_of_ble_eq_true rfl⟩ (Nat.le_of_ble_eq_true rfl) [] rfl rfl) (fun v17 e17 => ?_)
      exact kr_iret h hr hlk dX0_suggestOfEntry_20 (by simp_all [xOfEntry]) (rfl)
    · refine kr_iconst (v := 1) h dX0_suggestOfEntry_12 (by decide) ?_
      refine kr_goto h 17 dX0_suggestOfEntry_13 (by decide) ?_
      refine kr_i0 h (kc_rS h (c_okOnlyIf l D cI cZ cJ 1) mlX0_206 ysX0_okOnlyIf dX0_suggestOfEntry_17 rfl rfl ⟨Nat.le_of_ble_eq_true rfl, Nat.le_of_ble_eq_true rfl⟩ ⟨Nat.le_of_ble_eq_true rfl, Nat.le_of_ble_eq_true rfl⟩ (Nat.le_of_ble_eq_true rfl) [] rfl rfl) (fun v17 e17 => ?_)
      exact kr_iret h hr hlk dX0_suggestOfEntry_20 (by simp_all [xOfEntry]) (rfl)
  · refine kr_iconst (v := 0) h dX0_suggestOfEntry_5 (by decide) ?_
    exact kr_iret h hr hlk dX0_suggestOfEntry_6 (by simp_all [xOfEntry]) (rfl)
