set_option maxHeartbeats 4000000 in
set_option maxRecDepth 100000 in
theorem c_act (l : Launch) (hst : l.stackTraces = false) (D : va_G) (cI cZ cJ : ClassId) (q : Nat → Nat) (x : xSt) (s v : Int32) (hi : xInst x) (hV : xV x) : kc_MX l yX0_act cX0_act 4 (some .int) 24 644 1 6 [.ref (q 0), .int s, .int v] D vwCl (tyL cI cZ cJ) (wX cI cZ q x) (xActO x s v) (wX cI cZ q (xActX x s v)) := by
  refine kc_startX RX0 (by decide +kernel) rfl (Nat.le_of_ble_eq_true rfl) ?_
  intro zp ze zs zm zb zt zc h hr hlk hnh hT
  refine kr_iload_n h dX0_act_0 rfl 1 rfl ?_
  refine kr_i0 h (kc_rS h (c_isSort l D cI cZ cJ s) mlX0_56 ysX0_isSort dX0_act_1 rfl rfl ⟨Nat.le_of_ble_eq_true rfl, Nat.le_of_ble_eq_true rfl⟩ ⟨Nat.le_of_ble_eq_true rfl, Nat.le_of_ble_eq_true rfl⟩ (Nat.le_of_ble_eq_true rfl) [] rfl rfl) (fun v1 e1 => ?_)
  refine kr_if_ne h 17 dX0_act_4 (by decide) (fun c4 => ?_) (fun c4 => ?_)
  · refine kr_aload_n h dX0_act_17 rfl 0 rfl ?_
    refine kr_get h FX0ok 0 17 dX0_act_18 flX0_110 rfl rfl (by decide) rfl rfl ?_
    refine kr_top h (fun v18 e18 => ?_)
    refine kr_if_eq h 28 dX0_act_21 (by decide) (fun c21 => ?_) (fun c21 => ?_)
    · refine kr_aload_n h dX0_act_28 rfl 0 rfl ?_
      refine kr_iload_n h dX0_act_29 rfl 1 rfl ?_
      refine kr_iload_n h dX0_act_30 rfl 2 rfl ?_
      refine kr_iconst (v := 1) h dX0_act_31 (by decide) ?_
      refine kr_iA h (kc_rV h (c_actAtDepth l D cI cZ cJ q 4 x s v 1 (by decide) rfl hi hV (xSo_of (xb_t e1 c4))) mlX0_116 yvX0_actAtDepth dX0_act_32 rfl rfl ⟨Nat.le_of_ble_eq_true rfl, Nat.le_of_ble_eq_true rfl⟩ ⟨Nat.le_of_ble_eq_true rfl, Nat.le_of_ble_eq_true rfl⟩ (Nat.le_of_ble_eq_true rfl) [0, 1, 2, 3, 4, 5, 6, 7, 8, 9, 10, 11] rfl rfl 0 rfl rfl rfl) (fun v32 e32 => ?_)
      refine kr_istore_n (lv' := [(3, .int v32), (0, .ref (q 0)), (1, .int s), (2, .int v)]) h dX0_act_35 rfl (by decide) rfl ?_
      refine kr_aload_n h dX0_act_36 rfl 1 rfl ?_
      refine kr_vA h (kc_rV h (c_forgetSpent l D cI cZ cJ q (xAct 4 x s v).2) mlX0_119 yvX0_forgetSpent dX0_act_37 rfl rfl ⟨Nat.le_of_ble_eq_true rfl, Nat.le_of_ble_eq_true rfl⟩ ⟨Nat.le_of_ble_eq_true rfl, Nat.le_of_ble_eq_true rfl⟩ (Nat.le_of_ble_eq_true rfl) [0, 1, 2, 3, 4, 5, 6, 7, 8, 9, 10, 11] rfl rfl 0 rfl rfl rfl) ?_
      refine kr_iload_n h dX0_act_40 rfl 0 rfl ?_
      refine kr_if_ne h 49 dX0_act_41 (by decide) (fun c41 => ?_) (fun c41 => ?_)
      · refine kr_aload_n h dX0_act_49 rfl 1 rfl ?_
        refine kr_dup h dX0_act_50 rfl ?_
        refine kr_get h FX0ok 0 15 dX0_act_51 flX0_125 rfl rfl (by decide) rfl rfl ?_
        refine kr_top h (fun v51 e51 => ?_)
        refine kr_iconst (v := 1) h dX0_act_54 (by decide) ?_
        refine kr_iadd h dX0_act_55 (fun v55 e55 => ?_)
        refine kr_put (ws' := wX cI cZ q (xI (xA (xAct 4 x s v).2 7 (xZ ((xAct 4 x s v).2.1 7))) 4 v55)) h FX0ok 0 15 dX0_act_56 flX0_125 rfl rfl (by decide) rfl rfl rfl rfl (Nat.le_of_ble_eq_true rfl) rfl ?_
        refine kr_iload_n h dX0_act_59 rfl 0 rfl ?_
        refine kr_iconst (v := 2) h dX0_act_60 (by decide) ?_
        refine kr_icmp_ne h 79 dX0_act_61 (by decide) (fun c61 => ?_) (fun c61 => ?_)
        · refine kr_iload_n h dX0_act_79 rfl 0 rfl ?_
          refine kr_iconst (v := 1) h dX0_act_80 (by decide) ?_
          refine kr_icmp_ne h 94 dX0_act_81 (by decide) (fun c81 => ?_) (fun c81 => ?_)
          · exact kr_throw (tx := "too deep") h hlk hnh hT hst tx_100 (by decide +kernel) dX0_act_94 dX0_act_97 dX0_act_98 dX0_act_100 dX0_act_103 (Nat.le_of_ble_eq_true rfl) (Nat.le_of_ble_eq_true rfl) (Nat.le_of_ble_eq_true rfl) (Nat.le_of_ble_eq_true rfl) (Nat.le_of_ble_eq_true rfl) (Nat.le_of_ble_eq_true rfl) ((xAct_c (xb_t e1 c4) (by first | (show xActR x s v = (2, x); exact if_neg (fun z => c21 (e18.trans z))) | (show xActR x s v = xAct 4 x s v; exact if_pos (e18.symm.trans c21))) (fun z => c41 (e32.trans z)) (fun z => c61 (e32.trans z))).1.trans (if_neg (fun z => c81 (e32.trans z)))) (congrArg _ (((xAct_c (xb_t e1 c4) (by first | (show xActR x s v = (2, x); exact if_neg (fun z => c21 (e18.trans z))) | (show xActR x s v = xAct 4 x s v; exact if_pos (e18.symm.trans c21))) (fun z => c41 (e32.trans z)) (fun z => c61 (e32.trans z))).2.trans (by rw [e55, e51]; rfl)).symm))
          · exact kr_throw (tx := "forbidden") h hlk hnh hT hst tx_84 (by decide +kernel) dX0_act_84 dX0_act_87 dX0_act_88 dX0_act_90 dX0_act_93 (Nat.le_of_ble_eq_true rfl) (Nat.le_of_ble_eq_true rfl) (Nat.le_of_ble_eq_true rfl) (Nat.le_of_ble_eq_true rfl) (Nat.le_of_ble_eq_true rfl) (Nat.le_of_ble_eq_true rfl) ((xAct_c (xb_t e1 c4) (by first | (show xActR x s v = (2, x); exact if_neg (fun z => c21 (e18.trans z))) | (show xActR x s v = xAct 4 x s v; exact if_pos (e18.symm.trans c21))) (fun z => c41 (e32.trans z)) (fun z => c61 (e32.trans z))).1.trans (if_pos (e32.symm.trans c81))) (congrArg _ (((xAct_c (xb_t e1 c4) (by first | (show xActR x s v = (2, x); exact if_neg (fun z => c21 (e18.trans z))) | (show xActR x s v = xAct 4 x s v; exact if_pos (e18.symm.trans c21))) (fun z => c41 (e32.trans z)) (fun z => c61 (e32.trans z))).2.trans (by rw [e55, e51]; rfl)).symm))
        · refine kr_aload_n h dX0_act_64 rfl 1 rfl ?_
          refine kr_iconst (v := 1) h dX0_act_65 (by decide) ?_
          refine kr_put (ws' := wX cI cZ q (xI (xI (xA (xAct 4 x s v).2 7 (xZ ((xAct 4 x s v).2.1 7))) 4 v55) 6 1)) h FX0ok 0 17 dX0_act_66 flX0_110 rfl rfl (by decide) rfl rfl rfl rfl (Nat.le_of_ble_eq_true rfl) rfl ?_
          exact kr_throw (tx := "stopped") h hlk hnh hT hst tx_92 (by decide +kernel) dX0_act_69 dX0_act_72 dX0_act_73 dX0_act_75 dX0_act_78 (Nat.le_of_ble_eq_true rfl) (Nat.le_of_ble_eq_true rfl) (Nat.le_of_ble_eq_true rfl) (Nat.le_of_ble_eq_true rfl) (Nat.le_of_ble_eq_true rfl) (Nat.le_of_ble_eq_true rfl) ((xAct_b (xb_t e1 c4) (by first | (show xActR x s v = (2, x); exact if_neg (fun z => c21 (e18.trans z))) | (show xActR x s v = xAct 4 x s v; exact if_pos (e18.symm.trans c21))) (by first | rfl | exact e32.symm.trans c61)).1) (congrArg _ (((xAct_b (xb_t e1 c4) (by first | (show xActR x s v = (2, x); exact if_neg (fun z => c21 (e18.trans z))) | (show xActR x s v = xAct 4 x s v; exact if_pos (e18.symm.trans c21))) (by first | rfl | exact e32.symm.trans c61)).2.trans (by rw [e55, e51]; rfl)).symm))
      · refine kr_aload_n h dX0_act_44 rfl 1 rfl ?_
        refine kr_get h FX0ok 0 18 dX0_act_45 flX0_122 rfl rfl (by decide) rfl rfl ?_
        refine kr_top h (fun v45 e45 => ?_)
        exact kr_iretX h hr hlk dX0_act_48 ((xAct_a (xb_t e1 c4) (by first | (show xActR x s v = (2, x); exact if_neg (fun z => c21 (e18.trans z))) | (show xActR x s v = xAct 4 x s v; exact if_pos (e18.symm.trans c21))) (e32.symm.trans c41)).1.trans (congrArg _ e45.symm)) (congrArg _ (xAct_a (xb_t e1 c4) (by first | (show xActR x s v = (2, x); exact if_neg (fun z => c21 (e18.trans z))) | (show xActR x s v = xAct 4 x s v; exact if_pos (e18.symm.trans c21))) (e32.symm.trans c41)).2.symm) (Nat.zero_le _) (Nat.zero_le _)
    · refine kr_iconst (v := 2) h dX0_act_24 (by decide) ?_
      refine kr_goto h 35 dX0_act_25 (by decide) ?_
      refine kr_istore_n (lv' := [(3, .int 2), (0, .ref (q 0)), (1, .int s), (2, .int v)]) h dX0_act_35 rfl (by decide) rfl ?_
      refine kr_aload_n h dX0_act_36 rfl 1 rfl ?_
      refine kr_vA h (kc_rV h (c_forgetSpent l D cI cZ cJ q x) mlX0_119 yvX0_forgetSpent dX0_act_37 rfl rfl ⟨Nat.le_of_ble_eq_true rfl, Nat.le_of_ble_eq_true rfl⟩ ⟨Nat.le_of_ble_eq_true rfl, Nat.le_of_ble_eq_true rfl⟩ (Nat.le_of_ble_eq_true rfl) [0, 1, 2, 3, 4, 5, 6, 7, 8, 9, 10, 11] rfl rfl 0 rfl rfl rfl) ?_
      refine kr_iload_n h dX0_act_40 rfl 0 rfl ?_
      refine kr_if_ne h 49 dX0_act_41 (by decide) (fun c41 => ?_) (fun c41 => ?_)
      · refine kr_aload_n h dX0_act_49 rfl 1 rfl ?_
        refine kr_dup h dX0_act_50 rfl ?_
        refine kr_get h FX0ok 0 15 dX0_act_51 flX0_125 rfl rfl (by decide) rfl rfl ?_
        refine kr_top h (fun v51 e51 => ?_)
        refine kr_iconst (v := 1) h dX0_act_54 (by decide) ?_
        refine kr_iadd h dX0_act_55 (fun v55 e55 => ?_)
        refine kr_put (ws' := wX cI cZ q (xI (xA x 7 (xZ (x.1 7))) 4 v55)) h FX0ok 0 15 dX0_act_56 flX0_125 rfl rfl (by decide) rfl rfl rfl rfl (Nat.le_of_ble_eq_true rfl) rfl ?_
        refine kr_iload_n h dX0_act_59 rfl 0 rfl ?_
        refine kr_iconst (v := 2) h dX0_act_60 (by decide) ?_
        refine kr_icmp_ne h 79 dX0_act_61 (by decide) (fun c61 => ?_) (fun c61 => ?_)
        · exact absurd c61 (by decide)
        · refine kr_aload_n h dX0_act_64 rfl 1 rfl ?_
          refine kr_iconst (v := 1) h dX0_act_65 (by decide) ?_
          refine kr_put (ws' := wX cI cZ q (xI (xI (xA x 7 (xZ (x.1 7))) 4 v55) 6 1)) h FX0ok 0 17 dX0_act_66 flX0_110 rfl rfl (by decide) rfl rfl rfl rfl (Nat.le_of_ble_eq_true rfl) rfl ?_
          exact kr_throw (tx := "stopped") h hlk hnh hT hst tx_92 (by decide +kernel) dX0_act_69 dX0_act_72 dX0_act_73 dX0_act_75 dX0_act_78 (Nat.le_of_ble_eq_true rfl) (Nat.le_of_ble_eq_true rfl) (Nat.le_of_ble_eq_true rfl) (Nat.le_of_ble_eq_true rfl) (Nat.le_of_ble_eq_true rfl) (Nat.le_of_ble_eq_true rfl) ((xAct_b (xb_t e1 c4) (by first | (show xActR x s v = (2, x); exact if_neg (fun z => c21 (e18.trans z))) | (show xActR x s v = xAct 4 x s v; exact if_pos (e18.symm.trans c21))) (by first | rfl | exact e32.symm.trans c61)).1) (congrArg _ (((xAct_b (xb_t e1 c4) (by first | (show xActR x s v = (2, x); exact if_neg (fun z => c21 (e18.trans z))) | (show xActR x s v = xAct 4 x s v; exact if_pos (e18.symm.trans c21))) (by first | rfl | exact e32.symm.trans c61)).2.trans (by rw [e55, e51]; rfl)).symm))
      · exact absurd c41 (by decide)
  · exact kr_throw (tx := "no such sort") h hlk hnh hT hst tx_63 (by decide +kernel) dX0_act_7 dX0_act_10 dX0_act_11 dX0_act_13 dX0_act_16 (Nat.le_of_ble_eq_true rfl) (Nat.le_of_ble_eq_true rfl) (Nat.le_of_ble_eq_true rfl) (Nat.le_of_ble_eq_true rfl) (Nat.le_of_ble_eq_true rfl) (Nat.le_of_ble_eq_true rfl) (if_neg (xb_f e1 c4)) (congrArg _ (if_neg (xb_f e1 c4)).symm)
