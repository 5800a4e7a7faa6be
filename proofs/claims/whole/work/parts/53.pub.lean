set_option maxHeartbeats 4000000 in
set_option maxRecDepth 100000 in
theorem c_table (l : Launch) (hst : l.stackTraces = false) (D : va_G) (cI cZ cJ : ClassId) (q : Nat → Nat) (x : xSt) (k t s n : Int32) : kc_MX l yX0_table cX0_table 7 (some .int) 6 90 1 6 [.ref (q 0), .int k, .int t, .int s, .int n] D vwCl (tyL cI cZ cJ) (wX cI cZ q x) (xTabO x k t s n) (wX cI cZ q (xTab x k t s n)) := by
  refine kc_startX RX0 (by decide +kernel) rfl (Nat.le_of_ble_eq_true rfl) ?_
  intro zp ze zs zm zb zt zc h hr hlk hnh hT
  refine kr_iload_n h dX0_table_0 rfl 1 rfl ?_
  refine kr_i0 h (kc_rS h (c_isTable l D cI cZ cJ k) mlX0_48 ysX0_isTable dX0_table_1 rfl rfl ⟨Nat.le_of_ble_eq_true rfl, Nat.le_of_ble_eq_true rfl⟩ ⟨Nat.le_of_ble_eq_true rfl, Nat.le_of_ble_eq_true rfl⟩ (Nat.le_of_ble_eq_true rfl) [] rfl rfl) (fun v1 e1 => ?_)
  refine kr_if_eq h 32 dX0_table_4 (by decide) (fun c4 => ?_) (fun c4 => ?_)
  · exact kr_throw (tx := "a number is out of range") h hlk hnh hT hst tx_63 (by decide +kernel) dX0_table_32 dX0_table_35 dX0_table_36 dX0_table_38 dX0_table_41 (Nat.le_of_ble_eq_true rfl) (Nat.le_of_ble_eq_true rfl) (Nat.le_of_ble_eq_true rfl) (Nat.le_of_ble_eq_true rfl) (Nat.le_of_ble_eq_true rfl) (Nat.le_of_ble_eq_true rfl) (if_neg (fun z => by first | exact xb_f e1 c4 z.1 | exact xb_f e9 c12 z.2.1 | exact xb_f e16 c19 z.2.2.1 | exact xb_f e26 c29 z.2.2.2)) (congrArg _ (if_neg (fun z => by first | exact xb_f e1 c4 z.1 | exact xb_f e9 c12 z.2.1 | exact xb_f e16 c19 z.2.2.1 | exact xb_f e26 c29 z.2.2.2)).symm)
  · refine kr_iload_n h dX0_table_7 rfl 2 rfl ?_
    refine kr_iconst (v := 4) h dX0_table_8 (by decide) ?_
    refine kr_i0 h (kc_rS h (c_isBelow l D cI cZ cJ t 4) mlX0_52 ysX0_isBelow dX0_table_9 rfl rfl ⟨Nat.le_of_ble_eq_true rfl, Nat.le_of_ble_eq_true rfl⟩ ⟨Nat.le_of_ble_eq_true rfl, Nat.le_of_ble_eq_true rfl⟩ (Nat.le_of_ble_eq_true rfl) [] rfl rfl) (fun v9 e9 => ?_)
    refine kr_if_eq h 32 dX0_table_12 (by decide) (fun c12 => ?_) (fun c12 => ?_)
    · exact kr_throw (tx := "a number is out of range") h hlk hnh hT hst tx_63 (by decide +kernel) dX0_table_32 dX0_table_35 dX0_table_36 dX0_table_38 dX0_table_41 (Nat.le_of_ble_eq_true rfl) (Nat.le_of_ble_eq_true rfl) (Nat.le_of_ble_eq_true rfl) (Nat.le_of_ble_eq_true rfl) (Nat.le_of_ble_eq_true rfl) (Nat.le_of_ble_eq_true rfl) (if_neg (fun z => by first | exact xb_f e1 c4 z.1 | exact xb_f e9 c12 z.2.1 | exact xb_f e16 c19 z.2.2.1 | exact xb_f e26 c29 z.2.2.2)) (congrArg _ (if_neg (fun z => by first | exact xb_f e1 c4 z.1 | exact xb_f e9 c12 z.2.1 | exact xb_f e16 c19 z.2.2.1 | exact xb_f e26 c29 z.2.2.2)).symm)
    · refine kr_iload_n h dX0_table_15 rfl 3 rfl ?_
      refine kr_i0 h (kc_rS h (c_isSort l D cI cZ cJ s) mlX0_56 ysX0_isSort dX0_table_16 rfl rfl ⟨Nat.le_of_ble_eq_true rfl, Nat.le_of_ble_eq_true rfl⟩ ⟨Nat.le_of_ble_eq_true rfl, Nat.le_of_ble_eq_true rfl⟩ (Nat.le_of_ble_eq_true rfl) [] rfl rfl) (fun v16 e16 => ?_)
      refine kr_if_eq h 32 dX0_table_19 (by decide) (fun c19 => ?_) (fun c19 => ?_)
      · exact kr_throw (tx := "a number is out of range") h hlk hnh hT hst tx_63 (by decide +kernel) dX0_table_32 dX0_table_35 dX0_table_36 dX0_table_38 dX0_table_41 (Nat.le_of_ble_eq_true rfl) (Nat.le_of_ble_eq_true rfl) (Nat.le_of_ble_eq_true rfl) (Nat.le_of_ble_eq_true rfl) (Nat.le_of_ble_eq_true rfl) (Nat.le_of_ble_eq_true rfl) (if_neg (fun z => by first | exact xb_f e1 c4 z.1 | exact xb_f e9 c12 z.2.1 | exact xb_f e16 c19 z.2.2.1 | exact xb_f e26 c29 z.2.2.2)) (congrArg _ (if_neg (fun z => by first | exact xb_f e1 c4 z.1 | exact xb_f e9 c12 z.2.1 | exact xb_f e16 c19 z.2.2.1 | exact xb_f e26 c29 z.2.2.2)).symm)
      · refine kr_iload h dX0_table_22 4 rfl ?_
        refine kr_bipush (v := 6) h dX0_table_24 (by decide) ?_
        refine kr_i0 h (kc_rS h (c_isBelow l D cI cZ cJ n 6) mlX0_52 ysX0_isBelow dX0_table_26 rfl rfl ⟨Nat.le_of_ble_eq_true rfl, Nat.le_of_ble_eq_true rfl⟩ ⟨Nat.le_of_ble_eq_true rfl, Nat.le_of_ble_eq_true rfl⟩ (Nat.le_of_ble_eq_true rfl) [] rfl rfl) (fun v26 e26 => ?_)
        refine kr_if_ne h 42 dX0_table_29 (by decide) (fun c29 => ?_) (fun c29 => ?_)
        · refine kr_iload_n h dX0_table_42 rfl 1 rfl ?_
          refine kr_iload_n h dX0_table_43 rfl 2 rfl ?_
          refine kr_iload_n h dX0_table_44 rfl 3 rfl ?_
          refine kr_i0 h (kc_rS h (c_entryPlace l D cI cZ cJ k t s) mlX0_66 ysX0_entryPlace dX0_table_45 rfl rfl ⟨Nat.le_of_ble_eq_true rfl, Nat.le_of_ble_eq_true rfl⟩ ⟨Nat.le_of_ble_eq_true rfl, Nat.le_of_ble_eq_true rfl⟩ (Nat.le_of_ble_eq_true rfl) [] rfl rfl) (fun v45 e45 => ?_)
          refine kr_istore (lv' := [(5, .int v45), (0, .ref (q 0)), (1, .int k), (2, .int t), (3, .int s), (4, .int n)]) h dX0_table_48 (by decide) rfl ?_
          refine kr_aload_n h dX0_table_50 rfl 1 rfl ?_
          refine kr_get h FX0ok 0 8 dX0_table_51 flX0_35 rfl rfl (by decide) rfl rfl ?_
          refine kr_iload h dX0_table_54 0 rfl ?_
          refine kr_iald h 9 0 dX0_table_56 rfl rfl (by rw [e45]; exact pTab_in ⟨xb_t e1 c4, xb_t e9 c12, xb_t e16 c19, xb_t e26 c29⟩) (fun v56 e56 => ?_)
          refine kr_istore (lv' := [(6, .int v56), (5, .int v45), (0, .ref (q 0)), (1, .int k), (2, .int t), (3, .int s), (4, .int n)]) h dX0_table_57 (by decide) rfl ?_
          refine kr_aload_n h dX0_table_59 rfl 2 rfl ?_
          refine kr_get h FX0ok 0 8 dX0_table_60 flX0_35 rfl rfl (by decide) rfl rfl ?_
          refine kr_iload h dX0_table_63 1 rfl ?_
          refine kr_iload h dX0_table_65 6 rfl ?_
          refine kr_iast (ws' := wX cI cZ q (xA x 8 (upd (x.1 8) (tn v45) n))) h 9 0 dX0_table_67 rfl rfl (by rw [e45]; exact pTab_in ⟨xb_t e1 c4, xb_t e9 c12, xb_t e16 c19, xb_t e26 c29⟩) (wX_r8 cI cZ q x _) ?_
          refine kr_iload h dX0_table_68 0 rfl ?_
          exact kr_iretX h hr hlk dX0_table_70 (by rw [xTabO, if_pos ⟨xb_t e1 c4, xb_t e9 c12, xb_t e16 c19, xb_t e26 c29⟩, e56, e45]) (by rw [xTab, if_pos ⟨xb_t e1 c4, xb_t e9 c12, xb_t e16 c19, xb_t e26 c29⟩, e45]; rfl) (Nat.zero_le _) (Nat.zero_le _)
        · exact kr_throw (tx := "a number is out of range") h hlk hnh hT hst tx_63 (by decide +kernel) dX0_table_32 dX0_table_35 dX0_table_36 dX0_table_38 dX0_table_41 (Nat.le_of_ble_eq_true rfl) (Nat.le_of_ble_eq_true rfl) (Nat.le_of_ble_eq_true rfl) (Nat.le_of_ble_eq_true rfl) (Nat.le_of_ble_eq_true rfl) (Nat.le_of_ble_eq_true rfl) (if_neg (fun z => by first | exact xb_f e1 c4 z.1 | exact xb_f e9 c12 z.2.1 | exact xb_f e16 c19 z.2.2.1 | exact xb_f e26 c29 z.2.2.2)) (congrArg _ (if_neg (fun z => by first | exact xb_f e1 c4 z.1 | exact xb_f e9 c12 z.2.1 | exact xb_f e16 c19 z.2.2.1 | exact xb_f e26 c29 z.2.2.2)).symm)
set_option maxHeartbeats 4000000 in
set_option maxRecDepth 100000 in
theorem c_policy (l : Launch) (hst : l.stackTraces = false) (D : va_G) (cI cZ cJ : ClassId) (q : Nat → Nat) (x : xSt) (k a b c : Int32) (hN : xN x) : kc_MX l yX0_policy cX0_policy 6 (some .int) 6 90 1 6 [.ref (q 0), .int k, .int a, .int b, .int c] D vwCl (tyL cI cZ cJ) (wX cI cZ q x) (xPolO x k a b c) (wX cI cZ q (xPol x k a b c)) := by
  refine kc_startX RX0 (by decide +kernel) rfl (Nat.le_of_ble_eq_true rfl) ?_
  intro zp ze zs zm zb zt zc h hr hlk hnh hT
  refine kr_aload_n h dX0_policy_0 rfl 0 rfl ?_
  refine kr_iload_n h dX0_policy_1 rfl 1 rfl ?_
  refine kr_iload_n h dX0_policy_2 rfl 2 rfl ?_
  refine kr_iload_n h dX0_policy_3 rfl 3 rfl ?_
  refine kr_iload h dX0_policy_4 4 rfl ?_
  refine kr_iA h (kc_rV h (c_isAsSaid l D cI cZ cJ q x k a b c) mlX0_70 yvX0_isAsSaid dX0_policy_6 rfl rfl ⟨Nat.le_of_ble_eq_true rfl, Nat.le_of_ble_eq_true rfl⟩ ⟨Nat.le_of_ble_eq_true rfl, Nat.le_of_ble_eq_true rfl⟩ (Nat.le_of_ble_eq_true rfl) [0, 1, 2, 3, 4, 5, 6, 7, 8, 9, 10, 11] rfl rfl 0 rfl rfl rfl) (fun v6 e6 => ?_)
  refine kr_if_ne h 22 dX0_policy_9 (by decide) (fun c9 => ?_) (fun c9 => ?_)
  · refine kr_aload_n h dX0_policy_22 rfl 0 rfl ?_
    refine kr_iload_n h dX0_policy_23 rfl 1 rfl ?_
    refine kr_iload_n h dX0_policy_24 rfl 2 rfl ?_
    refine kr_iload_n h dX0_policy_25 rfl 3 rfl ?_
    refine kr_iA h (kc_rV h (c_isTaken l D cI cZ cJ q x k a b (fun z => xN_in hN (said_A (xb_t e6 c9) z)) (fun z => xN_in hN (said_B (xb_t e6 c9) z))) mlX0_76 yvX0_isTaken dX0_policy_26 rfl rfl ⟨Nat.le_of_ble_eq_true rfl, Nat.le_of_ble_eq_true rfl⟩ ⟨Nat.le_of_ble_eq_true rfl, Nat.le_of_ble_eq_true rfl⟩ (Nat.le_of_ble_eq_true rfl) [0, 1, 2, 3, 4, 5, 6, 7, 8, 9, 10, 11] rfl rfl 0 rfl rfl rfl) (fun v26 e26 => ?_)
    refine kr_if_eq h 42 dX0_policy_29 (by decide) (fun c29 => ?_) (fun c29 => ?_)
    · refine kr_aload_n h dX0_policy_42 rfl 0 rfl ?_
      refine kr_iload_n h dX0_policy_43 rfl 1 rfl ?_
      refine kr_iload_n h dX0_policy_44 rfl 2 rfl ?_
      refine kr_iload_n h dX0_policy_45 rfl 3 rfl ?_
      refine kr_iA h (kc_rV h (c_levelAbove l D cI cZ cJ q x k a b (fun z => xN_in hN (said_A (xb_t e6 c9) z)) (fun z => xN_in hN (said_B (xb_t e6 c9) z))) mlX0_85 yvX0_levelAbove dX0_policy_46 rfl rfl ⟨Nat.le_of_ble_eq_true rfl, Nat.le_of_ble_eq_true rfl⟩ ⟨Nat.le_of_ble_eq_true rfl, Nat.le_of_ble_eq_true rfl⟩ (Nat.le_of_ble_eq_true rfl) [0, 1, 2, 3, 4, 5, 6, 7, 8, 9, 10, 11] rfl rfl 0 rfl rfl rfl) (fun v46 e46 => ?_)
      refine kr_istore (lv' := [(5, .int v46), (0, .ref (q 0)), (1, .int k), (2, .int a), (3, .int b), (4, .int c)]) h dX0_policy_49 (by decide) rfl ?_
      refine kr_iload h dX0_policy_51 0 rfl ?_
      refine kr_bipush (v := 7) h dX0_policy_53 (by decide) ?_
      refine kr_icmp_le h 68 dX0_policy_55 (by decide) (fun c55 => ?_) (fun c55 => ?_)
      · refine kr_aload_n h dX0_policy_68 rfl 1 rfl ?_
        refine kr_get h FX0ok 0 11 dX0_policy_69 flX0_93 rfl rfl (by decide) rfl rfl ?_
        refine kr_top h (fun v69 e69 => ?_)
        refine kr_bipush (v := 40) h dX0_policy_72 (by decide) ?_
        refine kr_icmp_lt h 87 dX0_policy_74 (by decide) (fun c74 => ?_) (fun c74 => ?_)
        · refine kr_aload_n h dX0_policy_87 rfl 1 rfl ?_
          refine kr_iload_n h dX0_policy_88 rfl 2 rfl ?_
          refine kr_iload_n h dX0_policy_89 rfl 3 rfl ?_
          refine kr_iload_n h dX0_policy_90 rfl 4 rfl ?_
          refine kr_iload h dX0_policy_91 5 rfl ?_
          refine kr_iload h dX0_policy_93 0 rfl ?_
          refine kr_iA h (kc_rV h (c_addPolicy l D cI cZ cJ q x k a b c v46 (xN_lt hN (by rw [← e69]; exact c74)) (fun z => xN_in hN (said_A (xb_t e6 c9) z)) (fun z => xN_in hN (said_B (xb_t e6 c9) z))) mlX0_101 yvX0_addPolicy dX0_policy_95 rfl rfl ⟨Nat.le_of_ble_eq_true rfl, Nat.le_of_ble_eq_true rfl⟩ ⟨Nat.le_of_ble_eq_true rfl, Nat.le_of_ble_eq_true rfl⟩ (Nat.le_of_ble_eq_true rfl) [0, 1, 2, 3, 4, 5, 6, 7, 8, 9, 10, 11] rfl rfl 0 rfl rfl rfl) (fun v95 e95 => ?_)
          exact kr_iretX h hr hlk dX0_policy_98 (((if_pos (xb_t e6 c9)).trans ((if_neg (xb_f e26 c29)).trans ((if_pos (by rw [← e46]; exact c55)).trans (if_pos (by rw [← e69]; exact c74))))).trans (congrArg _ e95.symm)) ((congrArg _ (by rw [e46])).trans (congrArg _ ((if_pos (xb_t e6 c9)).trans ((if_neg (xb_f e26 c29)).trans ((if_pos (by rw [← e46]; exact c55)).trans (if_pos (by rw [← e69]; exact c74))))).symm)) (Nat.zero_le _) (Nat.zero_le _)
        · exact kr_throw (tx := "there are too many policies") h hlk hnh hT hst tx_100 (by decide +kernel) dX0_policy_77 dX0_policy_80 dX0_policy_81 dX0_policy_83 dX0_policy_86 (Nat.le_of_ble_eq_true rfl) (Nat.le_of_ble_eq_true rfl) (Nat.le_of_ble_eq_true rfl) (Nat.le_of_ble_eq_true rfl) (Nat.le_of_ble_eq_true rfl) (Nat.le_of_ble_eq_true rfl) ((if_pos (xb_t e6 c9)).trans ((if_neg (xb_f e26 c29)).trans ((if_pos (by rw [← e46]; exact c55)).trans (if_neg (by rw [← e69]; exact c74))))) (congrArg _ ((if_pos (xb_t e6 c9)).trans ((if_neg (xb_f e26 c29)).trans ((if_pos (by rw [← e46]; exact c55)).trans (if_neg (by rw [← e69]; exact c74))))).symm)
      · exact kr_throw (tx := "the level is too high") h hlk hnh hT hst tx_92 (by decide +kernel) dX0_policy_58 dX0_policy_61 dX0_policy_62 dX0_policy_64 dX0_policy_67 (Nat.le_of_ble_eq_true rfl) (Nat.le_of_ble_eq_true rfl) (Nat.le_of_ble_eq_true rfl) (Nat.le_of_ble_eq_true rfl) (Nat.le_of_ble_eq_true rfl) (Nat.le_of_ble_eq_true rfl) ((if_pos (xb_t e6 c9)).trans ((if_neg (xb_f e26 c29)).trans (if_neg (by rw [← e46]; exact c55)))) (congrArg _ ((if_pos (xb_t e6 c9)).trans ((if_neg (xb_f e26 c29)).trans (if_neg (by rw [← e46]; exact c55)))).symm)
    · exact kr_throw (tx := "an operand is used already") h hlk hnh hT hst tx_84 (by decide +kernel) dX0_policy_32 dX0_policy_35 dX0_policy_36 dX0_policy_38 dX0_policy_41 (Nat.le_of_ble_eq_true rfl) (Nat.le_of_ble_eq_true rfl) (Nat.le_of_ble_eq_true rfl) (Nat.le_of_ble_eq_true rfl) (Nat.le_of_ble_eq_true rfl) (Nat.le_of_ble_eq_true rfl) ((if_pos (xb_t e6 c9)).trans (if_pos (xb_t e26 c29))) (congrArg _ ((if_pos (xb_t e6 c9)).trans (if_pos (xb_t e26 c29))).symm)
  · exact kr_throw (tx := "no such kind, or an operand is not as said") h hlk hnh hT hst tx_63 (by decide +kernel) dX0_policy_12 dX0_policy_15 dX0_policy_16 dX0_policy_18 dX0_policy_21 (Nat.le_of_ble_eq_true rfl) (Nat.le_of_ble_eq_true rfl) (Nat.le_of_ble_eq_true rfl) (Nat.le_of_ble_eq_true rfl) (Nat.le_of_ble_eq_true rfl) (Nat.le_of_ble_eq_true rfl) (if_neg (xb_f e6 c9)) (congrArg _ (if_neg (xb_f e6 c9)).symm)
set_option maxHeartbeats 4000000 in
set_option maxRecDepth 100000 in
theorem c_ask (l : Launch) (hst : l.stackTraces = false) (D : va_G) (cI cZ cJ : ClassId) (q : Nat → Nat) (x : xSt) (s v : Int32) (hi : xInst x) : kc_MX l yX0_ask cX0_ask 3 (some .int) 18 479 1 6 [.ref (q 0), .int s, .int v] D vwCl (tyL cI cZ cJ) (wX cI cZ q x) (xAskO x s v) (wX cI cZ q (x)) := by
  refine kc_startX RX0 (by decide +kernel) rfl (Nat.le_of_ble_eq_true rfl) ?_
  intro zp ze zs zm zb zt zc h hr hlk hnh hT
  refine kr_iload_n h dX0_ask_0 rfl 1 rfl ?_
  refine kr_i0 h (kc_rS h (c_isSort l D cI cZ cJ s) mlX0_56 ysX0_isSort dX0_ask_1 rfl rfl ⟨Nat.le_of_ble_eq_true rfl, Nat.le_of_ble_eq_true rfl⟩ ⟨Nat.le_of_ble_eq_true rfl, Nat.le_of_ble_eq_true rfl⟩ (Nat.le_of_ble_eq_true rfl) [] rfl rfl) (fun v1 e1 => ?_)
  refine kr_if_ne h 17 dX0_ask_4 (by decide) (fun c4 => ?_) (fun c4 => ?_)
  · refine kr_aload_n h dX0_ask_17 rfl 0 rfl ?_
    refine kr_iload_n h dX0_ask_18 rfl 1 rfl ?_
    refine kr_iload_n h dX0_ask_19 rfl 2 rfl ?_
    refine kr_iA h (kc_rV h (c_suggestNow l D cI cZ cJ q x s v (hi) (xSo_of (xb_t e1 c4))) mlX0_133 yvX0_suggestNow dX0_ask_20 rfl rfl ⟨Nat.le_of_ble_eq_true rfl, Nat.le_of_ble_eq_true rfl⟩ ⟨Nat.le_of_ble_eq_true rfl, Nat.le_of_ble_eq_true rfl⟩ (Nat.le_of_ble_eq_true rfl) [0, 1, 2, 3, 4, 5, 6, 7, 8, 9, 10, 11] rfl rfl 0 rfl rfl rfl) (fun v20 e20 => ?_)
    refine kr_i0 h (kc_rS h (c_kindOf l D cI cZ cJ v20) mlX0_137 ysX0_kindOf dX0_ask_23 rfl rfl ⟨Nat.le_of_ble_eq_true rfl, Nat.le_of_ble_eq_true rfl⟩ ⟨Nat.le_of_ble_eq_true rfl, Nat.le_of_ble_eq_true rfl⟩ (Nat.le_of_ble_eq_true rfl) [] rfl rfl) (fun v23 e23 => ?_)
    exact kr_iretX h hr hlk dX0_ask_26 ((if_pos (xb_t e1 c4)).trans (by rw [e23, e20])) (rfl) (Nat.zero_le _) (Nat.zero_le _)
  · exact kr_throw (tx := "no such sort") h hlk hnh hT hst tx_63 (by decide +kernel) dX0_ask_7 dX0_ask_10 dX0_ask_11 dX0_ask_13 dX0_ask_16 (Nat.le_of_ble_eq_true rfl) (Nat.le_of_ble_eq_true rfl) (Nat.le_of_ble_eq_true rfl) (Nat.le_of_ble_eq_true rfl) (Nat.le_of_ble_eq_true rfl) (Nat.le_of_ble_eq_true rfl) (if_neg (xb_f e1 c4)) (rfl)
set_option maxHeartbeats 4000000 in
set_option maxRecDepth 100000 in
theorem c_total (l : Launch) (hst : l.stackTraces = false) (D : va_G) (cI cZ cJ : ClassId) (q : Nat → Nat) (x : xSt) (s : Int32) : kc_MX l yX0_total cX0_total 2 (some .int) 6 90 1 6 [.ref (q 0), .int s] D vwCl (tyL cI cZ cJ) (wX cI cZ q x) (xTotO x s) (wX cI cZ q (x)) := by
  refine kc_startX RX0 (by decide +kernel) rfl (Nat.le_of_ble_eq_true rfl) ?_
  intro zp ze zs zm zb zt zc h hr hlk hnh hT
  refine kr_iload_n h dX0_total_0 rfl 1 rfl ?_
  refine kr_i0 h (kc_rS h (c_isSort l D cI cZ cJ s) mlX0_56 ysX0_isSort dX0_total_1 rfl rfl ⟨Nat.le_of_ble_eq_true rfl, Nat.le_of_ble_eq_true rfl⟩ ⟨Nat.le_of_ble_eq_true rfl, Nat.le_of_ble_eq_true rfl⟩ (Nat.le_of_ble_eq_true rfl) [] rfl rfl) (fun v1 e1 => ?_)
  refine kr_if_ne h 17 dX0_total_4 (by decide) (fun c4 => ?_) (fun c4 => ?_)
  · refine kr_aload_n h dX0_total_17 rfl 0 rfl ?_
    refine kr_get h FX0ok 0 9 dX0_total_18 flX0_38 rfl rfl (by decide) rfl rfl ?_
    refine kr_iload_n h dX0_total_21 rfl 1 rfl ?_
    refine kr_iald h 10 0 dX0_total_22 rfl rfl (xSo_in (xSo_of (xb_t e1 c4))) (fun v22 e22 => ?_)
    exact kr_iretX h hr hlk dX0_total_23 ((if_pos (xb_t e1 c4)).trans (by rw [e22])) (rfl) (Nat.zero_le _) (Nat.zero_le _)
  · exact kr_throw (tx := "no such sort") h hlk hnh hT hst tx_63 (by decide +kernel) dX0_total_7 dX0_total_10 dX0_total_11 dX0_total_13 dX0_total_16 (Nat.le_of_ble_eq_true rfl) (Nat.le_of_ble_eq_true rfl) (Nat.le_of_ble_eq_true rfl) (Nat.le_of_ble_eq_true rfl) (Nat.le_of_ble_eq_true rfl) (Nat.le_of_ble_eq_true rfl) (if_neg (xb_f e1 c4)) (rfl)
set_option maxHeartbeats 4000000 in
set_option maxRecDepth 100000 in
theorem c_detail (l : Launch) (hst : l.stackTraces = false) (D : va_G) (cI cZ cJ : ClassId) (q : Nat → Nat) (x : xSt) (s v w : Int32) (hi : xInst x) (hV : xV x) : kc_MX l yX0_detail cX0_detail 7 (some .int) 18 479 1 6 [.ref (q 0), .int s, .int v, .int w] D vwCl (tyL cI cZ cJ) (wX cI cZ q x) (xDetO x s v w) (wX cI cZ q (x)) := by
  refine kc_startX RX0 (by decide +kernel) rfl (Nat.le_of_ble_eq_true rfl) ?_
  intro zp ze zs zm zb zt zc h hr hlk hnh hT
  refine kr_iload_n h dX0_detail_0 rfl 1 rfl ?_
  refine kr_i0 h (kc_rS h (c_isSort l D cI cZ cJ s) mlX0_56 ysX0_isSort dX0_detail_1 rfl rfl ⟨Nat.le_of_ble_eq_true rfl, Nat.le_of_ble_eq_true rfl⟩ ⟨Nat.le_of_ble_eq_true rfl, Nat.le_of_ble_eq_true rfl⟩ (Nat.le_of_ble_eq_true rfl) [] rfl rfl) (fun v1 e1 => ?_)
  refine kr_if_eq h 15 dX0_detail_4 (by decide) (fun c4 => ?_) (fun c4 => ?_)
  · exact kr_throw (tx := "no such sort or what") h hlk hnh hT hst tx_63 (by decide +kernel) dX0_detail_15 dX0_detail_18 dX0_detail_19 dX0_detail_21 dX0_detail_24 (Nat.le_of_ble_eq_true rfl) (Nat.le_of_ble_eq_true rfl) (Nat.le_of_ble_eq_true rfl) (Nat.le_of_ble_eq_true rfl) (Nat.le_of_ble_eq_true rfl) (Nat.le_of_ble_eq_true rfl) (if_neg (fun z => by first | exact xb_f e1 c4 z.1 | exact xb_f e9 c12 z.2)) (rfl)
  · refine kr_iload_n h dX0_detail_7 rfl 3 rfl ?_
    refine kr_iconst (v := 3) h dX0_detail_8 (by decide) ?_
    refine kr_i0 h (kc_rS h (c_isBelow l D cI cZ cJ w 3) mlX0_52 ysX0_isBelow dX0_detail_9 rfl rfl ⟨Nat.le_of_ble_eq_true rfl, Nat.le_of_ble_eq_true rfl⟩ ⟨Nat.le_of_ble_eq_true rfl, Nat.le_of_ble_eq_true rfl⟩ (Nat.le_of_ble_eq_true rfl) [] rfl rfl) (fun v9 e9 => ?_)
    refine kr_if_ne h 25 dX0_detail_12 (by decide) (fun c12 => ?_) (fun c12 => ?_)
    · refine kr_aload_n h dX0_detail_25 rfl 0 rfl ?_
      refine kr_iload_n h dX0_detail_26 rfl 1 rfl ?_
      refine kr_iload_n h dX0_detail_27 rfl 2 rfl ?_
      refine kr_iA h (kc_rV h (c_suggestNow l D cI cZ cJ q x s v (hi) (xSo_of (xb_t e1 c4))) mlX0_133 yvX0_suggestNow dX0_detail_28 rfl rfl ⟨Nat.le_of_ble_eq_true rfl, Nat.le_of_ble_eq_true rfl⟩ ⟨Nat.le_of_ble_eq_true rfl, Nat.le_of_ble_eq_true rfl⟩ (Nat.le_of_ble_eq_true rfl) [0, 1, 2, 3, 4, 5, 6, 7, 8, 9, 10, 11] rfl rfl 0 rfl rfl rfl) (fun v28 e28 => ?_)
      refine kr_istore (lv' := [(4, .int v28), (0, .ref (q 0)), (1, .int s), (2, .int v), (3, .int w)]) h dX0_detail_31 (by decide) rfl ?_
      refine kr_iload_n h dX0_detail_33 rfl 4 rfl ?_
      refine kr_iconst (v := 2) h dX0_detail_34 (by decide) ?_
      refine kr_icmp_ne h 42 dX0_detail_35 (by decide) (fun c35 => ?_) (fun c35 => ?_)
      · refine kr_iconst (v := 2) h dX0_detail_42 (by decide) ?_
        refine kr_istore (lv' := [(5, .int 2), (4, .int v28), (0, .ref (q 0)), (1, .int s), (2, .int v), (3, .int w)]) h dX0_detail_43 (by decide) rfl ?_
        refine kr_iload h dX0_detail_45 1 rfl ?_
        refine kr_i0 h (kc_rS h (c_kindOf l D cI cZ cJ v28) mlX0_137 ysX0_kindOf dX0_detail_47 rfl rfl ⟨Nat.le_of_ble_eq_true rfl, Nat.le_of_ble_eq_true rfl⟩ ⟨Nat.le_of_ble_eq_true rfl, Nat.le_of_ble_eq_true rfl⟩ (Nat.le_of_ble_eq_true rfl) [] rfl rfl) (fun v47 e47 => ?_)
        refine kr_iload h dX0_detail_50 0 rfl ?_
        refine kr_icmp_eq h 65 dX0_detail_52 (by decide) (fun c52 => ?_) (fun c52 => ?_)
        · refine kr_iload h dX0_detail_65 1 rfl ?_
          refine kr_i0 h (kc_rS h (c_sourceOf l D cI cZ cJ v28) mlX0_145 ysX0_sourceOf dX0_detail_67 rfl rfl ⟨Nat.le_of_ble_eq_true rfl, Nat.le_of_ble_eq_true rfl⟩ ⟨Nat.le_of_ble_eq_true rfl, Nat.le_of_ble_eq_true rfl⟩ (Nat.le_of_ble_eq_true rfl) [] rfl rfl) (fun v67 e67 => ?_)
          refine kr_istore (lv' := [(6, .int v67), (5, .int 2), (4, .int v28), (0, .ref (q 0)), (1, .int s), (2, .int v), (3, .int w)]) h dX0_detail_70 (by decide) rfl ?_
          refine kr_iload_n h dX0_detail_72 rfl 6 rfl ?_
          refine kr_iconst (v := 1) h dX0_detail_73 (by decide) ?_
          refine kr_icmp_ne h 87 dX0_detail_74 (by decide) (fun c74 => ?_) (fun c74 => ?_)
          · refine kr_aload_n h dX0_detail_87 rfl 3 rfl ?_
            refine kr_get h FX0ok 0 2 dX0_detail_88 flX0_16 rfl rfl (by decide) rfl rfl ?_
            refine kr_iload h dX0_detail_91 0 rfl ?_
            refine kr_iald h 3 0 dX0_detail_93 rfl rfl (by rw [e67]; exact xNow_src hi hV e28 (by rw [← e47]; first | exact Or.inl c52 | exact Or.inr c52)) (fun v93 e93 => ?_)
            exact kr_iretX h hr hlk dX0_detail_94 ((if_pos ⟨xb_t e1 c4, xb_t e9 c12⟩).trans ((if_pos (by rw [← e28, ← e47, c52]; first | rw [if_pos c35] | rw [if_neg c35])).trans (by first | rw [if_pos c74, e83, e67, e28] | rw [if_neg c74, e93, e67, e28]))) (rfl) (Nat.zero_le _) (Nat.zero_le _)
          · refine kr_aload_n h dX0_detail_77 rfl 3 rfl ?_
            refine kr_get h FX0ok 0 3 dX0_detail_78 flX0_19 rfl rfl (by decide) rfl rfl ?_
            refine kr_iload h dX0_detail_81 0 rfl ?_
            refine kr_iald h 4 0 dX0_detail_83 rfl rfl (by rw [e67]; exact xNow_src hi hV e28 (by rw [← e47]; first | exact Or.inl c52 | exact Or.inr c52)) (fun v83 e83 => ?_)
            refine kr_goto h 94 dX0_detail_84 (by decide) ?_
            exact kr_iretX h hr hlk dX0_detail_94 ((if_pos ⟨xb_t e1 c4, xb_t e9 c12⟩).trans ((if_pos (by rw [← e28, ← e47, c52]; first | rw [if_pos c35] | rw [if_neg c35])).trans (by first | rw [if_pos c74, e83, e67, e28] | rw [if_neg c74, e93, e67, e28]))) (rfl) (Nat.zero_le _) (Nat.zero_le _)
        · exact kr_throw (tx := "the suggestion is of another kind") h hlk hnh hT hst tx_84 (by decide +kernel) dX0_detail_55 dX0_detail_58 dX0_detail_59 dX0_detail_61 dX0_detail_64 (Nat.le_of_ble_eq_true rfl) (Nat.le_of_ble_eq_true rfl) (Nat.le_of_ble_eq_true rfl) (Nat.le_of_ble_eq_true rfl) (Nat.le_of_ble_eq_true rfl) (Nat.le_of_ble_eq_true rfl) ((if_pos ⟨xb_t e1 c4, xb_t e9 c12⟩).trans (if_neg (fun z => c52 (by rw [e47, e28, z]; first | rw [if_pos c35] | rw [if_neg c35])))) (rfl)
      · refine kr_iconst (v := 3) h dX0_detail_38 (by decide) ?_
        refine kr_goto h 43 dX0_detail_39 (by decide) ?_
        refine kr_istore (lv' := [(5, .int 3), (4, .int v28), (0, .ref (q 0)), (1, .int s), (2, .int v), (3, .int w)]) h dX0_detail_43 (by decide) rfl ?_
        refine kr_iload h dX0_detail_45 1 rfl ?_
        refine kr_i0 h (kc_rS h (c_kindOf l D cI cZ cJ v28) mlX0_137 ysX0_kindOf dX0_detail_47 rfl rfl ⟨Nat.le_of_ble_eq_true rfl, Nat.le_of_ble_eq_true rfl⟩ ⟨Nat.le_of_ble_eq_true rfl, Nat.le_of_ble_eq_true rfl⟩ (Nat.le_of_ble_eq_true rfl) [] rfl rfl) (fun v47 e47 => ?_)
        refine kr_iload h dX0_detail_50 0 rfl ?_
        refine kr_icmp_eq h 65 dX0_detail_52 (by decide) (fun c52 => ?_) (fun c52 => ?_)
        · refine kr_iload h dX0_detail_65 1 rfl ?_
          refine kr_i0 h (kc_rS h (c_sourceOf l D cI cZ cJ v28) mlX0_145 ysX0_sourceOf dX0_detail_67 rfl rfl ⟨Nat.le_of_ble_eq_true rfl, Nat.le_of_ble_eq_true rfl⟩ ⟨Nat.le_of_ble_eq_true rfl, Nat.le_of_ble_eq_true rfl⟩ (Nat.le_of_ble_eq_true rfl) [] rfl rfl) (fun v67 e67 => ?_)
          refine kr_istore (lv' := [(6, .int v67), (5, .int 3), (4, .int v28), (0, .ref (q 0)), (1, .int s), (2, .int v), (3, .int w)]) h dX0_detail_70 (by decide) rfl ?_
          refine kr_iload_n h dX0_detail_72 rfl 6 rfl ?_
          refine kr_iconst (v := 1) h dX0_detail_73 (by decide) ?_
          refine kr_icmp_ne h 87 dX0_detail_74 (by decide) (fun c74 => ?_) (fun c74 => ?_)
          · refine kr_aload_n h dX0_detail_87 rfl 3 rfl ?_
            refine kr_get h FX0ok 0 2 dX0_detail_88 flX0_16 rfl rfl (by decide) rfl rfl ?_
            refine kr_iload h dX0_detail_91 0 rfl ?_
            refine kr_iald h 3 0 dX0_detail_93 rfl rfl (by rw [e67]; exact xNow_src hi hV e28 (by rw [← e47]; first | exact Or.inl c52 | exact Or.inr c52)) (fun v93 e93 => ?_)
            exact kr_iretX h hr hlk dX0_detail_94 ((if_pos ⟨xb_t e1 c4, xb_t e9 c12⟩).trans ((if_pos (by rw [← e28, ← e47, c52]; first | rw [if_pos c35] | rw [if_neg c35])).trans (by first | rw [if_pos c74, e83, e67, e28] | rw [if_neg c74, e93, e67, e28]))) (rfl) (Nat.zero_le _) (Nat.zero_le _)
          · refine kr_aload_n h dX0_detail_77 rfl 3 rfl ?_
            refine kr_get h FX0ok 0 3 dX0_detail_78 flX0_19 rfl rfl (by decide) rfl rfl ?_
            refine kr_iload h dX0_detail_81 0 rfl ?_
            refine kr_iald h 4 0 dX0_detail_83 rfl rfl (by rw [e67]; exact xNow_src hi hV e28 (by rw [← e47]; first | exact Or.inl c52 | exact Or.inr c52)) (fun v83 e83 => ?_)
            refine kr_goto h 94 dX0_detail_84 (by decide) ?_
            exact kr_iretX h hr hlk dX0_detail_94 ((if_pos ⟨xb_t e1 c4, xb_t e9 c12⟩).trans ((if_pos (by rw [← e28, ← e47, c52]; first | rw [if_pos c35] | rw [if_neg c35])).trans (by first | rw [if_pos c74, e83, e67, e28] | rw [if_neg c74, e93, e67, e28]))) (rfl) (Nat.zero_le _) (Nat.zero_le _)
        · exact kr_throw (tx := "the suggestion is of another kind") h hlk hnh hT hst tx_84 (by decide +kernel) dX0_detail_55 dX0_detail_58 dX0_detail_59 dX0_detail_61 dX0_detail_64 (Nat.le_of_ble_eq_true rfl) (Nat.le_of_ble_eq_true rfl) (Nat.le_of_ble_eq_true rfl) (Nat.le_of_ble_eq_true rfl) (Nat.le_of_ble_eq_true rfl) (Nat.le_of_ble_eq_true rfl) ((if_pos ⟨xb_t e1 c4, xb_t e9 c12⟩).trans (if_neg (fun z => c52 (by rw [e47, e28, z]; first | rw [if_pos c35] | rw [if_neg c35])))) (rfl)
    · exact kr_throw (tx := "no such sort or what") h hlk hnh hT hst tx_63 (by decide +kernel) dX0_detail_15 dX0_detail_18 dX0_detail_19 dX0_detail_21 dX0_detail_24 (Nat.le_of_ble_eq_true rfl) (Nat.le_of_ble_eq_true rfl) (Nat.le_of_ble_eq_true rfl) (Nat.le_of_ble_eq_true rfl) (Nat.le_of_ble_eq_true rfl) (Nat.le_of_ble_eq_true rfl) (if_neg (fun z => by first | exact xb_f e1 c4 z.1 | exact xb_f e9 c12 z.2)) (rfl)
