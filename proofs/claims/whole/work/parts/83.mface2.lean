set_option maxHeartbeats 4000000 in
set_option maxRecDepth 100000 in
theorem m_ask (l : Launch) (D : va_G) (cI cZ cJ : ClassId) (q : Nat → Nat) (x : xSt) (s v : Int32) (hW : yW x) : kc_M l yX1_ask cX1_ask 3 (some .int) 4 104 0 0 [.ref (q 0), .int s, .int v] D vwCl (tyL cI cZ cJ) (wY cI cZ q x) (some (.int (yAskR x s v))) (wY cI cZ q (yAskX x s v)) := by
  refine kc_start RX1 (by decide +kernel) rfl (Nat.le_of_ble_eq_true rfl) ?_
  intro zp ze zs zm zb zt zc h hr hlk hnm
  refine kr_aload_n h dX1_ask_0 rfl 0 rfl ?_
  refine kr_iload_n h dX1_ask_1 rfl 1 rfl ?_
  refine kr_iconst (v := 0) h dX1_ask_2 (by decide) ?_
  refine kr_bipush (v := 7) h dX1_ask_3 (by decide) ?_
  refine kr_iA h (kc_rV h (m_out l D cI cZ cJ q x s 0 7) mlX1_97 yvX1_out dX1_ask_5 rfl rfl ⟨Nat.le_of_ble_eq_true rfl, Nat.le_of_ble_eq_true rfl⟩ ⟨Nat.le_of_ble_eq_true rfl, Nat.le_of_ble_eq_true rfl⟩ (Nat.le_of_ble_eq_true rfl) [0, 1, 2, 3, 4, 5, 6, 7, 8, 9, 10, 11, 12, 13, 14, 15, 16, 17, 18, 19] rfl rfl 0 rfl rfl rfl) (fun v5 e5 => ?_)
  refine kr_if_eq h 17 dX1_ask_8 (by decide) (fun c8 => ?_) (fun c8 => ?_)
  · refine kr_aload_n h dX1_ask_17 rfl 0 rfl ?_
    refine kr_aload_n h dX1_ask_18 rfl 0 rfl ?_
    refine kr_get h FX1ok 0 1 dX1_ask_19 flX1_13 rfl rfl (by decide) rfl rfl ?_
    refine kr_top h (fun v19 e19 => ?_)
    refine kr_if_ge h 29 dX1_ask_22 (by decide) (fun c22 => ?_) (fun c22 => ?_)
    · refine kr_aload_n h dX1_ask_29 rfl 0 rfl ?_
      refine kr_iload_n h dX1_ask_30 rfl 1 rfl ?_
      refine kr_iload_n h dX1_ask_31 rfl 2 rfl ?_
      refine kr_iconst (v := 0) h dX1_ask_32 (by decide) ?_
      refine kr_iA h (kc_rV h (m_askAll l D cI cZ cJ q x s v 0 ((hW.1 (by rw [← e19]; exact c22)).1) (pOut_in (xb_f e5 c8))) mlX1_148 yvX1_askAll dX1_ask_33 rfl rfl ⟨Nat.le_of_ble_eq_true rfl, Nat.le_of_ble_eq_true rfl⟩ ⟨Nat.le_of_ble_eq_true rfl, Nat.le_of_ble_eq_true rfl⟩ (Nat.le_of_ble_eq_true rfl) [0, 1, 2, 3, 4, 5, 6, 7, 8, 9, 10, 11, 12, 13, 14, 15, 16, 17, 18, 19] rfl rfl 0 rfl rfl rfl) (fun v33 e33 => ?_)
      refine kr_iA h (kc_rV h (m_fine l D cI cZ cJ q (yAll x s v 0) v33) mlX1_105 yvX1_fine dX1_ask_36 rfl rfl ⟨Nat.le_of_ble_eq_true rfl, Nat.le_of_ble_eq_true rfl⟩ ⟨Nat.le_of_ble_eq_true rfl, Nat.le_of_ble_eq_true rfl⟩ (Nat.le_of_ble_eq_true rfl) [0, 1, 2, 3, 4, 5, 6, 7, 8, 9, 10, 11, 12, 13, 14, 15, 16, 17, 18, 19] rfl rfl 0 rfl rfl rfl) (fun v36 e36 => ?_)
      exact kr_iret h hr hlk dX1_ask_39 (by rw [yAskR, if_neg (xb_f e5 c8), e36]; first | (rw [if_pos (by rw [← e19]; exact c22)]; exact e33) | rw [if_neg (by rw [← e19]; exact c22)]) (congrArg _ (by rw [yAskX, if_neg (xb_f e5 c8)]; first | rw [if_pos (by rw [← e19]; exact c22)] | rw [if_neg (by rw [← e19]; exact c22)]))
    · refine kr_iconst (v := 0) h dX1_ask_25 (by decide) ?_
      refine kr_goto h 36 dX1_ask_26 (by decide) ?_
      refine kr_iA h (kc_rV h (m_fine l D cI cZ cJ q x 0) mlX1_105 yvX1_fine dX1_ask_36 rfl rfl ⟨Nat.le_of_ble_eq_true rfl, Nat.le_of_ble_eq_true rfl⟩ ⟨Nat.le_of_ble_eq_true rfl, Nat.le_of_ble_eq_true rfl⟩ (Nat.le_of_ble_eq_true rfl) [0, 1, 2, 3, 4, 5, 6, 7, 8, 9, 10, 11, 12, 13, 14, 15, 16, 17, 18, 19] rfl rfl 0 rfl rfl rfl) (fun v36 e36 => ?_)
      exact kr_iret h hr hlk dX1_ask_39 (by rw [yAskR, if_neg (xb_f e5 c8), e36]; first | (rw [if_pos (by rw [← e19]; exact c22)]; exact e33) | rw [if_neg (by rw [← e19]; exact c22)]) (congrArg _ (by rw [yAskX, if_neg (xb_f e5 c8)]; first | rw [if_pos (by rw [← e19]; exact c22)] | rw [if_neg (by rw [← e19]; exact c22)]))
  · refine kr_aload_n h dX1_ask_11 rfl 0 rfl ?_
    refine kr_iconst (v := 1) h dX1_ask_12 (by decide) ?_
    refine kr_iA h (kc_rV h (m_fail l D cI cZ cJ q x 1) mlX1_101 yvX1_fail dX1_ask_13 rfl rfl ⟨Nat.le_of_ble_eq_true rfl, Nat.le_of_ble_eq_true rfl⟩ ⟨Nat.le_of_ble_eq_true rfl, Nat.le_of_ble_eq_true rfl⟩ (Nat.le_of_ble_eq_true rfl) [0, 1, 2, 3, 4, 5, 6, 7, 8, 9, 10, 11, 12, 13, 14, 15, 16, 17, 18, 19] rfl rfl 0 rfl rfl rfl) (fun v13 e13 => ?_)
    exact kr_iret h hr hlk dX1_ask_16 (e13.trans (if_pos (xb_t e5 c8)).symm) (congrArg _ (if_pos (xb_t e5 c8)).symm)
set_option maxHeartbeats 4000000 in
set_option maxRecDepth 100000 in
theorem m_detail (l : Launch) (D : va_G) (cI cZ cJ : ClassId) (q : Nat → Nat) (x : xSt) (s v w : Int32) (hW : yW x) : kc_M l yX1_detail cX1_detail 5 (some .int) 4 104 0 0 [.ref (q 0), .int s, .int v, .int w] D vwCl (tyL cI cZ cJ) (wY cI cZ q x) (some (.int (yDetR x s v w))) (wY cI cZ q (yDetX x s v w)) := by
  refine kc_start RX1 (by decide +kernel) rfl (Nat.le_of_ble_eq_true rfl) ?_
  intro zp ze zs zm zb zt zc h hr hlk hnm
  refine kr_aload_n h dX1_detail_0 rfl 0 rfl ?_
  refine kr_iload_n h dX1_detail_1 rfl 1 rfl ?_
  refine kr_iconst (v := 0) h dX1_detail_2 (by decide) ?_
  refine kr_bipush (v := 7) h dX1_detail_3 (by decide) ?_
  refine kr_iA h (kc_rV h (m_out l D cI cZ cJ q x s 0 7) mlX1_97 yvX1_out dX1_detail_5 rfl rfl ⟨Nat.le_of_ble_eq_true rfl, Nat.le_of_ble_eq_true rfl⟩ ⟨Nat.le_of_ble_eq_true rfl, Nat.le_of_ble_eq_true rfl⟩ (Nat.le_of_ble_eq_true rfl) [0, 1, 2, 3, 4, 5, 6, 7, 8, 9, 10, 11, 12, 13, 14, 15, 16, 17, 18, 19] rfl rfl 0 rfl rfl rfl) (fun v5 e5 => ?_)
  refine kr_if_ne h 21 dX1_detail_8 (by decide) (fun c8 => ?_) (fun c8 => ?_)
  · refine kr_aload_n h dX1_detail_21 rfl 0 rfl ?_
    refine kr_iconst (v := 1) h dX1_detail_22 (by decide) ?_
    refine kr_iA h (kc_rV h (m_fail l D cI cZ cJ q x 1) mlX1_101 yvX1_fail dX1_detail_23 rfl rfl ⟨Nat.le_of_ble_eq_true rfl, Nat.le_of_ble_eq_true rfl⟩ ⟨Nat.le_of_ble_eq_true rfl, Nat.le_of_ble_eq_true rfl⟩ (Nat.le_of_ble_eq_true rfl) [0, 1, 2, 3, 4, 5, 6, 7, 8, 9, 10, 11, 12, 13, 14, 15, 16, 17, 18, 19] rfl rfl 0 rfl rfl rfl) (fun v23 e23 => ?_)
    exact kr_iret h hr hlk dX1_detail_26 (e23.trans (if_pos (by first | exact Or.inl (xb_t e5 c8) | exact Or.inr (xb_t e15 c18))).symm) (congrArg _ (if_pos (by first | exact Or.inl (xb_t e5 c8) | exact Or.inr (xb_t e15 c18))).symm)
  · refine kr_aload_n h dX1_detail_11 rfl 0 rfl ?_
    refine kr_iload_n h dX1_detail_12 rfl 3 rfl ?_
    refine kr_iconst (v := 0) h dX1_detail_13 (by decide) ?_
    refine kr_iconst (v := 2) h dX1_detail_14 (by decide) ?_
    refine kr_iA h (kc_rV h (m_out l D cI cZ cJ q x w 0 2) mlX1_97 yvX1_out dX1_detail_15 rfl rfl ⟨Nat.le_of_ble_eq_true rfl, Nat.le_of_ble_eq_true rfl⟩ ⟨Nat.le_of_ble_eq_true rfl, Nat.le_of_ble_eq_true rfl⟩ (Nat.le_of_ble_eq_true rfl) [0, 1, 2, 3, 4, 5, 6, 7, 8, 9, 10, 11, 12, 13, 14, 15, 16, 17, 18, 19] rfl rfl 0 rfl rfl rfl) (fun v15 e15 => ?_)
    refine kr_if_eq h 27 dX1_detail_18 (by decide) (fun c18 => ?_) (fun c18 => ?_)
    · refine kr_aload_n h dX1_detail_27 rfl 0 rfl ?_
      refine kr_get h FX1ok 0 1 dX1_detail_28 flX1_13 rfl rfl (by decide) rfl rfl ?_
      refine kr_top h (fun v28 e28 => ?_)
      refine kr_if_ge h 38 dX1_detail_31 (by decide) (fun c31 => ?_) (fun c31 => ?_)
      · refine kr_aload_n h dX1_detail_38 rfl 0 rfl ?_
        refine kr_iload_n h dX1_detail_39 rfl 1 rfl ?_
        refine kr_iload_n h dX1_detail_40 rfl 2 rfl ?_
        refine kr_iconst (v := 0) h dX1_detail_41 (by decide) ?_
        refine kr_iA h (kc_rV h (m_askAll l D cI cZ cJ q x s v 0 ((hW.1 (by rw [← e28]; exact c31)).1) (pOut_in (xb_f e5 c8))) mlX1_148 yvX1_askAll dX1_detail_42 rfl rfl ⟨Nat.le_of_ble_eq_true rfl, Nat.le_of_ble_eq_true rfl⟩ ⟨Nat.le_of_ble_eq_true rfl, Nat.le_of_ble_eq_true rfl⟩ (Nat.le_of_ble_eq_true rfl) [0, 1, 2, 3, 4, 5, 6, 7, 8, 9, 10, 11, 12, 13, 14, 15, 16, 17, 18, 19] rfl rfl 0 rfl rfl rfl) (fun v42 e42 => ?_)
        refine kr_istore (lv' := [(4, .int v42), (0, .ref (q 0)), (1, .int s), (2, .int v), (3, .int w)]) h dX1_detail_45 (by decide) rfl ?_
        refine kr_iload h dX1_detail_47 0 rfl ?_
        refine kr_iload_n h dX1_detail_49 rfl 4 rfl ?_
        refine kr_iconst (v := 2) h dX1_detail_50 (by decide) ?_
        refine kr_icmp_ne h 58 dX1_detail_51 (by decide) (fun c51 => ?_) (fun c51 => ?_)
        · refine kr_iconst (v := 2) h dX1_detail_58 (by decide) ?_
          refine kr_icmp_eq h 68 dX1_detail_59 (by decide) (fun c59 => ?_) (fun c59 => ?_)
          · refine kr_aload_n h dX1_detail_68 rfl 1 rfl ?_
            refine kr_iload_n h dX1_detail_69 rfl 4 rfl ?_
            refine kr_if_ne h 85 dX1_detail_70 (by decide) (fun c70 => ?_) (fun c70 => ?_)
            · refine kr_aload_n h dX1_detail_85 rfl 1 rfl ?_
              refine kr_get h FX1ok 0 22 dX1_detail_86 flX1_79 rfl rfl (by decide) rfl rfl ?_
              refine kr_aload_n h dX1_detail_89 rfl 1 rfl ?_
              refine kr_get h FX1ok 0 1 dX1_detail_90 flX1_13 rfl rfl (by decide) rfl rfl ?_
              refine kr_top h (fun v90 e90 => ?_)
              have h90 : v90 = x.2 1 := e90.trans (yKe_all 0 x s v 0).2.1
              refine kr_iald h 14 0 dX1_detail_93 rfl rfl (by rw [h90]; exact xG_in (hW.1 (by rw [← e28]; exact c31)).1) (fun v93 e93 => ?_)
              refine kr_iA h (kc_rV h (m_fine l D cI cZ cJ q (yAll x s v 0) v93) mlX1_105 yvX1_fine dX1_detail_94 rfl rfl ⟨Nat.le_of_ble_eq_true rfl, Nat.le_of_ble_eq_true rfl⟩ ⟨Nat.le_of_ble_eq_true rfl, Nat.le_of_ble_eq_true rfl⟩ (Nat.le_of_ble_eq_true rfl) [0, 1, 2, 3, 4, 5, 6, 7, 8, 9, 10, 11, 12, 13, 14, 15, 16, 17, 18, 19] rfl rfl 0 rfl rfl rfl) (fun v94 e94 => ?_)
              exact kr_iret h hr hlk dX1_detail_97 (by rw [yDetR, if_neg (fun z => by rcases z with z | z; exact xb_f e5 c8 z; exact xb_f e15 c18 z), e94, if_pos (by rw [← e28]; exact c31), ← e42]; (first | rw [show yWant w = 3 from if_pos c51] | rw [show yWant w = 2 from if_neg c51]); rw [if_pos c59]; first | (rw [if_pos c70, ← h78]; exact e81) | (rw [if_neg c70, ← h90]; exact e93)) (congrArg _ (by rw [yDetX, if_neg (fun z => by rcases z with z | z; exact xb_f e5 c8 z; exact xb_f e15 c18 z), if_pos (by rw [← e28]; exact c31), ← e42]; (first | rw [show yWant w = 3 from if_pos c51] | rw [show yWant w = 2 from if_neg c51]); rw [if_pos c59]))
            · refine kr_aload_n h dX1_detail_73 rfl 1 rfl ?_
              refine kr_get h FX1ok 0 21 dX1_detail_74 flX1_76 rfl rfl (by decide) rfl rfl ?_
              refine kr_aload_n h dX1_detail_77 rfl 1 rfl ?_
              refine kr_get h FX1ok 0 1 dX1_detail_78 flX1_13 rfl rfl (by decide) rfl rfl ?_
              refine kr_top h (fun v78 e78 => ?_)
              have h78 : v78 = x.2 1 := e78.trans (yKe_all 0 x s v 0).2.1
              refine kr_iald h 13 0 dX1_detail_81 rfl rfl (by rw [h78]; exact xG_in (hW.1 (by rw [← e28]; exact c31)).1) (fun v81 e81 => ?_)
              refine kr_goto h 94 dX1_detail_82 (by decide) ?_
              refine kr_iA h (kc_rV h (m_fine l D cI cZ cJ q (yAll x s v 0) v81) mlX1_105 yvX1_fine dX1_detail_94 rfl rfl ⟨Nat.le_of_ble_eq_true rfl, Nat.le_of_ble_eq_true rfl⟩ ⟨Nat.le_of_ble_eq_true rfl, Nat.le_of_ble_eq_true rfl⟩ (Nat.le_of_ble_eq_true rfl) [0, 1, 2, 3, 4, 5, 6, 7, 8, 9, 10, 11, 12, 13, 14, 15, 16, 17, 18, 19] rfl rfl 0 rfl rfl rfl) (fun v94 e94 => ?_)
              exact kr_iret h hr hlk dX1_detail_97 (by rw [yDetR, if_neg (fun z => by rcases z with z | z; exact xb_f e5 c8 z; exact xb_f e15 c18 z), e94, if_pos (by rw [← e28]; exact c31), ← e42]; (first | rw [show yWant w = 3 from if_pos c51] | rw [show yWant w = 2 from if_neg c51]); rw [if_pos c59]; first | (rw [if_pos c70, ← h78]; exact e81) | (rw [if_neg c70, ← h90]; exact e93)) (congrArg _ (by rw [yDetX, if_neg (fun z => by rcases z with z | z; exact xb_f e5 c8 z; exact xb_f e15 c18 z), if_pos (by rw [← e28]; exact c31), ← e42]; (first | rw [show yWant w = 3 from if_pos c51] | rw [show yWant w = 2 from if_neg c51]); rw [if_pos c59]))
          · refine kr_aload_n h dX1_detail_62 rfl 1 rfl ?_
            refine kr_iconst (v := 2) h dX1_detail_63 (by decide) ?_
            refine kr_iA h (kc_rV h (m_fail l D cI cZ cJ q (yAll x s v 0) 2) mlX1_101 yvX1_fail dX1_detail_64 rfl rfl ⟨Nat.le_of_ble_eq_true rfl, Nat.le_of_ble_eq_true rfl⟩ ⟨Nat.le_of_ble_eq_true rfl, Nat.le_of_ble_eq_true rfl⟩ (Nat.le_of_ble_eq_true rfl) [0, 1, 2, 3, 4, 5, 6, 7, 8, 9, 10, 11, 12, 13, 14, 15, 16, 17, 18, 19] rfl rfl 0 rfl rfl rfl) (fun v64 e64 => ?_)
            exact kr_iret h hr hlk dX1_detail_67 (by rw [yDetR, if_neg (fun z => by rcases z with z | z; exact xb_f e5 c8 z; exact xb_f e15 c18 z), e64]; first | rw [if_neg (by rw [← e28]; exact c31)] | (rw [if_pos (by rw [← e28]; exact c31), ← e42]; (first | rw [show yWant w = 3 from if_pos c51] | rw [show yWant w = 2 from if_neg c51]); rw [if_neg c59])) (congrArg _ (by rw [yDetX, if_neg (fun z => by rcases z with z | z; exact xb_f e5 c8 z; exact xb_f e15 c18 z)]; first | rw [if_neg (by rw [← e28]; exact c31)] | (rw [if_pos (by rw [← e28]; exact c31), ← e42]; (first | rw [show yWant w = 3 from if_pos c51] | rw [show yWant w = 2 from if_neg c51]); rw [if_neg c59])))
        · refine kr_iconst (v := 3) h dX1_detail_54 (by decide) ?_
          refine kr_goto h 59 dX1_detail_55 (by decide) ?_
          refine kr_icmp_eq h 68 dX1_detail_59 (by decide) (fun c59 => ?_) (fun c59 => ?_)
          · refine kr_aload_n h dX1_detail_68 rfl 1 rfl ?_
            refine kr_iload_n h dX1_detail_69 rfl 4 rfl ?_
            refine kr_if_ne h 85 dX1_detail_70 (by decide) (fun c70 => ?_) (fun c70 => ?_)
            · refine kr_aload_n h dX1_detail_85 rfl 1 rfl ?_
              refine kr_get h FX1ok 0 22 dX1_detail_86 flX1_79 rfl rfl (by decide) rfl rfl ?_
              refine kr_aload_n h dX1_detail_89 rfl 1 rfl ?_
              refine kr_get h FX1ok 0 1 dX1_detail_90 flX1_13 rfl rfl (by decide) rfl rfl ?_
              refine kr_top h (fun v90 e90 => ?_)
              have h90 : v90 = x.2 1 := e90.trans (yKe_all 0 x s v 0).2.1
              refine kr_iald h 14 0 dX1_detail_93 rfl rfl (by rw [h90]; exact xG_in (hW.1 (by rw [← e28]; exact c31)).1) (fun v93 e93 => ?_)
              refine kr_iA h (kc_rV h (m_fine l D cI cZ cJ q (yAll x s v 0) v93) mlX1_105 yvX1_fine dX1_detail_94 rfl rfl ⟨Nat.le_of_ble_eq_true rfl, Nat.le_of_ble_eq_true rfl⟩ ⟨Nat.le_of_ble_eq_true rfl, Nat.le_of_ble_eq_true rfl⟩ (Nat.le_of_ble_eq_true rfl) [0, 1, 2, 3, 4, 5, 6, 7, 8, 9, 10, 11, 12, 13, 14, 15, 16, 17, 18, 19] rfl rfl 0 rfl rfl rfl) (fun v94 e94 => ?_)
              exact kr_iret h hr hlk dX1_detail_97 (by rw [yDetR, if_neg (fun z => by rcases z with z | z; exact xb_f e5 c8 z; exact xb_f e15 c18 z), e94, if_pos (by rw [← e28]; exact c31), ← e42]; (first | rw [show yWant w = 3 from if_pos c51] | rw [show yWant w = 2 from if_neg c51]); rw [if_pos c59]; first | (rw [if_pos c70, ← h78]; exact e81) | (rw [if_neg c70, ← h90]; exact e93)) (congrArg _ (by rw [yDetX, if_neg (fun z => by rcases z with z | z; exact xb_f e5 c8 z; exact xb_f e15 c18 z), if_pos (by rw [← e28]; exact c31), ← e42]; (first | rw [show yWant w = 3 from if_pos c51] | rw [show yWant w = 2 from if_neg c51]); rw [if_pos c59]))
            · refine kr_aload_n h dX1_detail_73 rfl 1 rfl ?_
              refine kr_get h FX1ok 0 21 dX1_detail_74 flX1_76 rfl rfl (by decide) rfl rfl ?_
              refine kr_aload_n h dX1_detail_77 rfl 1 rfl ?_
              refine kr_get h FX1ok 0 1 dX1_detail_78 flX1_13 rfl rfl (by decide) rfl rfl ?_
              refine kr_top h (fun v78 e78 => ?_)
              have h78 : v78 = x.2 1 := e78.trans (yKe_all 0 x s v 0).2.1
              refine kr_iald h 13 0 dX1_detail_81 rfl rfl (by rw [h78]; exact xG_in (hW.1 (by rw [← e28]; exact c31)).1) (fun v81 e81 => ?_)
              refine kr_goto h 94 dX1_detail_82 (by decide) ?_
              refine kr_iA h (kc_rV h (m_fine l D cI cZ cJ q (yAll x s v 0) v81) mlX1_105 yvX1_fine dX1_detail_94 rfl rfl ⟨Nat.le_of_ble_eq_true rfl, Nat.le_of_ble_eq_true rfl⟩ ⟨Nat.le_of_ble_eq_true rfl, Nat.le_of_ble_eq_true rfl⟩ (Nat.le_of_ble_eq_true rfl) [0, 1, 2, 3, 4, 5, 6, 7, 8, 9, 10, 11, 12, 13, 14, 15, 16, 17, 18, 19] rfl rfl 0 rfl rfl rfl) (fun v94 e94 => ?_)
              exact kr_iret h hr hlk dX1_detail_97 (by rw [yDetR, if_neg (fun z => by rcases z with z | z; exact xb_f e5 c8 z; exact xb_f e15 c18 z), e94, if_pos (by rw [← e28]; exact c31), ← e42]; (first | rw [show yWant w = 3 from if_pos c51] | rw [show yWant w = 2 from if_neg c51]); rw [if_pos c59]; first | (rw [if_pos c70, ← h78]; exact e81) | (rw [if_neg c70, ← h90]; exact e93)) (congrArg _ (by rw [yDetX, if_neg (fun z => by rcases z with z | z; exact xb_f e5 c8 z; exact xb_f e15 c18 z), if_pos (by rw [← e28]; exact c31), ← e42]; (first | rw [show yWant w = 3 from if_pos c51] | rw [show yWant w = 2 from if_neg c51]); rw [if_pos c59]))
          · refine kr_aload_n h dX1_detail_62 rfl 1 rfl ?_
            refine kr_iconst (v := 2) h dX1_detail_63 (by decide) ?_
            refine kr_iA h (kc_rV h (m_fail l D cI cZ cJ q (yAll x s v 0) 2) mlX1_101 yvX1_fail dX1_detail_64 rfl rfl ⟨Nat.le_of_ble_eq_true rfl, Nat.le_of_ble_eq_true rfl⟩ ⟨Nat.le_of_ble_eq_true rfl, Nat.le_of_ble_eq_true rfl⟩ (Nat.le_of_ble_eq_true rfl) [0, 1, 2, 3, 4, 5, 6, 7, 8, 9, 10, 11, 12, 13, 14, 15, 16, 17, 18, 19] rfl rfl 0 rfl rfl rfl) (fun v64 e64 => ?_)
            exact kr_iret h hr hlk dX1_detail_67 (by rw [yDetR, if_neg (fun z => by rcases z with z | z; exact xb_f e5 c8 z; exact xb_f e15 c18 z), e64]; first | rw [if_neg (by rw [← e28]; exact c31)] | (rw [if_pos (by rw [← e28]; exact c31), ← e42]; (first | rw [show yWant w = 3 from if_pos c51] | rw [show yWant w = 2 from if_neg c51]); rw [if_neg c59])) (congrArg _ (by rw [yDetX, if_neg (fun z => by rcases z with z | z; exact xb_f e5 c8 z; exact xb_f e15 c18 z)]; first | rw [if_neg (by rw [← e28]; exact c31)] | (rw [if_pos (by rw [← e28]; exact c31), ← e42]; (first | rw [show yWant w = 3 from if_pos c51] | rw [show yWant w = 2 from if_neg c51]); rw [if_neg c59])))
      · refine kr_iconst (v := 0) h dX1_detail_34 (by decide) ?_
        refine kr_goto h 45 dX1_detail_35 (by decide) ?_
        refine kr_istore (lv' := [(4, .int 0), (0, .ref (q 0)), (1, .int s), (2, .int v), (3, .int w)]) h dX1_detail_45 (by decide) rfl ?_
        refine kr_iload h dX1_detail_47 0 rfl ?_
        refine kr_iload_n h dX1_detail_49 rfl 4 rfl ?_
        refine kr_iconst (v := 2) h dX1_detail_50 (by decide) ?_
        refine kr_icmp_ne h 58 dX1_detail_51 (by decide) (fun c51 => ?_) (fun c51 => ?_)
        · refine kr_iconst (v := 2) h dX1_detail_58 (by decide) ?_
          refine kr_icmp_eq h 68 dX1_detail_59 (by decide) (fun c59 => ?_) (fun c59 => ?_)
          · exact absurd c59 (by decide)
          · refine kr_aload_n h dX1_detail_62 rfl 1 rfl ?_
            refine kr_iconst (v := 2) h dX1_detail_63 (by decide) ?_
            refine kr_iA h (kc_rV h (m_fail l D cI cZ cJ q x 2) mlX1_101 yvX1_fail dX1_detail_64 rfl rfl ⟨Nat.le_of_ble_eq_true rfl, Nat.le_of_ble_eq_true rfl⟩ ⟨Nat.le_of_ble_eq_true rfl, Nat.le_of_ble_eq_true rfl⟩ (Nat.le_of_ble_eq_true rfl) [0, 1, 2, 3, 4, 5, 6, 7, 8, 9, 10, 11, 12, 13, 14, 15, 16, 17, 18, 19] rfl rfl 0 rfl rfl rfl) (fun v64 e64 => ?_)
            exact kr_iret h hr hlk dX1_detail_67 (by rw [yDetR, if_neg (fun z => by rcases z with z | z; exact xb_f e5 c8 z; exact xb_f e15 c18 z), e64]; first | rw [if_neg (by rw [← e28]; exact c31)] | (rw [if_pos (by rw [← e28]; exact c31), ← e42]; (first | rw [show yWant w = 3 from if_pos c51] | rw [show yWant w = 2 from if_neg c51]); rw [if_neg c59])) (congrArg _ (by rw [yDetX, if_neg (fun z => by rcases z with z | z; exact xb_f e5 c8 z; exact xb_f e15 c18 z)]; first | rw [if_neg (by rw [← e28]; exact c31)] | (rw [if_pos (by rw [← e28]; exact c31), ← e42]; (first | rw [show yWant w = 3 from if_pos c51] | rw [show yWant w = 2 from if_neg c51]); rw [if_neg c59])))
        · refine kr_iconst (v := 3) h dX1_detail_54 (by decide) ?_
          refine kr_goto h 59 dX1_detail_55 (by decide) ?_
          refine kr_icmp_eq h 68 dX1_detail_59 (by decide) (fun c59 => ?_) (fun c59 => ?_)
          · exact absurd c59 (by decide)
          · refine kr_aload_n h dX1_detail_62 rfl 1 rfl ?_
            refine kr_iconst (v := 2) h dX1_detail_63 (by decide) ?_
            refine kr_iA h (kc_rV h (m_fail l D cI cZ cJ q x 2) mlX1_101 yvX1_fail dX1_detail_64 rfl rfl ⟨Nat.le_of_ble_eq_true rfl, Nat.le_of_ble_eq_true rfl⟩ ⟨Nat.le_of_ble_eq_true rfl, Nat.le_of_ble_eq_true rfl⟩ (Nat.le_of_ble_eq_true rfl) [0, 1, 2, 3, 4, 5, 6, 7, 8, 9, 10, 11, 12, 13, 14, 15, 16, 17, 18, 19] rfl rfl 0 rfl rfl rfl) (fun v64 e64 => ?_)
            exact kr_iret h hr hlk dX1_detail_67 (by rw [yDetR, if_neg (fun z => by rcases z with z | z; exact xb_f e5 c8 z; exact xb_f e15 c18 z), e64]; first | rw [if_neg (by rw [← e28]; exact c31)] | (rw [if_pos (by rw [← e28]; exact c31), ← e42]; (first | rw [show yWant w = 3 from if_pos c51] | rw [show yWant w = 2 from if_neg c51]); rw [if_neg c59])) (congrArg _ (by rw [yDetX, if_neg (fun z => by rcases z with z | z; exact xb_f e5 c8 z; exact xb_f e15 c18 z)]; first | rw [if_neg (by rw [← e28]; exact c31)] | (rw [if_pos (by rw [← e28]; exact c31), ← e42]; (first | rw [show yWant w = 3 from if_pos c51] | rw [show yWant w = 2 from if_neg c51]); rw [if_neg c59])))
    · refine kr_aload_n h dX1_detail_21 rfl 0 rfl ?_
      refine kr_iconst (v := 1) h dX1_detail_22 (by decide) ?_
      refine kr_iA h (kc_rV h (m_fail l D cI cZ cJ q x 1) mlX1_101 yvX1_fail dX1_detail_23 rfl rfl ⟨Nat.le_of_ble_eq_true rfl, Nat.le_of_ble_eq_true rfl⟩ ⟨Nat.le_of_ble_eq_true rfl, Nat.le_of_ble_eq_true rfl⟩ (Nat.le_of_ble_eq_true rfl) [0, 1, 2, 3, 4, 5, 6, 7, 8, 9, 10, 11, 12, 13, 14, 15, 16, 17, 18, 19] rfl rfl 0 rfl rfl rfl) (fun v23 e23 => ?_)
      exact kr_iret h hr hlk dX1_detail_26 (e23.trans (if_pos (by first | exact Or.inl (xb_t e5 c8) | exact Or.inr (xb_t e15 c18))).symm) (congrArg _ (if_pos (by first | exact Or.inl (xb_t e5 c8) | exact Or.inr (xb_t e15 c18))).symm)
