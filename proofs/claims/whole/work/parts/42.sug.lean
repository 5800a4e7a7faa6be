set_option maxHeartbeats 4000000 in
set_option maxRecDepth 100000 in
theorem c_suggestOfPair_step (l : Launch) (D : va_G) (cI cZ cJ : ClassId) (q : Nat → Nat) (d : Nat) (IH : ∀ (x : xSt) (p s v n : Int32), xG x d p → xSo s → kc_M l yX0_suggest cX0_suggest 7 (some .int) (2 * d + 2) (53 * d + 60) 0 0 [.ref (q 0), .int p, .int s, .int v, .int n] D vwCl (tyL cI cZ cJ) (wX cI cZ q x) (some (.int (xSug x d p s v))) (wX cI cZ q (xAsk x d p s v n))) (x : xSt) (p s v n : Int32) (hg : xG x (d + 1) p) (hs : xSo s) (hpr : pPair (x.1 0 (tn p))) : kc_M l yX0_suggestOfPair cX0_suggestOfPair 8 (some .int) (2 * d + 3) (53 * d + 86) 0 0 [.ref (q 0), .int p, .int s, .int v, .int n] D vwCl (tyL cI cZ cJ) (wX cI cZ q x) (some (.int (xSug x (d + 1) p s v))) (wX cI cZ q (xAsk x (d + 1) p s v n)) := by
  refine kc_start RX0 (by decide +kernel) rfl (Nat.le_of_ble_eq_true rfl) ?_
  intro zp ze zs zm zb zt zc h hr hlk hnm
  obtain ⟨hp, hk, hgA, hgB, hg6⟩ := id hg
  refine kr_aload_n h dX0_suggestOfPair_0 rfl 0 rfl ?_
  refine kr_aload_n h dX0_suggestOfPair_1 rfl 0 rfl ?_
  refine kr_get h FX0ok 0 1 dX0_suggestOfPair_2 flX0_13 rfl rfl (by decide) rfl rfl ?_
  refine kr_iload_n h dX0_suggestOfPair_5 rfl 1 rfl ?_
  refine kr_iald h 2 0 dX0_suggestOfPair_6 rfl rfl (hp) (fun v6 e6 => ?_)
  refine kr_iload_n h dX0_suggestOfPair_7 rfl 2 rfl ?_
  refine kr_iload_n h dX0_suggestOfPair_8 rfl 3 rfl ?_
  refine kr_iload h dX0_suggestOfPair_9 4 rfl ?_
  refine kr_iA h (kc_rV h (IH x v6 s v n (by rw [e6]; exact hgA (Or.inl hpr)) hs) mlX0_180 yvX0_suggest dX0_suggestOfPair_11 rfl rfl ⟨by dsimp only; omega, by dsimp only; omega⟩ ⟨Nat.le_of_ble_eq_true rfl, Nat.le_of_ble_eq_true rfl⟩ (Nat.le_of_ble_eq_true rfl) [0, 1, 2, 3, 4, 5, 6, 7, 8, 9, 10, 11] rfl rfl 0 rfl rfl rfl) (fun v11 e11 => ?_)
  refine kr_istore (lv' := [(5, .int v11), (0, .ref (q 0)), (1, .int p), (2, .int s), (3, .int v), (4, .int n)]) h dX0_suggestOfPair_14 (by decide) rfl ?_
  refine kr_aload_n h dX0_suggestOfPair_16 rfl 1 rfl ?_
  refine kr_get h FX0ok 0 0 dX0_suggestOfPair_17 flX0_9 rfl rfl (by decide) rfl rfl ?_
  refine kr_iload_n h dX0_suggestOfPair_20 rfl 2 rfl ?_
  refine kr_iald h 1 0 dX0_suggestOfPair_21 rfl rfl (hp) (fun v21 e21 => ?_)
  rw [xAsk_row _ _ _ _ _ _ _ (by decide)] at e21
  refine kr_bipush (v := 8) h dX0_suggestOfPair_22 (by decide) ?_
  refine kr_icmp_eq h 38 dX0_suggestOfPair_24 (by decide) (fun c24 => ?_) (fun c24 => ?_)
  · refine kr_iconst (v := 1) h dX0_suggestOfPair_38 (by decide) ?_
    refine kr_goto h 43 dX0_suggestOfPair_39 (by decide) ?_
    refine kr_istore (lv' := [(6, .int 1), (5, .int v11), (0, .ref (q 0)), (1, .int p), (2, .int s), (3, .int v), (4, .int n)]) h dX0_suggestOfPair_43 (by decide) rfl ?_
    refine kr_iload h dX0_suggestOfPair_45 0 rfl ?_
    refine kr_if_ne h 71 dX0_suggestOfPair_47 (by decide) (fun c47 => ?_) (fun c47 => ?_)
    · refine kr_aload_n h dX0_suggestOfPair_71 rfl 2 rfl ?_
      refine kr_aload_n h dX0_suggestOfPair_72 rfl 2 rfl ?_
      refine kr_get h FX0ok 0 2 dX0_suggestOfPair_73 flX0_16 rfl rfl (by decide) rfl rfl ?_
      refine kr_iload_n h dX0_suggestOfPair_76 rfl 3 rfl ?_
      refine kr_iald h 3 0 dX0_suggestOfPair_77 rfl rfl (hp) (fun v77 e77 => ?_)
      rw [xAsk_row _ _ _ _ _ _ _ (by decide)] at e77
      refine kr_iload_n h dX0_suggestOfPair_78 rfl 4 rfl ?_
      refine kr_iload_n h dX0_suggestOfPair_79 rfl 5 rfl ?_
      refine kr_iload h dX0_suggestOfPair_80 6 rfl ?_
      refine kr_iA h (kc_rV h (IH (xAsk x d v6 s v n) v77 s v n ((xG_eq (fun k hk => xAsk_row _ _ _ _ _ _ _ hk) _ _).mpr (by rw [e77]; exact hgB (Or.inl hpr))) hs) mlX0_180 yvX0_suggest dX0_suggestOfPair_82 rfl rfl ⟨by dsimp only; omega, by dsimp only; omega⟩ ⟨Nat.le_of_ble_eq_true rfl, Nat.le_of_ble_eq_true rfl⟩ (Nat.le_of_ble_eq_true rfl) [0, 1, 2, 3, 4, 5, 6, 7, 8, 9, 10, 11] rfl rfl 0 rfl rfl rfl) (fun v82 e82 => ?_)
      refine kr_istore (lv' := [(7, .int v82), (6, .int 1), (5, .int v11), (0, .ref (q 0)), (1, .int p), (2, .int s), (3, .int v), (4, .int n)]) h dX0_suggestOfPair_85 (by decide) rfl ?_
      refine kr_aload_n h dX0_suggestOfPair_87 rfl 3 rfl ?_
      refine kr_get h FX0ok 0 0 dX0_suggestOfPair_88 flX0_9 rfl rfl (by decide) rfl rfl ?_
      refine kr_iload_n h dX0_suggestOfPair_91 rfl 4 rfl ?_
      refine kr_iald h 1 0 dX0_suggestOfPair_92 rfl rfl (hp) (fun v92 e92 => ?_)
      rw [xAsk_row _ _ _ _ _ _ _ (by decide), xAsk_row _ _ _ _ _ _ _ (by decide)] at e92
      refine kr_iload h dX0_suggestOfPair_93 2 rfl ?_
      refine kr_i0 h (kc_rS h (c_kindOf l D cI cZ cJ v11) mlX0_137 ysX0_kindOf dX0_suggestOfPair_95 rfl rfl ⟨by dsimp only; omega, by dsimp only; omega⟩ ⟨Nat.le_of_ble_eq_true rfl, Nat.le_of_ble_eq_true rfl⟩ (Nat.le_of_ble_eq_true rfl) [] rfl rfl) (fun v95 e95 => ?_)
      refine kr_iload h dX0_suggestOfPair_98 0 rfl ?_
      refine kr_i0 h (kc_rS h (c_kindOf l D cI cZ cJ v82) mlX0_137 ysX0_kindOf dX0_suggestOfPair_100 rfl rfl ⟨by dsimp only; omega, by dsimp only; omega⟩ ⟨Nat.le_of_ble_eq_true rfl, Nat.le_of_ble_eq_true rfl⟩ (Nat.le_of_ble_eq_true rfl) [] rfl rfl) (fun v100 e100 => ?_)
      refine kr_i0 h (kc_rS h (c_takesFirst l D cI cZ cJ v92 v95 v100) mlX0_203 ysX0_takesFirst dX0_suggestOfPair_103 rfl rfl ⟨by dsimp only; omega, by dsimp only; omega⟩ ⟨Nat.le_of_ble_eq_true rfl, Nat.le_of_ble_eq_true rfl⟩ (Nat.le_of_ble_eq_true rfl) [] rfl rfl) (fun v103 e103 => ?_)
      refine kr_if_eq h 114 dX0_suggestOfPair_106 (by decide) (fun c106 => ?_) (fun c106 => ?_)
      · refine kr_iload h dX0_suggestOfPair_114 0 rfl ?_
        exact kr_iret h hr hlk dX0_suggestOfPair_116 (by rw [← (xPair_two (n := n) e21 e6 e77 e11 e82 hpr (by first | exact Or.inl c24 | exact Or.inr (Or.inl (by rw [e21, ← e32]; exact c35)) | exact Or.inr (Or.inr (by have z := xb_f e62 c65; rw [e55, e58] at z; rw [e21]; exact z)))).1]; first | exact (if_pos (by have z := xb_t e103 c106; rw [e92, e95, e100] at z; rw [e21]; exact z)).symm | exact (if_neg (by have z := xb_f e103 c106; rw [e92, e95, e100] at z; rw [e21]; exact z)).symm) (congrArg _ (xPair_two (n := n) e21 e6 e77 e11 e82 hpr (by first | exact Or.inl c24 | exact Or.inr (Or.inl (by rw [e21, ← e32]; exact c35)) | exact Or.inr (Or.inr (by have z := xb_f e62 c65; rw [e55, e58] at z; rw [e21]; exact z)))).2)
      · refine kr_iload h dX0_suggestOfPair_109 2 rfl ?_
        refine kr_goto h 116 dX0_suggestOfPair_111 (by decide) ?_
        exact kr_iret h hr hlk dX0_suggestOfPair_116 (by rw [← (xPair_two (n := n) e21 e6 e77 e11 e82 hpr (by first | exact Or.inl c24 | exact Or.inr (Or.inl (by rw [e21, ← e32]; exact c35)) | exact Or.inr (Or.inr (by have z := xb_f e62 c65; rw [e55, e58] at z; rw [e21]; exact z)))).1]; first | exact (if_pos (by have z := xb_t e103 c106; rw [e92, e95, e100] at z; rw [e21]; exact z)).symm | exact (if_neg (by have z := xb_f e103 c106; rw [e92, e95, e100] at z; rw [e21]; exact z)).symm) (congrArg _ (xPair_two (n := n) e21 e6 e77 e11 e82 hpr (by first | exact Or.inl c24 | exact Or.inr (Or.inl (by rw [e21, ← e32]; exact c35)) | exact Or.inr (Or.inr (by have z := xb_f e62 c65; rw [e55, e58] at z; rw [e21]; exact z)))).2)
    · exact absurd c47 (by decide)
  · refine kr_aload_n h dX0_suggestOfPair_27 rfl 1 rfl ?_
    refine kr_get h FX0ok 0 0 dX0_suggestOfPair_28 flX0_9 rfl rfl (by decide) rfl rfl ?_
    refine kr_iload_n h dX0_suggestOfPair_31 rfl 2 rfl ?_
    refine kr_iald h 1 0 dX0_suggestOfPair_32 rfl rfl (hp) (fun v32 e32 => ?_)
    rw [xAsk_row _ _ _ _ _ _ _ (by decide)] at e32
    refine kr_bipush (v := 9) h dX0_suggestOfPair_33 (by decide) ?_
    refine kr_icmp_ne h 42 dX0_suggestOfPair_35 (by decide) (fun c35 => ?_) (fun c35 => ?_)
    · refine kr_iconst (v := 0) h dX0_suggestOfPair_42 (by decide) ?_
      refine kr_istore (lv' := [(6, .int 0), (5, .int v11), (0, .ref (q 0)), (1, .int p), (2, .int s), (3, .int v), (4, .int n)]) h dX0_suggestOfPair_43 (by decide) rfl ?_
      refine kr_iload h dX0_suggestOfPair_45 0 rfl ?_
      refine kr_if_ne h 71 dX0_suggestOfPair_47 (by decide) (fun c47 => ?_) (fun c47 => ?_)
      · exact absurd c47 (by decide)
      · refine kr_aload_n h dX0_suggestOfPair_50 rfl 2 rfl ?_
        refine kr_get h FX0ok 0 0 dX0_suggestOfPair_51 flX0_9 rfl rfl (by decide) rfl rfl ?_
        refine kr_iload_n h dX0_suggestOfPair_54 rfl 3 rfl ?_
        refine kr_iald h 1 0 dX0_suggestOfPair_55 rfl rfl (hp) (fun v55 e55 => ?_)
        rw [xAsk_row _ _ _ _ _ _ _ (by decide)] at e55
        refine kr_iload h dX0_suggestOfPair_56 1 rfl ?_
        refine kr_i0 h (kc_rS h (c_kindOf l D cI cZ cJ v11) mlX0_137 ysX0_kindOf dX0_suggestOfPair_58 rfl rfl ⟨by dsimp only; omega, by dsimp only; omega⟩ ⟨Nat.le_of_ble_eq_true rfl, Nat.le_of_ble_eq_true rfl⟩ (Nat.le_of_ble_eq_true rfl) [] rfl rfl) (fun v58 e58 => ?_)
        refine kr_iconst (v := 0) h dX0_suggestOfPair_61 (by decide) ?_
        refine kr_i0 h (kc_rS h (c_takesFirst l D cI cZ cJ v55 v58 0) mlX0_203 ysX0_takesFirst dX0_suggestOfPair_62 rfl rfl ⟨by dsimp only; omega, by dsimp only; omega⟩ ⟨Nat.le_of_ble_eq_true rfl, Nat.le_of_ble_eq_true rfl⟩ (Nat.le_of_ble_eq_true rfl) [] rfl rfl) (fun v62 e62 => ?_)
        refine kr_if_eq h 71 dX0_suggestOfPair_65 (by decide) (fun c65 => ?_) (fun c65 => ?_)
        · refine kr_aload_n h dX0_suggestOfPair_71 rfl 2 rfl ?_
          refine kr_aload_n h dX0_suggestOfPair_72 rfl 2 rfl ?_
          refine kr_get h FX0ok 0 2 dX0_suggestOfPair_73 flX0_16 rfl rfl (by decide) rfl rfl ?_
          refine kr_iload_n h dX0_suggestOfPair_76 rfl 3 rfl ?_
          refine kr_iald h 3 0 dX0_suggestOfPair_77 rfl rfl (hp) (fun v77 e77 => ?_)
          rw [xAsk_row _ _ _ _ _ _ _ (by decide)] at e77
          refine kr_iload_n h dX0_suggestOfPair_78 rfl 4 rfl ?_
          refine kr_iload_n h dX0_suggestOfPair_79 rfl 5 rfl ?_
          refine kr_iload h dX0_suggestOfPair_80 6 rfl ?_
          refine kr_iA h (kc_rV h (IH (xAsk x d v6 s v n) v77 s v n ((xG_eq (fun k hk => xAsk_row _ _ _ _ _ _ _ hk) _ _).mpr (by rw [e77]; exact hgB (Or.inl hpr))) hs) mlX0_180 yvX0_suggest dX0_suggestOfPair_82 rfl rfl ⟨by dsimp only; omega, by dsimp only; omega⟩ ⟨Nat.le_of_ble_eq_true rfl, Nat.le_of_ble_eq_true rfl⟩ (Nat.le_of_ble_eq_true rfl) [0, 1, 2, 3, 4, 5, 6, 7, 8, 9, 10, 11] rfl rfl 0 rfl rfl rfl) (fun v82 e82 => ?_)
          refine kr_istore (lv' := [(7, .int v82), (6, .int 0), (5, .int v11), (0, .ref (q 0)), (1, .int p), (2, .int s), (3, .int v), (4, .int n)]) h dX0_suggestOfPair_85 (by decide) rfl ?_
          refine kr_aload_n h dX0_suggestOfPair_87 rfl 3 rfl ?_
          refine kr_get h FX0ok 0 0 dX0_suggestOfPair_88 flX0_9 rfl rfl (by decide) rfl rfl ?_
          refine kr_iload_n h dX0_suggestOfPair_91 rfl 4 rfl ?_
          refine kr_iald h 1 0 dX0_suggestOfPair_92 rfl rfl (hp) (fun v92 e92 => ?_)
          rw [xAsk_row _ _ _ _ _ _ _ (by decide), xAsk_row _ _ _ _ _ _ _ (by decide)] at e92
          refine kr_iload h dX0_suggestOfPair_93 2 rfl ?_
          refine kr_i0 h (kc_rS h (c_kindOf l D cI cZ cJ v11) mlX0_137 ysX0_kindOf dX0_suggestOfPair_95 rfl rfl ⟨by dsimp only; omega, by dsimp only; omega⟩ ⟨Nat.le_of_ble_eq_true rfl, Nat.le_of_ble_eq_true rfl⟩ (Nat.le_of_ble_eq_true rfl) [] rfl rfl) (fun v95 e95 => ?_)
          refine kr_iload h dX0_suggestOfPair_98 0 rfl ?_
          refine kr_i0 h (kc_rS h (c_kindOf l D cI cZ cJ v82) mlX0_137 ysX0_kindOf dX0_suggestOfPair_100 rfl rfl ⟨by dsimp only; omega, by dsimp only; omega⟩ ⟨Nat.le_of_ble_eq_true rfl, Nat.le_of_ble_eq_true rfl⟩ (Nat.le_of_ble_eq_true rfl) [] rfl rfl) (fun v100 e100 => ?_)
          refine kr_i0 h (kc_rS h (c_takesFirst l D cI cZ cJ v92 v95 v100) mlX0_203 ysX0_takesFirst dX0_suggestOfPair_103 rfl rfl ⟨by dsimp only; omega, by dsimp only; omega⟩ ⟨Nat.le_of_ble_eq_true rfl, Nat.le_of_ble_eq_true rfl⟩ (Nat.le_of_ble_eq_true rfl) [] rfl rfl) (fun v103 e103 => ?_)
          refine kr_if_eq h 114 dX0_suggestOfPair_106 (by decide) (fun c106 => ?_) (fun c106 => ?_)
          · refine kr_iload h dX0_suggestOfPair_114 0 rfl ?_
            exact kr_iret h hr hlk dX0_suggestOfPair_116 (by rw [← (xPair_two (n := n) e21 e6 e77 e11 e82 hpr (by first | exact Or.inl c24 | exact Or.inr (Or.inl (by rw [e21, ← e32]; exact c35)) | exact Or.inr (Or.inr (by have z := xb_f e62 c65; rw [e55, e58] at z; rw [e21]; exact z)))).1]; first | exact (if_pos (by have z := xb_t e103 c106; rw [e92, e95, e100] at z; rw [e21]; exact z)).symm | exact (if_neg (by have z := xb_f e103 c106; rw [e92, e95, e100] at z; rw [e21]; exact z)).symm) (congrArg _ (xPair_two (n := n) e21 e6 e77 e11 e82 hpr (by first | exact Or.inl c24 | exact Or.inr (Or.inl (by rw [e21, ← e32]; exact c35)) | exact Or.inr (Or.inr (by have z := xb_f e62 c65; rw [e55, e58] at z; rw [e21]; exact z)))).2)
          · refine kr_iload h dX0_suggestOfPair_109 2 rfl ?_
            refine kr_goto h 116 dX0_suggestOfPair_111 (by decide) ?_
            exact kr_iret h hr hlk dX0_suggestOfPair_116 (by rw [← (xPair_two (n := n) e21 e6 e77 e11 e82 hpr (by first | exact Or.inl c24 | exact Or.inr (Or.inl (by rw [e21, ← e32]; exact c35)) | exact Or.inr (Or.inr (by have z := xb_f e62 c65; rw [e55, e58] at z; rw [e21]; exact z)))).1]; first | exact (if_pos (by have z := xb_t e103 c106; rw [e92, e95, e100] at z; rw [e21]; exact z)).symm | exact (if_neg (by have z := xb_f e103 c106; rw [e92, e95, e100] at z; rw [e21]; exact z)).symm) (congrArg _ (xPair_two (n := n) e21 e6 e77 e11 e82 hpr (by first | exact Or.inl c24 | exact Or.inr (Or.inl (by rw [e21, ← e32]; exact c35)) | exact Or.inr (Or.inr (by have z := xb_f e62 c65; rw [e55, e58] at z; rw [e21]; exact z)))).2)
        · refine kr_iload h dX0_suggestOfPair_68 1 rfl ?_
          exact kr_iret h hr hlk dX0_suggestOfPair_70 ((xPair_skip (n := n) e21 e6 e11 hpr c24 (by rw [e21, ← e32]; exact c35) (by have z := xb_t e62 c65; rw [e55, e58] at z; rw [e21]; exact z)).1) (congrArg _ (xPair_skip (n := n) e21 e6 e11 hpr c24 (by rw [e21, ← e32]; exact c35) (by have z := xb_t e62 c65; rw [e55, e58] at z; rw [e21]; exact z)).2)
    · refine kr_iconst (v := 1) h dX0_suggestOfPair_38 (by decide) ?_
      refine kr_goto h 43 dX0_suggestOfPair_39 (by decide) ?_
      refine kr_istore (lv' := [(6, .int 1), (5, .int v11), (0, .ref (q 0)), (1, .int p), (2, .int s), (3, .int v), (4, .int n)]) h dX0_suggestOfPair_43 (by decide) rfl ?_
      refine kr_iload h dX0_suggestOfPair_45 0 rfl ?_
      refine kr_if_ne h 71 dX0_suggestOfPair_47 (by decide) (fun c47 => ?_) (fun c47 => ?_)
      · refine kr_aload_n h dX0_suggestOfPair_71 rfl 2 rfl ?_
        refine kr_aload_n h dX0_suggestOfPair_72 rfl 2 rfl ?_
        refine kr_get h FX0ok 0 2 dX0_suggestOfPair_73 flX0_16 rfl rfl (by decide) rfl rfl ?_
        refine kr_iload_n h dX0_suggestOfPair_76 rfl 3 rfl ?_
        refine kr_iald h 3 0 dX0_suggestOfPair_77 rfl rfl (hp) (fun v77 e77 => ?_)
        rw [xAsk_row _ _ _ _ _ _ _ (by decide)] at e77
        refine kr_iload_n h dX0_suggestOfPair_78 rfl 4 rfl ?_
        refine kr_iload_n h dX0_suggestOfPair_79 rfl 5 rfl ?_
        refine kr_iload h dX0_suggestOfPair_80 6 rfl ?_
        refine kr_iA h (kc_rV h (IH (xAsk x d v6 s v n) v77 s v n ((xG_eq (fun k hk => xAsk_row _ _ _ _ _ _ _ hk) _ _).mpr (by rw [e77]; exact hgB (Or.inl hpr))) hs) mlX0_180 yvX0_suggest dX0_suggestOfPair_82 rfl rfl ⟨by dsimp only; omega, by dsimp only; omega⟩ ⟨Nat.le_of_ble_eq_true rfl, Nat.le_of_ble_eq_true rfl⟩ (Nat.le_of_ble_eq_true rfl) [0, 1, 2, 3, 4, 5, 6, 7, 8, 9, 10, 11] rfl rfl 0 rfl rfl rfl) (fun v82 e82 => ?_)
        refine kr_istore (lv' := [(7, .int v82), (6, .int 1), (5, .int v11), (0, .ref (q 0)), (1, .int p), (2, .int s), (3, .int v), (4, .int n)]) h dX0_suggestOfPair_85 (by decide) rfl ?_
        refine kr_aload_n h dX0_suggestOfPair_87 rfl 3 rfl ?_
        refine kr_get h FX0ok 0 0 dX0_suggestOfPair_88 flX0_9 rfl rfl (by decide) rfl rfl ?_
        refine kr_iload_n h dX0_suggestOfPair_91 rfl 4 rfl ?_
        refine kr_iald h 1 0 dX0_suggestOfPair_92 rfl rfl (hp) (fun v92 e92 => ?_)
        rw [xAsk_row _ _ _ _ _ _ _ (by decide), xAsk_row _ _ _ _ _ _ _ (by decide)] at e92
        refine kr_iload h dX0_suggestOfPair_93 2 rfl ?_
        refine kr_i0 h (kc_rS h (c_kindOf l D cI cZ cJ v11) mlX0_137 ysX0_kindOf dX0_suggestOfPair_95 rfl rfl ⟨by dsimp only; omega, by dsimp only; omega⟩ ⟨Nat.le_of_ble_eq_true rfl, Nat.le_of_ble_eq_true rfl⟩ (Nat.le_of_ble_eq_true rfl) [] rfl rfl) (fun v95 e95 => ?_)
        refine kr_iload h dX0_suggestOfPair_98 0 rfl ?_
        refine kr_i0 h (kc_rS h (c_kindOf l D cI cZ cJ v82) mlX0_137 ysX0_kindOf dX0_suggestOfPair_100 rfl rfl ⟨by dsimp only; omega, by dsimp only; omega⟩ ⟨Nat.le_of_ble_eq_true rfl, Nat.le_of_ble_eq_true rfl⟩ (Nat.le_of_ble_eq_true rfl) [] rfl rfl) (fun v100 e100 => ?_)
        refine kr_i0 h (kc_rS h (c_takesFirst l D cI cZ cJ v92 v95 v100) mlX0_203 ysX0_takesFirst dX0_suggestOfPair_103 rfl rfl ⟨by dsimp only; omega, by dsimp only; omega⟩ ⟨Nat.le_of_ble_eq_true rfl, Nat.le_of_ble_eq_true rfl⟩ (Nat.le_of_ble_eq_true rfl) [] rfl rfl) (fun v103 e103 => ?_)
        refine kr_if_eq h 114 dX0_suggestOfPair_106 (by decide) (fun c106 => ?_) (fun c106 => ?_)
        · refine kr_iload h dX0_suggestOfPair_114 0 rfl ?_
          exact kr_iret h hr hlk dX0_suggestOfPair_116 (by rw [← (xPair_two (n := n) e21 e6 e77 e11 e82 hpr (by first | exact Or.inl c24 | exact Or.inr (Or.inl (by rw [e21, ← e32]; exact c35)) | exact Or.inr (Or.inr (by have z := xb_f e62 c65; rw [e55, e58] at z; rw [e21]; exact z)))).1]; first | exact (if_pos (by have z := xb_t e103 c106; rw [e92, e95, e100] at z; rw [e21]; exact z)).symm | exact (if_neg (by have z := xb_f e103 c106; rw [e92, e95, e100] at z; rw [e21]; exact z)).symm) (congrArg _ (xPair_two (n := n) e21 e6 e77 e11 e82 hpr (by first | exact Or.inl c24 | exact Or.inr (Or.inl (by rw [e21, ← e32]; exact c35)) | exact Or.inr (Or.inr (by have z := xb_f e62 c65; rw [e55, e58] at z; rw [e21]; exact z)))).2)
        · refine kr_iload h dX0_suggestOfPair_109 2 rfl ?_
          refine kr_goto h 116 dX0_suggestOfPair_111 (by decide) ?_
          exact kr_iret h hr hlk dX0_suggestOfPair_116 (by rw [← (xPair_two (n := n) e21 e6 e77 e11 e82 hpr (by first | exact Or.inl c24 | exact Or.inr (Or.inl (by rw [e21, ← e32]; exact c35)) | exact Or.inr (Or.inr (by have z := xb_f e62 c65; rw [e55, e58] at z; rw [e21]; exact z)))).1]; first | exact (if_pos (by have z := xb_t e103 c106; rw [e92, e95, e100] at z; rw [e21]; exact z)).symm | exact (if_neg (by have z := xb_f e103 c106; rw [e92, e95, e100] at z; rw [e21]; exact z)).symm) (congrArg _ (xPair_two (n := n) e21 e6 e77 e11 e82 hpr (by first | exact Or.inl c24 | exact Or.inr (Or.inl (by rw [e21, ← e32]; exact c35)) | exact Or.inr (Or.inr (by have z := xb_f e62 c65; rw [e55, e58] at z; rw [e21]; exact z)))).2)
      · exact absurd c47 (by decide)
set_option maxHeartbeats 4000000 in
set_option maxRecDepth 100000 in
theorem c_suggest_step (l : Launch) (D : va_G) (cI cZ cJ : ClassId) (q : Nat → Nat) (d : Nat) (IH : ∀ (x : xSt) (p s v n : Int32), xG x d p → xSo s → kc_M l yX0_suggest cX0_suggest 7 (some .int) (2 * d + 2) (53 * d + 60) 0 0 [.ref (q 0), .int p, .int s, .int v, .int n] D vwCl (tyL cI cZ cJ) (wX cI cZ q x) (some (.int (xSug x d p s v))) (wX cI cZ q (xAsk x d p s v n))) (x : xSt) (p s v n : Int32) (hg : xG x (d + 1) p) (hs : xSo s) : kc_M l yX0_suggest cX0_suggest 7 (some .int) (2 * d + 4) (53 * d + 113) 0 0 [.ref (q 0), .int p, .int s, .int v, .int n] D vwCl (tyL cI cZ cJ) (wX cI cZ q x) (some (.int (xSug x (d + 1) p s v))) (wX cI cZ q (xAsk x (d + 1) p s v n)) := by
  refine kc_start RX0 (by decide +kernel) rfl (Nat.le_of_ble_eq_true rfl) ?_
  intro zp ze zs zm zb zt zc h hr hlk hnm
  obtain ⟨hp, hk, hgA, hgB, hg6⟩ := id hg
  refine kr_aload_n h dX0_suggest_0 rfl 0 rfl ?_
  refine kr_get h FX0ok 0 0 dX0_suggest_1 flX0_9 rfl rfl (by decide) rfl rfl ?_
  refine kr_iload_n h dX0_suggest_4 rfl 1 rfl ?_
  refine kr_iald h 1 0 dX0_suggest_5 rfl rfl (hp) (fun v5 e5 => ?_)
  obtain ⟨j6, hj6, ej6⟩ := (show ∃ j : Nat, j < 15 ∧ v5 = nI j by rw [e5]; exact hk)
  have hg6 : (j6 = 0 ∨ j6 = 1 ∨ j6 = 2 ∨ j6 = 3 ∨ j6 = 4 ∨ j6 = 5 ∨ j6 = 7) ∨ (j6 = 6) ∨ (j6 = 8 ∨ j6 = 9 ∨ j6 = 10 ∨ j6 = 11) ∨ (j6 = 12) ∨ (j6 = 13) ∨ (j6 = 14) := by omega
  rcases hg6 with hg6 | hg6 | hg6 | hg6 | hg6 | hg6
  · refine kr_tab h 196 dX0_suggest_6 (by rcases hg6 with hg6 | hg6 | hg6 | hg6 | hg6 | hg6 | hg6 <;> rw [ej6, hg6] <;> decide +kernel) ?_
    have q6 : v5 = 0 ∨ v5 = 1 ∨ v5 = 2 ∨ v5 = 3 ∨ v5 = 4 ∨ v5 = 5 ∨ v5 = 7 := by rcases hg6 with hg6 | hg6 | hg6 | hg6 | hg6 | hg6 | hg6 <;> rw [ej6, hg6] <;> decide +kernel
    clear hg6 ej6 hj6
    refine kr_aload_n h dX0_suggest_196 rfl 0 rfl ?_
    refine kr_get h FX0ok 0 1 dX0_suggest_197 flX0_13 rfl rfl (by decide) rfl rfl ?_
    refine kr_iload_n h dX0_suggest_200 rfl 1 rfl ?_
    refine kr_iald h 2 0 dX0_suggest_201 rfl rfl (hp) (fun v201 e201 => ?_)
    refine kr_iload_n h dX0_suggest_202 rfl 2 rfl ?_
    refine kr_i0 h (kc_rS h (c_inSet l D cI cZ cJ v201 s) mlX0_187 ysX0_inSet dX0_suggest_203 rfl rfl ⟨by dsimp only; omega, by dsimp only; omega⟩ ⟨Nat.le_of_ble_eq_true rfl, Nat.le_of_ble_eq_true rfl⟩ (Nat.le_of_ble_eq_true rfl) [] rfl rfl) (fun v203 e203 => ?_)
    refine kr_if_eq h 218 dX0_suggest_206 (by decide) (fun c206 => ?_) (fun c206 => ?_)
    · refine kr_iconst (v := 0) h dX0_suggest_218 (by decide) ?_
      exact kr_iret h hr hlk dX0_suggest_219 (by rw [xSug_0 (by rw [← e5]; exact q6), ← e201]; first | exact (if_neg (xb_f e203 c206)).symm | (rw [if_pos (xb_t e203 c206)]; exact e212)) (by rw [xAsk_0 (by rw [← e5]; exact q6)])
    · refine kr_aload_n h dX0_suggest_209 rfl 0 rfl ?_
      refine kr_iload_n h dX0_suggest_210 rfl 1 rfl ?_
      refine kr_iload_n h dX0_suggest_211 rfl 3 rfl ?_
      refine kr_iA h (kc_rV h (c_suggestInSet l D cI cZ cJ q x p v (hp)) mlX0_200 yvX0_suggestInSet dX0_suggest_212 rfl rfl ⟨by dsimp only; omega, by dsimp only; omega⟩ ⟨Nat.le_of_ble_eq_true rfl, Nat.le_of_ble_eq_true rfl⟩ (Nat.le_of_ble_eq_true rfl) [0, 1, 2, 3, 4, 5, 6, 7, 8, 9, 10, 11] rfl rfl 0 rfl rfl rfl) (fun v212 e212 => ?_)
      refine kr_goto h 219 dX0_suggest_215 (by decide) ?_
      exact kr_iret h hr hlk dX0_suggest_219 (by rw [xSug_0 (by rw [← e5]; exact q6), ← e201]; first | exact (if_neg (xb_f e203 c206)).symm | (rw [if_pos (xb_t e203 c206)]; exact e212)) (by rw [xAsk_0 (by rw [← e5]; exact q6)])
  · refine kr_tab h 186 dX0_suggest_6 (by rw [ej6, hg6]; decide +kernel) ?_
    have q6 : v5 = 6 := by rw [ej6, hg6]; decide +kernel
    clear hg6 ej6 hj6
    refine kr_aload_n h dX0_suggest_186 rfl 0 rfl ?_
    refine kr_iload_n h dX0_suggest_187 rfl 1 rfl ?_
    refine kr_iload_n h dX0_suggest_188 rfl 2 rfl ?_
    refine kr_iA h (kc_rV h (c_nextEntry l D cI cZ cJ q x p s (hp) (xG_place (hg6 (by rw [← e5]; exact q6)) hs)) mlX0_194 yvX0_nextEntry dX0_suggest_189 rfl rfl ⟨by dsimp only; omega, by dsimp only; omega⟩ ⟨Nat.le_of_ble_eq_true rfl, Nat.le_of_ble_eq_true rfl⟩ (Nat.le_of_ble_eq_true rfl) [0, 1, 2, 3, 4, 5, 6, 7, 8, 9, 10, 11] rfl rfl 0 rfl rfl rfl) (fun v189 e189 => ?_)
    refine kr_i0 h (kc_rS h (c_suggestOfEntry l D cI cZ cJ v189) mlX0_197 ysX0_suggestOfEntry dX0_suggest_192 rfl rfl ⟨by dsimp only; omega, by dsimp only; omega⟩ ⟨Nat.le_of_ble_eq_true rfl, Nat.le_of_ble_eq_true rfl⟩ (Nat.le_of_ble_eq_true rfl) [] rfl rfl) (fun v192 e192 => ?_)
    exact kr_iret h hr hlk dX0_suggest_195 (by rw [e192, e189]; exact (xSug_6 (e5.symm.trans q6)).symm) (by rw [xAsk_6 (e5.symm.trans q6)])
  · refine kr_tab h 56 dX0_suggest_6 (by rcases hg6 with hg6 | hg6 | hg6 | hg6 <;> rw [ej6, hg6] <;> decide +kernel) ?_
    have q6 : v5 = 8 ∨ v5 = 9 ∨ v5 = 10 ∨ v5 = 11 := by rcases hg6 with hg6 | hg6 | hg6 | hg6 <;> rw [ej6, hg6] <;> decide +kernel
    clear hg6 ej6 hj6
    refine kr_aload_n h dX0_suggest_56 rfl 0 rfl ?_
    refine kr_iload_n h dX0_suggest_57 rfl 1 rfl ?_
    refine kr_iload_n h dX0_suggest_58 rfl 2 rfl ?_
    refine kr_iload_n h dX0_suggest_59 rfl 3 rfl ?_
    refine kr_iload h dX0_suggest_60 4 rfl ?_
    refine kr_iA h (kc_rV h (c_suggestOfPair_step l D cI cZ cJ q d IH x p s v n hg hs (by rw [← e5]; exact q6)) mlX0_184 yvX0_suggestOfPair dX0_suggest_62 rfl rfl ⟨by dsimp only; omega, by dsimp only; omega⟩ ⟨Nat.le_of_ble_eq_true rfl, Nat.le_of_ble_eq_true rfl⟩ (Nat.le_of_ble_eq_true rfl) [0, 1, 2, 3, 4, 5, 6, 7, 8, 9, 10, 11] rfl rfl 0 rfl rfl rfl) (fun v62 e62 => ?_)
    exact kr_iret h hr hlk dX0_suggest_65 (e62) (rfl)
  · refine kr_tab h 66 dX0_suggest_6 (by rw [ej6, hg6]; decide +kernel) ?_
    have q6 : v5 = 12 := by rw [ej6, hg6]; decide +kernel
    clear hg6 ej6 hj6
    refine kr_aload_n h dX0_suggest_66 rfl 0 rfl ?_
    refine kr_get h FX0ok 0 1 dX0_suggest_67 flX0_13 rfl rfl (by decide) rfl rfl ?_
    refine kr_iload_n h dX0_suggest_70 rfl 1 rfl ?_
    refine kr_iald h 2 0 dX0_suggest_71 rfl rfl (hp) (fun v71 e71 => ?_)
    refine kr_iload_n h dX0_suggest_72 rfl 2 rfl ?_
    refine kr_i0 h (kc_rS h (c_inSet l D cI cZ cJ v71 s) mlX0_187 ysX0_inSet dX0_suggest_73 rfl rfl ⟨by dsimp only; omega, by dsimp only; omega⟩ ⟨Nat.le_of_ble_eq_true rfl, Nat.le_of_ble_eq_true rfl⟩ (Nat.le_of_ble_eq_true rfl) [] rfl rfl) (fun v73 e73 => ?_)
    refine kr_if_eq h 96 dX0_suggest_76 (by decide) (fun c76 => ?_) (fun c76 => ?_)
    · refine kr_iconst (v := 0) h dX0_suggest_96 (by decide) ?_
      exact kr_iret h hr hlk dX0_suggest_97 (by rw [xSug_12 (e5.symm.trans q6), ← e71]; first | exact (if_neg (xb_f e73 c76)).symm | (rw [if_pos (xb_t e73 c76), ← e85]; exact e90)) (by rw [xAsk_12 (e5.symm.trans q6), ← e71]; first | rw [if_neg (xb_f e73 c76)] | rw [if_pos (xb_t e73 c76), ← e85])
    · refine kr_aload_n h dX0_suggest_79 rfl 0 rfl ?_
      refine kr_aload_n h dX0_suggest_80 rfl 0 rfl ?_
      refine kr_get h FX0ok 0 2 dX0_suggest_81 flX0_16 rfl rfl (by decide) rfl rfl ?_
      refine kr_iload_n h dX0_suggest_84 rfl 1 rfl ?_
      refine kr_iald h 3 0 dX0_suggest_85 rfl rfl (hp) (fun v85 e85 => ?_)
      refine kr_iload_n h dX0_suggest_86 rfl 2 rfl ?_
      refine kr_iload_n h dX0_suggest_87 rfl 3 rfl ?_
      refine kr_iload h dX0_suggest_88 4 rfl ?_
      refine kr_iA h (kc_rV h (IH x v85 s v n (by rw [e85]; exact hgB (Or.inr (by rw [← e5]; exact q6))) hs) mlX0_180 yvX0_suggest dX0_suggest_90 rfl rfl ⟨by dsimp only; omega, by dsimp only; omega⟩ ⟨Nat.le_of_ble_eq_true rfl, Nat.le_of_ble_eq_true rfl⟩ (Nat.le_of_ble_eq_true rfl) [0, 1, 2, 3, 4, 5, 6, 7, 8, 9, 10, 11] rfl rfl 0 rfl rfl rfl) (fun v90 e90 => ?_)
      refine kr_goto h 97 dX0_suggest_93 (by decide) ?_
      exact kr_iret h hr hlk dX0_suggest_97 (by rw [xSug_12 (e5.symm.trans q6), ← e71]; first | exact (if_neg (xb_f e73 c76)).symm | (rw [if_pos (xb_t e73 c76), ← e85]; exact e90)) (by rw [xAsk_12 (e5.symm.trans q6), ← e71]; first | rw [if_neg (xb_f e73 c76)] | rw [if_pos (xb_t e73 c76), ← e85])
  · refine kr_tab h 98 dX0_suggest_6 (by rw [ej6, hg6]; decide +kernel) ?_
    have q6 : v5 = 13 := by rw [ej6, hg6]; decide +kernel
    clear hg6 ej6 hj6
    refine kr_aload_n h dX0_suggest_98 rfl 0 rfl ?_
    refine kr_aload_n h dX0_suggest_99 rfl 0 rfl ?_
    refine kr_get h FX0ok 0 1 dX0_suggest_100 flX0_13 rfl rfl (by decide) rfl rfl ?_
    refine kr_iload_n h dX0_suggest_103 rfl 1 rfl ?_
    refine kr_iald h 2 0 dX0_suggest_104 rfl rfl (hp) (fun v104 e104 => ?_)
    refine kr_iload_n h dX0_suggest_105 rfl 2 rfl ?_
    refine kr_iload_n h dX0_suggest_106 rfl 3 rfl ?_
    refine kr_iload h dX0_suggest_107 4 rfl ?_
    refine kr_iA h (kc_rV h (IH x v104 s v n (by rw [e104]; exact hgA (Or.inr (Or.inl (by rw [← e5]; exact q6)))) hs) mlX0_180 yvX0_suggest dX0_suggest_109 rfl rfl ⟨by dsimp only; omega, by dsimp only; omega⟩ ⟨Nat.le_of_ble_eq_true rfl, Nat.le_of_ble_eq_true rfl⟩ (Nat.le_of_ble_eq_true rfl) [0, 1, 2, 3, 4, 5, 6, 7, 8, 9, 10, 11] rfl rfl 0 rfl rfl rfl) (fun v109 e109 => ?_)
    refine kr_istore (lv' := [(5, .int v109), (0, .ref (q 0)), (1, .int p), (2, .int s), (3, .int v), (4, .int n)]) h dX0_suggest_112 (by decide) rfl ?_
    refine kr_iload h dX0_suggest_114 5 rfl ?_
    refine kr_if_eq h 141 dX0_suggest_116 (by decide) (fun c116 => ?_) (fun c116 => ?_)
    · refine kr_iload h dX0_suggest_141 0 rfl ?_
      exact kr_iret h hr hlk dX0_suggest_143 (by rw [xSug_13 (e5.symm.trans q6), ← e104]; exact e109) (by rw [xAsk_13 (e5.symm.trans q6), ← e104, ← e109]; first | rw [if_pos (Or.inl c116)] | rw [if_pos (Or.inr (e121.symm.trans c124))] | rw [if_neg (fun z => z.elim c116 (fun z => c124 (e121.trans z))), e137, e135, e132])
    · refine kr_iload h dX0_suggest_119 0 rfl ?_
      refine kr_i0 h (kc_rS h (c_kindOf l D cI cZ cJ v109) mlX0_137 ysX0_kindOf dX0_suggest_121 rfl rfl ⟨by dsimp only; omega, by dsimp only; omega⟩ ⟨Nat.le_of_ble_eq_true rfl, Nat.le_of_ble_eq_true rfl⟩ (Nat.le_of_ble_eq_true rfl) [] rfl rfl) (fun v121 e121 => ?_)
      refine kr_if_eq h 141 dX0_suggest_124 (by decide) (fun c124 => ?_) (fun c124 => ?_)
      · refine kr_iload h dX0_suggest_141 0 rfl ?_
        exact kr_iret h hr hlk dX0_suggest_143 (by rw [xSug_13 (e5.symm.trans q6), ← e104]; exact e109) (by rw [xAsk_13 (e5.symm.trans q6), ← e104, ← e109]; first | rw [if_pos (Or.inl c116)] | rw [if_pos (Or.inr (e121.symm.trans c124))] | rw [if_neg (fun z => z.elim c116 (fun z => c124 (e121.trans z))), e137, e135, e132])
      · refine kr_aload_n h dX0_suggest_127 rfl 1 rfl ?_
        refine kr_bipush (v := 16) h dX0_suggest_128 (by decide) ?_
        refine kr_iload h dX0_suggest_130 0 rfl ?_
        refine kr_i0 h (kc_rS h (c_kindOf l D cI cZ cJ v109) mlX0_137 ysX0_kindOf dX0_suggest_132 rfl rfl ⟨by dsimp only; omega, by dsimp only; omega⟩ ⟨Nat.le_of_ble_eq_true rfl, Nat.le_of_ble_eq_true rfl⟩ (Nat.le_of_ble_eq_true rfl) [] rfl rfl) (fun v132 e132 => ?_)
        refine kr_imul h dX0_suggest_135 (fun v135 e135 => ?_)
        refine kr_iload_n h dX0_suggest_136 rfl 3 rfl ?_
        refine kr_iadd h dX0_suggest_137 (fun v137 e137 => ?_)
        refine kr_vA h (kc_rV h (c_addNote l D cI cZ cJ q (xAsk x d v104 s v n) v137) mlX0_190 yvX0_addNote dX0_suggest_138 rfl rfl ⟨by dsimp only; omega, by dsimp only; omega⟩ ⟨Nat.le_of_ble_eq_true rfl, Nat.le_of_ble_eq_true rfl⟩ (Nat.le_of_ble_eq_true rfl) [0, 1, 2, 3, 4, 5, 6, 7, 8, 9, 10, 11] rfl rfl 0 rfl rfl rfl) ?_
        refine kr_iload h dX0_suggest_141 0 rfl ?_
        exact kr_iret h hr hlk dX0_suggest_143 (by rw [xSug_13 (e5.symm.trans q6), ← e104]; exact e109) (by rw [xAsk_13 (e5.symm.trans q6), ← e104, ← e109]; first | rw [if_pos (Or.inl c116)] | rw [if_pos (Or.inr (e121.symm.trans c124))] | rw [if_neg (fun z => z.elim c116 (fun z => c124 (e121.trans z))), e137, e135, e132])
  · refine kr_tab h 144 dX0_suggest_6 (by rw [ej6, hg6]; decide +kernel) ?_
    have q6 : v5 = 14 := by rw [ej6, hg6]; decide +kernel
    clear hg6 ej6 hj6
    refine kr_aload_n h dX0_suggest_144 rfl 0 rfl ?_
    refine kr_aload_n h dX0_suggest_145 rfl 0 rfl ?_
    refine kr_get h FX0ok 0 1 dX0_suggest_146 flX0_13 rfl rfl (by decide) rfl rfl ?_
    refine kr_iload_n h dX0_suggest_149 rfl 1 rfl ?_
    refine kr_iald h 2 0 dX0_suggest_150 rfl rfl (hp) (fun v150 e150 => ?_)
    refine kr_iload_n h dX0_suggest_151 rfl 2 rfl ?_
    refine kr_iload_n h dX0_suggest_152 rfl 3 rfl ?_
    refine kr_iload h dX0_suggest_153 4 rfl ?_
    refine kr_iA h (kc_rV h (IH x v150 s v n (by rw [e150]; exact hgA (Or.inr (Or.inr (by rw [← e5]; exact q6)))) hs) mlX0_180 yvX0_suggest dX0_suggest_155 rfl rfl ⟨by dsimp only; omega, by dsimp only; omega⟩ ⟨Nat.le_of_ble_eq_true rfl, Nat.le_of_ble_eq_true rfl⟩ (Nat.le_of_ble_eq_true rfl) [0, 1, 2, 3, 4, 5, 6, 7, 8, 9, 10, 11] rfl rfl 0 rfl rfl rfl) (fun v155 e155 => ?_)
    refine kr_istore (lv' := [(6, .int v155), (0, .ref (q 0)), (1, .int p), (2, .int s), (3, .int v), (4, .int n)]) h dX0_suggest_158 (by decide) rfl ?_
    refine kr_iload h dX0_suggest_160 0 rfl ?_
    refine kr_i0 h (kc_rS h (c_kindOf l D cI cZ cJ v155) mlX0_137 ysX0_kindOf dX0_suggest_162 rfl rfl ⟨by dsimp only; omega, by dsimp only; omega⟩ ⟨Nat.le_of_ble_eq_true rfl, Nat.le_of_ble_eq_true rfl⟩ (Nat.le_of_ble_eq_true rfl) [] rfl rfl) (fun v162 e162 => ?_)
    refine kr_aload_n h dX0_suggest_165 rfl 1 rfl ?_
    refine kr_get h FX0ok 0 2 dX0_suggest_166 flX0_16 rfl rfl (by decide) rfl rfl ?_
    refine kr_iload_n h dX0_suggest_169 rfl 2 rfl ?_
    refine kr_iald h 3 0 dX0_suggest_170 rfl rfl (hp) (fun v170 e170 => ?_)
    rw [xAsk_row _ _ _ _ _ _ _ (by decide)] at e170
    refine kr_icmp_ne h 183 dX0_suggest_171 (by decide) (fun c171 => ?_) (fun c171 => ?_)
    · refine kr_iload h dX0_suggest_183 0 rfl ?_
      exact kr_iret h hr hlk dX0_suggest_185 (by rw [xSug_14 (e5.symm.trans q6), ← e150, ← e155, ← e162, ← e170]; first | (rw [if_pos c171]; exact e179) | rw [if_neg c171]) (by rw [xAsk_14 (e5.symm.trans q6), ← e150])
    · refine kr_aload_n h dX0_suggest_174 rfl 1 rfl ?_
      refine kr_get h FX0ok 0 3 dX0_suggest_175 flX0_19 rfl rfl (by decide) rfl rfl ?_
      refine kr_iload_n h dX0_suggest_178 rfl 2 rfl ?_
      refine kr_iald h 4 0 dX0_suggest_179 rfl rfl (hp) (fun v179 e179 => ?_)
      rw [xAsk_row _ _ _ _ _ _ _ (by decide)] at e179
      refine kr_goto h 185 dX0_suggest_180 (by decide) ?_
      exact kr_iret h hr hlk dX0_suggest_185 (by rw [xSug_14 (e5.symm.trans q6), ← e150, ← e155, ← e162, ← e170]; first | (rw [if_pos c171]; exact e179) | rw [if_neg c171]) (by rw [xAsk_14 (e5.symm.trans q6), ← e150])
