set_option maxHeartbeats 4000000 in
set_option maxRecDepth 100000 in
theorem c_suggestNow (l : Launch) (D : va_G) (cI cZ cJ : ClassId) (q : Nat → Nat) (x : xSt) (s v : Int32) (hi : xInst x) (hs : xSo s) : kc_M l yX0_suggestNow cX0_suggestNow 3 (some .int) 17 457 0 0 [.ref (q 0), .int s, .int v] D vwCl (tyL cI cZ cJ) (wX cI cZ q x) (some (.int (xNow x s v))) (wX cI cZ q (x)) := by
  refine kc_start RX0 (by decide +kernel) rfl (Nat.le_of_ble_eq_true rfl) ?_
  intro zp ze zs zm zb zt zc h hr hlk hnm
  refine kr_aload_n h dX0_suggestNow_0 rfl 0 rfl ?_
  refine kr_get h FX0ok 0 16 dX0_suggestNow_1 flX0_44 rfl rfl (by decide) rfl rfl ?_
  refine kr_top h (fun v1 e1 => ?_)
  refine kr_iconst (v := (-1)) h dX0_suggestNow_4 (by decide) ?_
  refine kr_icmp_ne h 12 dX0_suggestNow_5 (by decide) (fun c5 => ?_) (fun c5 => ?_)
  · refine kr_aload_n h dX0_suggestNow_12 rfl 0 rfl ?_
    refine kr_aload_n h dX0_suggestNow_13 rfl 0 rfl ?_
    refine kr_get h FX0ok 0 16 dX0_suggestNow_14 flX0_44 rfl rfl (by decide) rfl rfl ?_
    refine kr_top h (fun v14 e14 => ?_)
    refine kr_iload_n h dX0_suggestNow_17 rfl 1 rfl ?_
    refine kr_iload_n h dX0_suggestNow_18 rfl 2 rfl ?_
    refine kr_iconst (v := 0) h dX0_suggestNow_19 (by decide) ?_
    refine kr_iA h (kc_rV h (c_suggest0 l D cI cZ cJ q 7 x v14 s v (by rw [e14]; exact hi.resolve_left (fun z => c5 (e1.trans z))) hs) mlX0_180 yvX0_suggest dX0_suggestNow_20 rfl rfl ⟨Nat.le_of_ble_eq_true rfl, Nat.le_of_ble_eq_true rfl⟩ ⟨Nat.le_of_ble_eq_true rfl, Nat.le_of_ble_eq_true rfl⟩ (Nat.le_of_ble_eq_true rfl) [0, 1, 2, 3, 4, 5, 6, 7, 8, 9, 10, 11] rfl rfl 0 rfl rfl rfl) (fun v20 e20 => ?_)
    exact kr_iret h hr hlk dX0_suggestNow_23 (by first | (rw [xNow, if_pos (e1.symm.trans c5)]) | (rw [xNow, if_neg (fun z => c5 (e1.trans z)), e20, e14])) (rfl)
  · refine kr_iconst (v := 0) h dX0_suggestNow_8 (by decide) ?_
    refine kr_goto h 23 dX0_suggestNow_9 (by decide) ?_
    exact kr_iret h hr hlk dX0_suggestNow_23 (by first | (rw [xNow, if_pos (e1.symm.trans c5)]) | (rw [xNow, if_neg (fun z => c5 (e1.trans z)), e20, e14])) (rfl)
set_option maxHeartbeats 4000000 in
set_option maxRecDepth 100000 in
theorem c_follow (l : Launch) (D : va_G) (cI cZ cJ : ClassId) (q : Nat → Nat) (x : xSt) (g s v : Int32) (hi : (xKind g = 3 ∨ xKind g = 4 ∨ xKind g = 5) ∨ xG x 7 (x.2 5)) (hsrc : xKind g = 3 → vp_in (xSrc g) 40) (hs : xSo s) : kc_M l yX0_follow cX0_follow 4 (some .int) 18 486 0 0 [.ref (q 0), .int g, .int s, .int v] D vwCl (tyL cI cZ cJ) (wX cI cZ q x) (some (.int ((xFol x g s v).1))) (wX cI cZ q ((xFol x g s v).2)) := by
  refine kc_start RX0 (by decide +kernel) rfl (Nat.le_of_ble_eq_true rfl) ?_
  intro zp ze zs zm zb zt zc h hr hlk hnm
  refine kr_iload_n h dX0_follow_0 rfl 1 rfl ?_
  refine kr_i0 h (kc_rS h (c_kindOf l D cI cZ cJ g) mlX0_137 ysX0_kindOf dX0_follow_1 rfl rfl ⟨Nat.le_of_ble_eq_true rfl, Nat.le_of_ble_eq_true rfl⟩ ⟨Nat.le_of_ble_eq_true rfl, Nat.le_of_ble_eq_true rfl⟩ (Nat.le_of_ble_eq_true rfl) [] rfl rfl) (fun v1 e1 => ?_)
  rcases kc_sw v1 3 6 with hj4 | ⟨j4, hl4, hj4, ej4⟩
  · refine kr_tabOut h 61 dX0_follow_4 (by omega) (by decide) ?_
    have n4_3 : ¬ v1 = 3 := fun z => by rw [z] at hj4; revert hj4; decide +kernel
    have n4_4 : ¬ v1 = 4 := fun z => by rw [z] at hj4; revert hj4; decide +kernel
    have n4_5 : ¬ v1 = 5 := fun z => by rw [z] at hj4; revert hj4; decide +kernel
    refine kr_aload_n h dX0_follow_61 rfl 0 rfl ?_
    refine kr_aload_n h dX0_follow_62 rfl 0 rfl ?_
    refine kr_get h FX0ok 0 16 dX0_follow_63 flX0_44 rfl rfl (by decide) rfl rfl ?_
    refine kr_top h (fun v63 e63 => ?_)
    refine kr_iload_n h dX0_follow_66 rfl 2 rfl ?_
    refine kr_iload_n h dX0_follow_67 rfl 3 rfl ?_
    refine kr_vA h (kc_rV h (c_accept l D cI cZ cJ q 7 x v63 s v (by rw [e63]; exact hi.resolve_left (fun z => by rw [← e1] at z; rcases z with z | z | z <;> first | exact n4_3 z | exact n4_4 z | exact n4_5 z)) hs) mlX0_217 yvX0_accept dX0_follow_68 rfl rfl ⟨Nat.le_of_ble_eq_true rfl, Nat.le_of_ble_eq_true rfl⟩ ⟨Nat.le_of_ble_eq_true rfl, Nat.le_of_ble_eq_true rfl⟩ (Nat.le_of_ble_eq_true rfl) [0, 1, 2, 3, 4, 5, 6, 7, 8, 9, 10, 11] rfl rfl 0 rfl rfl rfl) ?_
    refine kr_aload_n h dX0_follow_71 rfl 0 rfl ?_
    refine kr_iload_n h dX0_follow_72 rfl 2 rfl ?_
    refine kr_iload_n h dX0_follow_73 rfl 3 rfl ?_
    refine kr_vA h (kc_rV h (c_perform l D cI cZ cJ q (xAcc 7 x v63 s v) s v (xSo_in hs)) mlX0_221 yvX0_perform dX0_follow_74 rfl rfl ⟨Nat.le_of_ble_eq_true rfl, Nat.le_of_ble_eq_true rfl⟩ ⟨Nat.le_of_ble_eq_true rfl, Nat.le_of_ble_eq_true rfl⟩ (Nat.le_of_ble_eq_true rfl) [0, 1, 2, 3, 4, 5, 6, 7, 8, 9, 10, 11] rfl rfl 0 rfl rfl rfl) ?_
    refine kr_iconst (v := 0) h dX0_follow_77 (by decide) ?_
    exact kr_iret h hr hlk dX0_follow_78 (by rw [xFol, if_neg (fun z => n4_3 (e1.trans z)), if_neg (fun z => n4_4 (e1.trans z)), if_neg (fun z => n4_5 (e1.trans z))]) (by rw [xFol, if_neg (fun z => n4_3 (e1.trans z)), if_neg (fun z => n4_4 (e1.trans z)), if_neg (fun z => n4_5 (e1.trans z)), e63])
  · have hg4 : (j4 = 3) ∨ (j4 = 4) ∨ (j4 = 5) := by omega
    rcases hg4 with hg4 | hg4 | hg4
    · refine kr_tab h 32 dX0_follow_4 (by rw [ej4, hg4]; decide +kernel) ?_
      have q4 : v1 = 3 := by rw [ej4, hg4]; decide +kernel
      clear hg4 ej4 hj4
      refine kr_aload_n h dX0_follow_32 rfl 0 rfl ?_
      refine kr_aload_n h dX0_follow_33 rfl 0 rfl ?_
      refine kr_get h FX0ok 0 2 dX0_follow_34 flX0_16 rfl rfl (by decide) rfl rfl ?_
      refine kr_iload_n h dX0_follow_37 rfl 1 rfl ?_
      refine kr_i0 h (kc_rS h (c_sourceOf l D cI cZ cJ g) mlX0_145 ysX0_sourceOf dX0_follow_38 rfl rfl ⟨Nat.le_of_ble_eq_true rfl, Nat.le_of_ble_eq_true rfl⟩ ⟨Nat.le_of_ble_eq_true rfl, Nat.le_of_ble_eq_true rfl⟩ (Nat.le_of_ble_eq_true rfl) [] rfl rfl) (fun v38 e38 => ?_)
      refine kr_iald h 3 0 dX0_follow_41 rfl rfl (by rw [e38]; exact hsrc (e1.symm.trans q4)) (fun v41 e41 => ?_)
      refine kr_put (ws' := wX cI cZ q (xI x 7 v41)) h FX0ok 0 18 dX0_follow_42 flX0_122 rfl rfl (by decide) rfl rfl rfl rfl (Nat.le_of_ble_eq_true rfl) rfl ?_
      refine kr_aload_n h dX0_follow_45 rfl 0 rfl ?_
      refine kr_dup h dX0_follow_46 rfl ?_
      refine kr_get h FX0ok 0 14 dX0_follow_47 flX0_159 rfl rfl (by decide) rfl rfl ?_
      refine kr_top h (fun v47 e47 => ?_)
      refine kr_iconst (v := 1) h dX0_follow_50 (by decide) ?_
      refine kr_iadd h dX0_follow_51 (fun v51 e51 => ?_)
      refine kr_put (ws' := wX cI cZ q (xI (xI x 7 v41) 3 v51)) h FX0ok 0 14 dX0_follow_52 flX0_159 rfl rfl (by decide) rfl rfl rfl rfl (Nat.le_of_ble_eq_true rfl) rfl ?_
      refine kr_iconst (v := 0) h dX0_follow_55 (by decide) ?_
      exact kr_iret h hr hlk dX0_follow_56 (by rw [xFol, if_pos (e1.symm.trans q4)]) (by rw [xFol, if_pos (e1.symm.trans q4), e51, e47, e41, e38]; rfl)
    · refine kr_tab h 57 dX0_follow_4 (by rw [ej4, hg4]; decide +kernel) ?_
      have q4 : v1 = 4 := by rw [ej4, hg4]; decide +kernel
      clear hg4 ej4 hj4
      refine kr_iconst (v := 1) h dX0_follow_57 (by decide) ?_
      exact kr_iret h hr hlk dX0_follow_58 (by rw [xFol, if_neg (fun z => by rw [← e1, q4] at z; exact absurd z (by decide)), if_pos (e1.symm.trans q4)]) (by rw [xFol, if_neg (fun z => by rw [← e1, q4] at z; exact absurd z (by decide)), if_pos (e1.symm.trans q4)])
    · refine kr_tab h 59 dX0_follow_4 (by rw [ej4, hg4]; decide +kernel) ?_
      have q4 : v1 = 5 := by rw [ej4, hg4]; decide +kernel
      clear hg4 ej4 hj4
      refine kr_iconst (v := 2) h dX0_follow_59 (by decide) ?_
      exact kr_iret h hr hlk dX0_follow_60 (by rw [xFol, if_neg (fun z => by rw [← e1, q4] at z; exact absurd z (by decide)), if_neg (fun z => by rw [← e1, q4] at z; exact absurd z (by decide)), if_pos (e1.symm.trans q4)]) (by rw [xFol, if_neg (fun z => by rw [← e1, q4] at z; exact absurd z (by decide)), if_neg (fun z => by rw [← e1, q4] at z; exact absurd z (by decide)), if_pos (e1.symm.trans q4)])
