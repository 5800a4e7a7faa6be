set_option maxHeartbeats 4000000 in
set_option maxRecDepth 100000 in
theorem c_isAsSaid (l : Launch) (D : va_G) (cI cZ cJ : ClassId) (q : Nat → Nat) (x : xSt) (k a b c : Int32) : kc_M l yX0_isAsSaid cX0_isAsSaid 5 (some .boolean) 2 42 0 0 [.ref (q 0), .int k, .int a, .int b, .int c] D vwCl (tyL cI cZ cJ) (wX cI cZ q x) (some (.int (xb (pSaid x k a b c)))) (wX cI cZ q (x)) := by
  refine kc_start RX0 (by decide +kernel) rfl (Nat.le_of_ble_eq_true rfl) ?_
  intro zp ze zs zm zb zt zc h hr hlk hnm
  refine kr_iload_n h dX0_isAsSaid_0 rfl 1 rfl ?_
  rcases kc_sw k 0 15 with hj1 | ⟨j1, hl1, hj1, ej1⟩
  · refine kr_tabOut h 211 dX0_isAsSaid_1 (by omega) (by decide) ?_
    have n1_0 : ¬ k = 0 := fun z => by rw [z] at hj1; revert hj1; decide +kernel
    have n1_1 : ¬ k = 1 := fun z => by rw [z] at hj1; revert hj1; decide +kernel
    have n1_2 : ¬ k = 2 := fun z => by rw [z] at hj1; revert hj1; decide +kernel
    have n1_3 : ¬ k = 3 := fun z => by rw [z] at hj1; revert hj1; decide +kernel
    have n1_4 : ¬ k = 4 := fun z => by rw [z] at hj1; revert hj1; decide +kernel
    have n1_5 : ¬ k = 5 := fun z => by rw [z] at hj1; revert hj1; decide +kernel
    have n1_6 : ¬ k = 6 := fun z => by rw [z] at hj1; revert hj1; decide +kernel
    have n1_7 : ¬ k = 7 := fun z => by rw [z] at hj1; revert hj1; decide +kernel
    have n1_8 : ¬ k = 8 := fun z => by rw [z] at hj1; revert hj1; decide +kernel
    have n1_9 : ¬ k = 9 := fun z => by rw [z] at hj1; revert hj1; decide +kernel
    have n1_10 : ¬ k = 10 := fun z => by rw [z] at hj1; revert hj1; decide +kernel
    have n1_11 : ¬ k = 11 := fun z => by rw [z] at hj1; revert hj1; decide +kernel
    have n1_12 : ¬ k = 12 := fun z => by rw [z] at hj1; revert hj1; decide +kernel
    have n1_13 : ¬ k = 13 := fun z => by rw [z] at hj1; revert hj1; decide +kernel
    have n1_14 : ¬ k = 14 := fun z => by rw [z] at hj1; revert hj1; decide +kernel
    refine kr_iconst (v := 0) h dX0_isAsSaid_211 (by decide) ?_
    exact kr_zret h hr hlk dX0_isAsSaid_212 (by first | rfl | exact kc_nb e77 | exact kc_nb e124 | exact kc_nb e173) (xb_0 (fun z => by simp_all [pSaid, pP0, pPair])) (rfl)
  · have hg1 : (j1 = 0 ∨ j1 = 1 ∨ j1 = 2 ∨ j1 = 4 ∨ j1 = 7) ∨ (j1 = 3) ∨ (j1 = 5) ∨ (j1 = 6) ∨ (j1 = 8 ∨ j1 = 9 ∨ j1 = 10 ∨ j1 = 11) ∨ (j1 = 12) ∨ (j1 = 13) ∨ (j1 = 14) := by omega
    rcases hg1 with hg1 | hg1 | hg1 | hg1 | hg1 | hg1 | hg1 | hg1
    · refine kr_tab h 76 dX0_isAsSaid_1 (by rcases hg1 with hg1 | hg1 | hg1 | hg1 | hg1 <;> rw [ej1, hg1] <;> decide +kernel) ?_
      have q1 : k = 0 ∨ k = 1 ∨ k = 2 ∨ k = 4 ∨ k = 7 := by rcases hg1 with hg1 | hg1 | hg1 | hg1 | hg1 <;> rw [ej1, hg1] <;> decide +kernel
      clear hg1 ej1 hj1
      refine kr_iload_n h dX0_isAsSaid_76 rfl 2 rfl ?_
      refine kr_i0 h (kc_rS h (c_isSet l D cI cZ cJ a) mlX0_165 ysX0_isSet dX0_isAsSaid_77 rfl rfl ⟨Nat.le_of_ble_eq_true rfl, Nat.le_of_ble_eq_true rfl⟩ ⟨Nat.le_of_ble_eq_true rfl, Nat.le_of_ble_eq_true rfl⟩ (Nat.le_of_ble_eq_true rfl) [] rfl rfl) (fun v77 e77 => ?_)
      exact kr_zret h hr hlk dX0_isAsSaid_80 (by first | rfl | exact kc_nb e77 | exact kc_nb e124 | exact kc_nb e173) (e77.trans (xb_iff (pSaid_0 q1).symm)) (rfl)
    · refine kr_tab h 81 dX0_isAsSaid_1 (by rw [ej1, hg1]; decide +kernel) ?_
      have q1 : k = 3 := by rw [ej1, hg1]; decide +kernel
      clear hg1 ej1 hj1
      refine kr_iload_n h dX0_isAsSaid_81 rfl 2 rfl ?_
      refine kr_i0 h (kc_rS h (c_isSet l D cI cZ cJ a) mlX0_165 ysX0_isSet dX0_isAsSaid_82 rfl rfl ⟨Nat.le_of_ble_eq_true rfl, Nat.le_of_ble_eq_true rfl⟩ ⟨Nat.le_of_ble_eq_true rfl, Nat.le_of_ble_eq_true rfl⟩ (Nat.le_of_ble_eq_true rfl) [] rfl rfl) (fun v82 e82 => ?_)
      refine kr_if_eq h 101 dX0_isAsSaid_85 (by decide) (fun c85 => ?_) (fun c85 => ?_)
      · refine kr_iconst (v := 0) h dX0_isAsSaid_101 (by decide) ?_
        exact kr_zret h hr hlk dX0_isAsSaid_102 (by first | rfl | exact kc_nb e77 | exact kc_nb e124 | exact kc_nb e173) (by first | exact xb_1 ((pSaid_3 q1).mpr ⟨xb_t e82 c85, xb_t e91 c94⟩) | exact xb_0 (fun z => xb_f e82 c85 ((pSaid_3 q1).mp z).1) | exact xb_0 (fun z => xb_f e91 c94 ((pSaid_3 q1).mp z).2)) (rfl)
      · refine kr_iload_n h dX0_isAsSaid_88 rfl 3 rfl ?_
        refine kr_bipush (v := 100) h dX0_isAsSaid_89 (by decide) ?_
        refine kr_i0 h (kc_rS h (c_isBelow l D cI cZ cJ b 100) mlX0_52 ysX0_isBelow dX0_isAsSaid_91 rfl rfl ⟨Nat.le_of_ble_eq_true rfl, Nat.le_of_ble_eq_true rfl⟩ ⟨Nat.le_of_ble_eq_true rfl, Nat.le_of_ble_eq_true rfl⟩ (Nat.le_of_ble_eq_true rfl) [] rfl rfl) (fun v91 e91 => ?_)
        refine kr_if_eq h 101 dX0_isAsSaid_94 (by decide) (fun c94 => ?_) (fun c94 => ?_)
        · refine kr_iconst (v := 0) h dX0_isAsSaid_101 (by decide) ?_
          exact kr_zret h hr hlk dX0_isAsSaid_102 (by first | rfl | exact kc_nb e77 | exact kc_nb e124 | exact kc_nb e173) (by first | exact xb_1 ((pSaid_3 q1).mpr ⟨xb_t e82 c85, xb_t e91 c94⟩) | exact xb_0 (fun z => xb_f e82 c85 ((pSaid_3 q1).mp z).1) | exact xb_0 (fun z => xb_f e91 c94 ((pSaid_3 q1).mp z).2)) (rfl)
        · refine kr_iconst (v := 1) h dX0_isAsSaid_97 (by decide) ?_
          refine kr_goto h 102 dX0_isAsSaid_98 (by decide) ?_
          exact kr_zret h hr hlk dX0_isAsSaid_102 (by first | rfl | exact kc_nb e77 | exact kc_nb e124 | exact kc_nb e173) (by first | exact xb_1 ((pSaid_3 q1).mpr ⟨xb_t e82 c85, xb_t e91 c94⟩) | exact xb_0 (fun z => xb_f e82 c85 ((pSaid_3 q1).mp z).1) | exact xb_0 (fun z => xb_f e91 c94 ((pSaid_3 q1).mp z).2)) (rfl)
    · refine kr_tab h 103 dX0_isAsSaid_1 (by rw [ej1, hg1]; decide +kernel) ?_
      have q1 : k = 5 := by rw [ej1, hg1]; decide +kernel
      clear hg1 ej1 hj1
      refine kr_iload_n h dX0_isAsSaid_103 rfl 2 rfl ?_
      refine kr_i0 h (kc_rS h (c_isSet l D cI cZ cJ a) mlX0_165 ysX0_isSet dX0_isAsSaid_104 rfl rfl ⟨Nat.le_of_ble_eq_true rfl, Nat.le_of_ble_eq_true rfl⟩ ⟨Nat.le_of_ble_eq_true rfl, Nat.le_of_ble_eq_true rfl⟩ (Nat.le_of_ble_eq_true rfl) [] rfl rfl) (fun v104 e104 => ?_)
      refine kr_if_eq h 121 dX0_isAsSaid_107 (by decide) (fun c107 => ?_) (fun c107 => ?_)
      · refine kr_iconst (v := 0) h dX0_isAsSaid_121 (by decide) ?_
        exact kr_zret h hr hlk dX0_isAsSaid_122 (by first | rfl | exact kc_nb e77 | exact kc_nb e124 | exact kc_nb e173) (by first | exact xb_1 ((pSaid_5 q1).mpr ⟨xb_t e104 c107, xb_t e111 c114⟩) | exact xb_0 (fun z => xb_f e104 c107 ((pSaid_5 q1).mp z).1) | exact xb_0 (fun z => xb_f e111 c114 ((pSaid_5 q1).mp z).2)) (rfl)
      · refine kr_iload_n h dX0_isAsSaid_110 rfl 3 rfl ?_
        refine kr_i0 h (kc_rS h (c_isSort l D cI cZ cJ b) mlX0_56 ysX0_isSort dX0_isAsSaid_111 rfl rfl ⟨Nat.le_of_ble_eq_true rfl, Nat.le_of_ble_eq_true rfl⟩ ⟨Nat.le_of_ble_eq_true rfl, Nat.le_of_ble_eq_true rfl⟩ (Nat.le_of_ble_eq_true rfl) [] rfl rfl) (fun v111 e111 => ?_)
        refine kr_if_eq h 121 dX0_isAsSaid_114 (by decide) (fun c114 => ?_) (fun c114 => ?_)
        · refine kr_iconst (v := 0) h dX0_isAsSaid_121 (by decide) ?_
          exact kr_zret h hr hlk dX0_isAsSaid_122 (by first | rfl | exact kc_nb e77 | exact kc_nb e124 | exact kc_nb e173) (by first | exact xb_1 ((pSaid_5 q1).mpr ⟨xb_t e104 c107, xb_t e111 c114⟩) | exact xb_0 (fun z => xb_f e104 c107 ((pSaid_5 q1).mp z).1) | exact xb_0 (fun z => xb_f e111 c114 ((pSaid_5 q1).mp z).2)) (rfl)
        · refine kr_iconst (v := 1) h dX0_isAsSaid_117 (by decide) ?_
          refine kr_goto h 122 dX0_isAsSaid_118 (by decide) ?_
          exact kr_zret h hr hlk dX0_isAsSaid_122 (by first | rfl | exact kc_nb e77 | exact kc_nb e124 | exact kc_nb e173) (by first | exact xb_1 ((pSaid_5 q1).mpr ⟨xb_t e104 c107, xb_t e111 c114⟩) | exact xb_0 (fun z => xb_f e104 c107 ((pSaid_5 q1).mp z).1) | exact xb_0 (fun z => xb_f e111 c114 ((pSaid_5 q1).mp z).2)) (rfl)
    · refine kr_tab h 123 dX0_isAsSaid_1 (by rw [ej1, hg1]; decide +kernel) ?_
      have q1 : k = 6 := by rw [ej1, hg1]; decide +kernel
      clear hg1 ej1 hj1
      refine kr_iload_n h dX0_isAsSaid_123 rfl 2 rfl ?_
      refine kr_i0 h (kc_rS h (c_isTable l D cI cZ cJ a) mlX0_48 ysX0_isTable dX0_isAsSaid_124 rfl rfl ⟨Nat.le_of_ble_eq_true rfl, Nat.le_of_ble_eq_true rfl⟩ ⟨Nat.le_of_ble_eq_true rfl, Nat.le_of_ble_eq_true rfl⟩ (Nat.le_of_ble_eq_true rfl) [] rfl rfl) (fun v124 e124 => ?_)
      exact kr_zret h hr hlk dX0_isAsSaid_127 (by first | rfl | exact kc_nb e77 | exact kc_nb e124 | exact kc_nb e173) (e124.trans (xb_iff (pSaid_6 q1).symm)) (rfl)
    · refine kr_tab h 128 dX0_isAsSaid_1 (by rcases hg1 with hg1 | hg1 | hg1 | hg1 <;> rw [ej1, hg1] <;> decide +kernel) ?_
      have q1 : k = 8 ∨ k = 9 ∨ k = 10 ∨ k = 11 := by rcases hg1 with hg1 | hg1 | hg1 | hg1 <;> rw [ej1, hg1] <;> decide +kernel
      clear hg1 ej1 hj1
      refine kr_aload_n h dX0_isAsSaid_128 rfl 0 rfl ?_
      refine kr_iload_n h dX0_isAsSaid_129 rfl 2 rfl ?_
      refine kr_iA h (kc_rV h (c_isPolicy l D cI cZ cJ q x a) mlX0_105 yvX0_isPolicy dX0_isAsSaid_130 rfl rfl ⟨Nat.le_of_ble_eq_true rfl, Nat.le_of_ble_eq_true rfl⟩ ⟨Nat.le_of_ble_eq_true rfl, Nat.le_of_ble_eq_true rfl⟩ (Nat.le_of_ble_eq_true rfl) [0, 1, 2, 3, 4, 5, 6, 7, 8, 9, 10, 11] rfl rfl 0 rfl rfl rfl) (fun v130 e130 => ?_)
      refine kr_if_eq h 148 dX0_isAsSaid_133 (by decide) (fun c133 => ?_) (fun c133 => ?_)
      · refine kr_iconst (v := 0) h dX0_isAsSaid_148 (by decide) ?_
        exact kr_zret h hr hlk dX0_isAsSaid_149 (by first | rfl | exact kc_nb e77 | exact kc_nb e124 | exact kc_nb e173) (by first | exact xb_1 ((pSaid_8 q1).mpr ⟨xb_t e130 c133, xb_t e138 c141⟩) | exact xb_0 (fun z => xb_f e130 c133 ((pSaid_8 q1).mp z).1) | exact xb_0 (fun z => xb_f e138 c141 ((pSaid_8 q1).mp z).2)) (rfl)
      · refine kr_aload_n h dX0_isAsSaid_136 rfl 0 rfl ?_
        refine kr_iload_n h dX0_isAsSaid_137 rfl 3 rfl ?_
        refine kr_iA h (kc_rV h (c_isPolicy l D cI cZ cJ q x b) mlX0_105 yvX0_isPolicy dX0_isAsSaid_138 rfl rfl ⟨Nat.le_of_ble_eq_true rfl, Nat.le_of_ble_eq_true rfl⟩ ⟨Nat.le_of_ble_eq_true rfl, Nat.le_of_ble_eq_true rfl⟩ (Nat.le_of_ble_eq_true rfl) [0, 1, 2, 3, 4, 5, 6, 7, 8, 9, 10, 11] rfl rfl 0 rfl rfl rfl) (fun v138 e138 => ?_)
        refine kr_if_eq h 148 dX0_isAsSaid_141 (by decide) (fun c141 => ?_) (fun c141 => ?_)
        · refine kr_iconst (v := 0) h dX0_isAsSaid_148 (by decide) ?_
          exact kr_zret h hr hlk dX0_isAsSaid_149 (by first | rfl | exact kc_nb e77 | exact kc_nb e124 | exact kc_nb e173) (by first | exact xb_1 ((pSaid_8 q1).mpr ⟨xb_t e130 c133, xb_t e138 c141⟩) | exact xb_0 (fun z => xb_f e130 c133 ((pSaid_8 q1).mp z).1) | exact xb_0 (fun z => xb_f e138 c141 ((pSaid_8 q1).mp z).2)) (rfl)
        · refine kr_iconst (v := 1) h dX0_isAsSaid_144 (by decide) ?_
          refine kr_goto h 149 dX0_isAsSaid_145 (by decide) ?_
          exact kr_zret h hr hlk dX0_isAsSaid_149 (by first | rfl | exact kc_nb e77 | exact kc_nb e124 | exact kc_nb e173) (by first | exact xb_1 ((pSaid_8 q1).mpr ⟨xb_t e130 c133, xb_t e138 c141⟩) | exact xb_0 (fun z => xb_f e130 c133 ((pSaid_8 q1).mp z).1) | exact xb_0 (fun z => xb_f e138 c141 ((pSaid_8 q1).mp z).2)) (rfl)
    · refine kr_tab h 150 dX0_isAsSaid_1 (by rw [ej1, hg1]; decide +kernel) ?_
      have q1 : k = 12 := by rw [ej1, hg1]; decide +kernel
      clear hg1 ej1 hj1
      refine kr_iload_n h dX0_isAsSaid_150 rfl 2 rfl ?_
      refine kr_i0 h (kc_rS h (c_isSet l D cI cZ cJ a) mlX0_165 ysX0_isSet dX0_isAsSaid_151 rfl rfl ⟨Nat.le_of_ble_eq_true rfl, Nat.le_of_ble_eq_true rfl⟩ ⟨Nat.le_of_ble_eq_true rfl, Nat.le_of_ble_eq_true rfl⟩ (Nat.le_of_ble_eq_true rfl) [] rfl rfl) (fun v151 e151 => ?_)
      refine kr_if_eq h 169 dX0_isAsSaid_154 (by decide) (fun c154 => ?_) (fun c154 => ?_)
      · refine kr_iconst (v := 0) h dX0_isAsSaid_169 (by decide) ?_
        exact kr_zret h hr hlk dX0_isAsSaid_170 (by first | rfl | exact kc_nb e77 | exact kc_nb e124 | exact kc_nb e173) (by first | exact xb_1 ((pSaid_12 q1).mpr ⟨xb_t e151 c154, xb_t e159 c162⟩) | exact xb_0 (fun z => xb_f e151 c154 ((pSaid_12 q1).mp z).1) | exact xb_0 (fun z => xb_f e159 c162 ((pSaid_12 q1).mp z).2)) (rfl)
      · refine kr_aload_n h dX0_isAsSaid_157 rfl 0 rfl ?_
        refine kr_iload_n h dX0_isAsSaid_158 rfl 3 rfl ?_
        refine kr_iA h (kc_rV h (c_isPolicy l D cI cZ cJ q x b) mlX0_105 yvX0_isPolicy dX0_isAsSaid_159 rfl rfl ⟨Nat.le_of_ble_eq_true rfl, Nat.le_of_ble_eq_true rfl⟩ ⟨Nat.le_of_ble_eq_true rfl, Nat.le_of_ble_eq_true rfl⟩ (Nat.le_of_ble_eq_true rfl) [0, 1, 2, 3, 4, 5, 6, 7, 8, 9, 10, 11] rfl rfl 0 rfl rfl rfl) (fun v159 e159 => ?_)
        refine kr_if_eq h 169 dX0_isAsSaid_162 (by decide) (fun c162 => ?_) (fun c162 => ?_)
        · refine kr_iconst (v := 0) h dX0_isAsSaid_169 (by decide) ?_
          exact kr_zret h hr hlk dX0_isAsSaid_170 (by first | rfl | exact kc_nb e77 | exact kc_nb e124 | exact kc_nb e173) (by first | exact xb_1 ((pSaid_12 q1).mpr ⟨xb_t e151 c154, xb_t e159 c162⟩) | exact xb_0 (fun z => xb_f e151 c154 ((pSaid_12 q1).mp z).1) | exact xb_0 (fun z => xb_f e159 c162 ((pSaid_12 q1).mp z).2)) (rfl)
        · refine kr_iconst (v := 1) h dX0_isAsSaid_165 (by decide) ?_
          refine kr_goto h 170 dX0_isAsSaid_166 (by decide) ?_
          exact kr_zret h hr hlk dX0_isAsSaid_170 (by first | rfl | exact kc_nb e77 | exact kc_nb e124 | exact kc_nb e173) (by first | exact xb_1 ((pSaid_12 q1).mpr ⟨xb_t e151 c154, xb_t e159 c162⟩) | exact xb_0 (fun z => xb_f e151 c154 ((pSaid_12 q1).mp z).1) | exact xb_0 (fun z => xb_f e159 c162 ((pSaid_12 q1).mp z).2)) (rfl)
    · refine kr_tab h 171 dX0_isAsSaid_1 (by rw [ej1, hg1]; decide +kernel) ?_
      have q1 : k = 13 := by rw [ej1, hg1]; decide +kernel
      clear hg1 ej1 hj1
      refine kr_aload_n h dX0_isAsSaid_171 rfl 0 rfl ?_
      refine kr_iload_n h dX0_isAsSaid_172 rfl 2 rfl ?_
      refine kr_iA h (kc_rV h (c_isPolicy l D cI cZ cJ q x a) mlX0_105 yvX0_isPolicy dX0_isAsSaid_173 rfl rfl ⟨Nat.le_of_ble_eq_true rfl, Nat.le_of_ble_eq_true rfl⟩ ⟨Nat.le_of_ble_eq_true rfl, Nat.le_of_ble_eq_true rfl⟩ (Nat.le_of_ble_eq_true rfl) [0, 1, 2, 3, 4, 5, 6, 7, 8, 9, 10, 11] rfl rfl 0 rfl rfl rfl) (fun v173 e173 => ?_)
      exact kr_zret h hr hlk dX0_isAsSaid_176 (by first | rfl | exact kc_nb e77 | exact kc_nb e124 | exact kc_nb e173) (e173.trans (xb_iff (pSaid_13 q1).symm)) (rfl)
    · refine kr_tab h 177 dX0_isAsSaid_1 (by rw [ej1, hg1]; decide +kernel) ?_
      have q1 : k = 14 := by rw [ej1, hg1]; decide +kernel
      clear hg1 ej1 hj1
      refine kr_aload_n h dX0_isAsSaid_177 rfl 0 rfl ?_
      refine kr_iload_n h dX0_isAsSaid_178 rfl 2 rfl ?_
      refine kr_iA h (kc_rV h (c_isPolicy l D cI cZ cJ q x a) mlX0_105 yvX0_isPolicy dX0_isAsSaid_179 rfl rfl ⟨Nat.le_of_ble_eq_true rfl, Nat.le_of_ble_eq_true rfl⟩ ⟨Nat.le_of_ble_eq_true rfl, Nat.le_of_ble_eq_true rfl⟩ (Nat.le_of_ble_eq_true rfl) [0, 1, 2, 3, 4, 5, 6, 7, 8, 9, 10, 11] rfl rfl 0 rfl rfl rfl) (fun v179 e179 => ?_)
      refine kr_if_eq h 209 dX0_isAsSaid_182 (by decide) (fun c182 => ?_) (fun c182 => ?_)
      · refine kr_iconst (v := 0) h dX0_isAsSaid_209 (by decide) ?_
        exact kr_zret h hr hlk dX0_isAsSaid_210 (by first | rfl | exact kc_nb e77 | exact kc_nb e124 | exact kc_nb e173) (by first | exact xb_0 (fun z => xb_f e179 c182 ((pSaid_14 q1).mp z).1) | exact xb_0 (fun z => xb_f e186 c189 ((pSaid_14 q1).mp z).2.1) | exact xb_1 ((pSaid_14 q1).mpr ⟨xb_t e179 c182, xb_t e186 c189, Or.inl c194⟩) | exact xb_1 ((pSaid_14 q1).mpr ⟨xb_t e179 c182, xb_t e186 c189, Or.inr (xb_t e199 c202)⟩) | exact xb_0 (fun z => ((pSaid_14 q1).mp z).2.2.elim c194 (xb_f e199 c202))) (rfl)
      · refine kr_iload_n h dX0_isAsSaid_185 rfl 3 rfl ?_
        refine kr_i0 h (kc_rS h (c_canBeTurned l D cI cZ cJ b) mlX0_168 ysX0_canBeTurned dX0_isAsSaid_186 rfl rfl ⟨Nat.le_of_ble_eq_true rfl, Nat.le_of_ble_eq_true rfl⟩ ⟨Nat.le_of_ble_eq_true rfl, Nat.le_of_ble_eq_true rfl⟩ (Nat.le_of_ble_eq_true rfl) [] rfl rfl) (fun v186 e186 => ?_)
        refine kr_if_eq h 209 dX0_isAsSaid_189 (by decide) (fun c189 => ?_) (fun c189 => ?_)
        · refine kr_iconst (v := 0) h dX0_isAsSaid_209 (by decide) ?_
          exact kr_zret h hr hlk dX0_isAsSaid_210 (by first | rfl | exact kc_nb e77 | exact kc_nb e124 | exact kc_nb e173) (by first | exact xb_0 (fun z => xb_f e179 c182 ((pSaid_14 q1).mp z).1) | exact xb_0 (fun z => xb_f e186 c189 ((pSaid_14 q1).mp z).2.1) | exact xb_1 ((pSaid_14 q1).mpr ⟨xb_t e179 c182, xb_t e186 c189, Or.inl c194⟩) | exact xb_1 ((pSaid_14 q1).mpr ⟨xb_t e179 c182, xb_t e186 c189, Or.inr (xb_t e199 c202)⟩) | exact xb_0 (fun z => ((pSaid_14 q1).mp z).2.2.elim c194 (xb_f e199 c202))) (rfl)
        · refine kr_iload h dX0_isAsSaid_192 4 rfl ?_
          refine kr_if_eq h 205 dX0_isAsSaid_194 (by decide) (fun c194 => ?_) (fun c194 => ?_)
          · refine kr_iconst (v := 1) h dX0_isAsSaid_205 (by decide) ?_
            refine kr_goto h 210 dX0_isAsSaid_206 (by decide) ?_
            exact kr_zret h hr hlk dX0_isAsSaid_210 (by first | rfl | exact kc_nb e77 | exact kc_nb e124 | exact kc_nb e173) (by first | exact xb_0 (fun z => xb_f e179 c182 ((pSaid_14 q1).mp z).1) | exact xb_0 (fun z => xb_f e186 c189 ((pSaid_14 q1).mp z).2.1) | exact xb_1 ((pSaid_14 q1).mpr ⟨xb_t e179 c182, xb_t e186 c189, Or.inl c194⟩) | exact xb_1 ((pSaid_14 q1).mpr ⟨xb_t e179 c182, xb_t e186 c189, Or.inr (xb_t e199 c202)⟩) | exact xb_0 (fun z => ((pSaid_14 q1).mp z).2.2.elim c194 (xb_f e199 c202))) (rfl)
          · refine kr_iload h dX0_isAsSaid_197 4 rfl ?_
            refine kr_i0 h (kc_rS h (c_canBeTurned l D cI cZ cJ c) mlX0_168 ysX0_canBeTurned dX0_isAsSaid_199 rfl rfl ⟨Nat.le_of_ble_eq_true rfl, Nat.le_of_ble_eq_true rfl⟩ ⟨Nat.le_of_ble_eq_true rfl, Nat.le_of_ble_eq_true rfl⟩ (Nat.le_of_ble_eq_true rfl) [] rfl rfl) (fun v199 e199 => ?_)
            refine kr_if_eq h 209 dX0_isAsSaid_202 (by decide) (fun c202 => ?_) (fun c202 => ?_)
            · refine kr_iconst (v := 0) h dX0_isAsSaid_209 (by decide) ?_
              exact kr_zret h hr hlk dX0_isAsSaid_210 (by first | rfl | exact kc_nb e77 | exact kc_nb e124 | exact kc_nb e173) (by first | exact xb_0 (fun z => xb_f e179 c182 ((pSaid_14 q1).mp z).1) | exact xb_0 (fun z => xb_f e186 c189 ((pSaid_14 q1).mp z).2.1) | exact xb_1 ((pSaid_14 q1).mpr ⟨xb_t e179 c182, xb_t e186 c189, Or.inl c194⟩) | exact xb_1 ((pSaid_14 q1).mpr ⟨xb_t e179 c182, xb_t e186 c189, Or.inr (xb_t e199 c202)⟩) | exact xb_0 (fun z => ((pSaid_14 q1).mp z).2.2.elim c194 (xb_f e199 c202))) (rfl)
            · refine kr_iconst (v := 1) h dX0_isAsSaid_205 (by decide) ?_
              refine kr_goto h 210 dX0_isAsSaid_206 (by decide) ?_
              exact kr_zret h hr hlk dX0_isAsSaid_210 (by first | rfl | exact kc_nb e77 | exact kc_nb e124 | exact kc_nb e173) (by first | exact xb_0 (fun z => xb_f e179 c182 ((pSaid_14 q1).mp z).1) | exact xb_0 (fun z => xb_f e186 c189 ((pSaid_14 q1).mp z).2.1) | exact xb_1 ((pSaid_14 q1).mpr ⟨xb_t e179 c182, xb_t e186 c189, Or.inl c194⟩) | exact xb_1 ((pSaid_14 q1).mpr ⟨xb_t e179 c182, xb_t e186 c189, Or.inr (xb_t e199 c202)⟩) | exact xb_0 (fun z => ((pSaid_14 q1).mp z).2.2.elim c194 (xb_f e199 c202))) (rfl)
set_option maxHeartbeats 4000000 in
set_option maxRecDepth 100000 in
theorem c_isTaken (l : Launch) (D : va_G) (cI cZ cJ : ClassId) (q : Nat → Nat) (x : xSt) (k a b : Int32) (ha : pA k → vp_in a 40) (hb : pB k → vp_in b 40) : kc_M l yX0_isTaken cX0_isTaken 4 (some .boolean) 2 40 0 0 [.ref (q 0), .int k, .int a, .int b] D vwCl (tyL cI cZ cJ) (wX cI cZ q x) (some (.int (xb (pTaken x k a b)))) (wX cI cZ q (x)) := by
  refine kc_start RX0 (by decide +kernel) rfl (Nat.le_of_ble_eq_true rfl) ?_
  intro zp ze zs zm zb zt zc h hr hlk hnm
  refine kr_iload_n h dX0_isTaken_0 rfl 1 rfl ?_
  refine kr_i0 h (kc_rS h (c_hasPolicyA l D cI cZ cJ k) mlX0_171 ysX0_hasPolicyA dX0_isTaken_1 rfl rfl ⟨Nat.le_of_ble_eq_true rfl, Nat.le_of_ble_eq_true rfl⟩ ⟨Nat.le_of_ble_eq_true rfl, Nat.le_of_ble_eq_true rfl⟩ (Nat.le_of_ble_eq_true rfl) [] rfl rfl) (fun v1 e1 => ?_)
  refine kr_if_eq h 16 dX0_isTaken_4 (by decide) (fun c4 => ?_) (fun c4 => ?_)
  · refine kr_iload_n h dX0_isTaken_16 rfl 1 rfl ?_
    refine kr_i0 h (kc_rS h (c_hasPolicyB l D cI cZ cJ k) mlX0_174 ysX0_hasPolicyB dX0_isTaken_17 rfl rfl ⟨Nat.le_of_ble_eq_true rfl, Nat.le_of_ble_eq_true rfl⟩ ⟨Nat.le_of_ble_eq_true rfl, Nat.le_of_ble_eq_true rfl⟩ (Nat.le_of_ble_eq_true rfl) [] rfl rfl) (fun v17 e17 => ?_)
    refine kr_if_eq h 32 dX0_isTaken_20 (by decide) (fun c20 => ?_) (fun c20 => ?_)
    · refine kr_iload_n h dX0_isTaken_32 rfl 1 rfl ?_
      refine kr_i0 h (kc_rS h (c_isPair l D cI cZ cJ k) mlX0_162 ysX0_isPair dX0_isTaken_33 rfl rfl ⟨Nat.le_of_ble_eq_true rfl, Nat.le_of_ble_eq_true rfl⟩ ⟨Nat.le_of_ble_eq_true rfl, Nat.le_of_ble_eq_true rfl⟩ (Nat.le_of_ble_eq_true rfl) [] rfl rfl) (fun v33 e33 => ?_)
      refine kr_if_eq h 48 dX0_isTaken_36 (by decide) (fun c36 => ?_) (fun c36 => ?_)
      · refine kr_iconst (v := 0) h dX0_isTaken_48 (by decide) ?_
        exact kr_zret h hr hlk dX0_isTaken_49 (rfl) (by first | exact xb_1 (Or.inl ⟨xb_t e1 c4, fun z => c13 (e12.trans z)⟩) | exact xb_1 (Or.inr (Or.inl ⟨xb_t e17 c20, fun z => c29 (e28.trans z)⟩)) | exact xb_1 (Or.inr (Or.inr ⟨xb_t e33 c36, c41⟩)) | exact xb_0 (fun z => z.elim (fun z => by first | exact xb_f e1 c4 z.1 | exact z.2 (e12.symm.trans c13)) (fun z => z.elim (fun z => by first | exact xb_f e17 c20 z.1 | exact z.2 (e28.symm.trans c29)) (fun z => by first | exact xb_f e33 c36 z.1 | exact c41 z.2)))) (rfl)
      · refine kr_iload_n h dX0_isTaken_39 rfl 2 rfl ?_
        refine kr_iload_n h dX0_isTaken_40 rfl 3 rfl ?_
        refine kr_icmp_ne h 48 dX0_isTaken_41 (by decide) (fun c41 => ?_) (fun c41 => ?_)
        · refine kr_iconst (v := 0) h dX0_isTaken_48 (by decide) ?_
          exact kr_zret h hr hlk dX0_isTaken_49 (rfl) (by first | exact xb_1 (Or.inl ⟨xb_t e1 c4, fun z => c13 (e12.trans z)⟩) | exact xb_1 (Or.inr (Or.inl ⟨xb_t e17 c20, fun z => c29 (e28.trans z)⟩)) | exact xb_1 (Or.inr (Or.inr ⟨xb_t e33 c36, c41⟩)) | exact xb_0 (fun z => z.elim (fun z => by first | exact xb_f e1 c4 z.1 | exact z.2 (e12.symm.trans c13)) (fun z => z.elim (fun z => by first | exact xb_f e17 c20 z.1 | exact z.2 (e28.symm.trans c29)) (fun z => by first | exact xb_f e33 c36 z.1 | exact c41 z.2)))) (rfl)
        · refine kr_iconst (v := 1) h dX0_isTaken_44 (by decide) ?_
          refine kr_goto h 49 dX0_isTaken_45 (by decide) ?_
          exact kr_zret h hr hlk dX0_isTaken_49 (rfl) (by first | exact xb_1 (Or.inl ⟨xb_t e1 c4, fun z => c13 (e12.trans z)⟩) | exact xb_1 (Or.inr (Or.inl ⟨xb_t e17 c20, fun z => c29 (e28.trans z)⟩)) | exact xb_1 (Or.inr (Or.inr ⟨xb_t e33 c36, c41⟩)) | exact xb_0 (fun z => z.elim (fun z => by first | exact xb_f e1 c4 z.1 | exact z.2 (e12.symm.trans c13)) (fun z => z.elim (fun z => by first | exact xb_f e17 c20 z.1 | exact z.2 (e28.symm.trans c29)) (fun z => by first | exact xb_f e33 c36 z.1 | exact c41 z.2)))) (rfl)
    · refine kr_aload_n h dX0_isTaken_23 rfl 0 rfl ?_
      refine kr_get h FX0ok 0 5 dX0_isTaken_24 flX0_25 rfl rfl (by decide) rfl rfl ?_
      refine kr_iload_n h dX0_isTaken_27 rfl 3 rfl ?_
      refine kr_zald h 6 1 dX0_isTaken_28 rfl rfl (hb (xb_t e17 c20)) (fun v28 e28 => ?_)
      refine kr_if_ne h 44 dX0_isTaken_29 (by decide) (fun c29 => ?_) (fun c29 => ?_)
      · refine kr_iconst (v := 1) h dX0_isTaken_44 (by decide) ?_
        refine kr_goto h 49 dX0_isTaken_45 (by decide) ?_
        exact kr_zret h hr hlk dX0_isTaken_49 (rfl) (by first | exact xb_1 (Or.inl ⟨xb_t e1 c4, fun z => c13 (e12.trans z)⟩) | exact xb_1 (Or.inr (Or.inl ⟨xb_t e17 c20, fun z => c29 (e28.trans z)⟩)) | exact xb_1 (Or.inr (Or.inr ⟨xb_t e33 c36, c41⟩)) | exact xb_0 (fun z => z.elim (fun z => by first | exact xb_f e1 c4 z.1 | exact z.2 (e12.symm.trans c13)) (fun z => z.elim (fun z => by first | exact xb_f e17 c20 z.1 | exact z.2 (e28.symm.trans c29)) (fun z => by first | exact xb_f e33 c36 z.1 | exact c41 z.2)))) (rfl)
      · refine kr_iload_n h dX0_isTaken_32 rfl 1 rfl ?_
        refine kr_i0 h (kc_rS h (c_isPair l D cI cZ cJ k) mlX0_162 ysX0_isPair dX0_isTaken_33 rfl rfl ⟨Nat.le_of_ble_eq_true rfl, Nat.le_of_ble_eq_true rfl⟩ ⟨Nat.le_of_ble_eq_true rfl, Nat.le_of_ble_eq_true rfl⟩ (Nat.le_of_ble_eq_true rfl) [] rfl rfl) (fun v33 e33 => ?_)
        refine kr_if_eq h 48 dX0_isTaken_36 (by decide) (fun c36 => ?_) (fun c36 => ?_)
        · refine kr_iconst (v := 0) h dX0_isTaken_48 (by decide) ?_
          exact kr_zret h hr hlk dX0_isTaken_49 (rfl) (by first | exact xb_1 (Or.inl ⟨xb_t e1 c4, fun z => c13 (e12.trans z)⟩) | exact xb_1 (Or.inr (Or.inl ⟨xb_t e17 c20, fun z => c29 (e28.trans z)⟩)) | exact xb_1 (Or.inr (Or.inr ⟨xb_t e33 c36, c41⟩)) | exact xb_0 (fun z => z.elim (fun z => by first | exact xb_f e1 c4 z.1 | exact z.2 (e12.symm.trans c13)) (fun z => z.elim (fun z => by first | exact xb_f e17 c20 z.1 | exact z.2 (e28.symm.trans c29)) (fun z => by first | exact xb_f e33 c36 z.1 | exact c41 z.2)))) (rfl)
        · refine kr_iload_n h dX0_isTaken_39 rfl 2 rfl ?_
          refine kr_iload_n h dX0_isTaken_40 rfl 3 rfl ?_
          refine kr_icmp_ne h 48 dX0_isTaken_41 (by decide) (fun c41 => ?_) (fun c41 => ?_)
          · refine kr_iconst (v := 0) h dX0_isTaken_48 (by decide) ?_
            exact kr_zret h hr hlk dX0_isTaken_49 (rfl) (by first | exact xb_1 (Or.inl ⟨xb_t e1 c4, fun z => c13 (e12.trans z)⟩) | exact xb_1 (Or.inr (Or.inl ⟨xb_t e17 c20, fun z => c29 (e28.trans z)⟩)) | exact xb_1 (Or.inr (Or.inr ⟨xb_t e33 c36, c41⟩)) | exact xb_0 (fun z => z.elim (fun z => by first | exact xb_f e1 c4 z.1 | exact z.2 (e12.symm.trans c13)) (fun z => z.elim (fun z => by first | exact xb_f e17 c20 z.1 | exact z.2 (e28.symm.trans c29)) (fun z => by first | exact xb_f e33 c36 z.1 | exact c41 z.2)))) (rfl)
          · refine kr_iconst (v := 1) h dX0_isTaken_44 (by decide) ?_
            refine kr_goto h 49 dX0_isTaken_45 (by decide) ?_
            exact kr_zret h hr hlk dX0_isTaken_49 (rfl) (by first | exact xb_1 (Or.inl ⟨xb_t e1 c4, fun z => c13 (e12.trans z)⟩) | exact xb_1 (Or.inr (Or.inl ⟨xb_t e17 c20, fun z => c29 (e28.trans z)⟩)) | exact xb_1 (Or.inr (Or.inr ⟨xb_t e33 c36, c41⟩)) | exact xb_0 (fun z => z.elim (fun z => by first | exact xb_f e1 c4 z.1 | exact z.2 (e12.symm.trans c13)) (fun z => z.elim (fun z => by first | exact xb_f e17 c20 z.1 | exact z.2 (e28.symm.trans c29)) (fun z => by first | exact xb_f e33 c36 z.1 | exact c41 z.2)))) (rfl)
  · refine kr_aload_n h dX0_isTaken_7 rfl 0 rfl ?_
    refine kr_get h FX0ok 0 5 dX0_isTaken_8 flX0_25 rfl rfl (by decide) rfl rfl ?_
    refine kr_iload_n h dX0_isTaken_11 rfl 2 rfl ?_
    refine kr_zald h 6 1 dX0_isTaken_12 rfl rfl (ha (xb_t e1 c4)) (fun v12 e12 => ?_)
    refine kr_if_ne h 44 dX0_isTaken_13 (by decide) (fun c13 => ?_) (fun c13 => ?_)
    · refine kr_iconst (v := 1) h dX0_isTaken_44 (by decide) ?_
      refine kr_goto h 49 dX0_isTaken_45 (by decide) ?_
      exact kr_zret h hr hlk dX0_isTaken_49 (rfl) (by first | exact xb_1 (Or.inl ⟨xb_t e1 c4, fun z => c13 (e12.trans z)⟩) | exact xb_1 (Or.inr (Or.inl ⟨xb_t e17 c20, fun z => c29 (e28.trans z)⟩)) | exact xb_1 (Or.inr (Or.inr ⟨xb_t e33 c36, c41⟩)) | exact xb_0 (fun z => z.elim (fun z => by first | exact xb_f e1 c4 z.1 | exact z.2 (e12.symm.trans c13)) (fun z => z.elim (fun z => by first | exact xb_f e17 c20 z.1 | exact z.2 (e28.symm.trans c29)) (fun z => by first | exact xb_f e33 c36 z.1 | exact c41 z.2)))) (rfl)
    · refine kr_iload_n h dX0_isTaken_16 rfl 1 rfl ?_
      refine kr_i0 h (kc_rS h (c_hasPolicyB l D cI cZ cJ k) mlX0_174 ysX0_hasPolicyB dX0_isTaken_17 rfl rfl ⟨Nat.le_of_ble_eq_true rfl, Nat.le_of_ble_eq_true rfl⟩ ⟨Nat.le_of_ble_eq_true rfl, Nat.le_of_ble_eq_true rfl⟩ (Nat.le_of_ble_eq_true rfl) [] rfl rfl) (fun v17 e17 => ?_)
      refine kr_if_eq h 32 dX0_isTaken_20 (by decide) (fun c20 => ?_) (fun c20 => ?_)
      · refine kr_iload_n h dX0_isTaken_32 rfl 1 rfl ?_
        refine kr_i0 h (kc_rS h (c_isPair l D cI cZ cJ k) mlX0_162 ysX0_isPair dX0_isTaken_33 rfl rfl ⟨Nat.le_of_ble_eq_true rfl, Nat.le_of_ble_eq_true rfl⟩ ⟨Nat.le_of_ble_eq_true rfl, Nat.le_of_ble_eq_true rfl⟩ (Nat.le_of_ble_eq_true rfl) [] rfl rfl) (fun v33 e33 => ?_)
        refine kr_if_eq h 48 dX0_isTaken_36 (by decide) (fun c36 => ?_) (fun c36 => ?_)
        · refine kr_iconst (v := 0) h dX0_isTaken_48 (by decide) ?_
          exact kr_zret h hr hlk dX0_isTaken_49 (rfl) (by first | exact xb_1 (Or.inl ⟨xb_t e1 c4, fun z => c13 (e12.trans z)⟩) | exact xb_1 (Or.inr (Or.inl ⟨xb_t e17 c20, fun z => c29 (e28.trans z)⟩)) | exact xb_1 (Or.inr (Or.inr ⟨xb_t e33 c36, c41⟩)) | exact xb_0 (fun z => z.elim (fun z => by first | exact xb_f e1 c4 z.1 | exact z.2 (e12.symm.trans c13)) (fun z => z.elim (fun z => by first | exact xb_f e17 c20 z.1 | exact z.2 (e28.symm.trans c29)) (fun z => by first | exact xb_f e33 c36 z.1 | exact c41 z.2)))) (rfl)
        · refine kr_iload_n h dX0_isTaken_39 rfl 2 rfl ?_
          refine kr_iload_n h dX0_isTaken_40 rfl 3 rfl ?_
          refine kr_icmp_ne h 48 dX0_isTaken_41 (by decide) (fun c41 => ?_) (fun c41 => ?_)
          · refine kr_iconst (v := 0) h dX0_isTaken_48 (by decide) ?_
            exact kr_zret h hr hlk dX0_isTaken_49 (rfl) (by first | exact xb_1 (Or.inl ⟨xb_t e1 c4, fun z => c13 (e12.trans z)⟩) | exact xb_1 (Or.inr (Or.inl ⟨xb_t e17 c20, fun z => c29 (e28.trans z)⟩)) | exact xb_1 (Or.inr (Or.inr ⟨xb_t e33 c36, c41⟩)) | exact xb_0 (fun z => z.elim (fun z => by first | exact xb_f e1 c4 z.1 | exact z.2 (e12.symm.trans c13)) (fun z => z.elim (fun z => by first | exact xb_f e17 c20 z.1 | exact z.2 (e28.symm.trans c29)) (fun z => by first | exact xb_f e33 c36 z.1 | exact c41 z.2)))) (rfl)
          · refine kr_iconst (v := 1) h dX0_isTaken_44 (by decide) ?_
            refine kr_goto h 49 dX0_isTaken_45 (by decide) ?_
            exact kr_zret h hr hlk dX0_isTaken_49 (rfl) (by first | exact xb_1 (Or.inl ⟨xb_t e1 c4, fun z => c13 (e12.trans z)⟩) | exact xb_1 (Or.inr (Or.inl ⟨xb_t e17 c20, fun z => c29 (e28.trans z)⟩)) | exact xb_1 (Or.inr (Or.inr ⟨xb_t e33 c36, c41⟩)) | exact xb_0 (fun z => z.elim (fun z => by first | exact xb_f e1 c4 z.1 | exact z.2 (e12.symm.trans c13)) (fun z => z.elim (fun z => by first | exact xb_f e17 c20 z.1 | exact z.2 (e28.symm.trans c29)) (fun z => by first | exact xb_f e33 c36 z.1 | exact c41 z.2)))) (rfl)
      · refine kr_aload_n h dX0_isTaken_23 rfl 0 rfl ?_
        refine kr_get h FX0ok 0 5 dX0_isTaken_24 flX0_25 rfl rfl (by decide) rfl rfl ?_
        refine kr_iload_n h dX0_isTaken_27 rfl 3 rfl ?_
        refine kr_zald h 6 1 dX0_isTaken_28 rfl rfl (hb (xb_t e17 c20)) (fun v28 e28 => ?_)
        refine kr_if_ne h 44 dX0_isTaken_29 (by decide) (fun c29 => ?_) (fun c29 => ?_)
        · refine kr_iconst (v := 1) h dX0_isTaken_44 (by decide) ?_
          refine kr_goto h 49 dX0_isTaken_45 (by decide) ?_
          exact kr_zret h hr hlk dX0_isTaken_49 (rfl) (by first | exact xb_1 (Or.inl ⟨xb_t e1 c4, fun z => c13 (e12.trans z)⟩) | exact xb_1 (Or.inr (Or.inl ⟨xb_t e17 c20, fun z => c29 (e28.trans z)⟩)) | exact xb_1 (Or.inr (Or.inr ⟨xb_t e33 c36, c41⟩)) | exact xb_0 (fun z => z.elim (fun z => by first | exact xb_f e1 c4 z.1 | exact z.2 (e12.symm.trans c13)) (fun z => z.elim (fun z => by first | exact xb_f e17 c20 z.1 | exact z.2 (e28.symm.trans c29)) (fun z => by first | exact xb_f e33 c36 z.1 | exact c41 z.2)))) (rfl)
        · refine kr_iload_n h dX0_isTaken_32 rfl 1 rfl ?_
          refine kr_i0 h (kc_rS h (c_isPair l D cI cZ cJ k) mlX0_162 ysX0_isPair dX0_isTaken_33 rfl rfl ⟨Nat.le_of_ble_eq_true rfl, Nat.le_of_ble_eq_true rfl⟩ ⟨Nat.le_of_ble_eq_true rfl, Nat.le_of_ble_eq_true rfl⟩ (Nat.le_of_ble_eq_true rfl) [] rfl rfl) (fun v33 e33 => ?_)
          refine kr_if_eq h 48 dX0_isTaken_36 (by decide) (fun c36 => ?_) (fun c36 => ?_)
          · refine kr_iconst (v := 0) h dX0_isTaken_48 (by decide) ?_
            exact kr_zret h hr hlk dX0_isTaken_49 (rfl) (by first | exact xb_1 (Or.inl ⟨xb_t e1 c4, fun z => c13 (e12.trans z)⟩) | exact xb_1 (Or.inr (Or.inl ⟨xb_t e17 c20, fun z => c29 (e28.trans z)⟩)) | exact xb_1 (Or.inr (Or.inr ⟨xb_t e33 c36, c41⟩)) | exact xb_0 (fun z => z.elim (fun z => by first | exact xb_f e1 c4 z.1 | exact z.2 (e12.symm.trans c13)) (fun z => z.elim (fun z => by first | exact xb_f e17 c20 z.1 | exact z.2 (e28.symm.trans c29)) (fun z => by first | exact xb_f e33 c36 z.1 | exact c41 z.2)))) (rfl)
          · refine kr_iload_n h dX0_isTaken_39 rfl 2 rfl ?_
            refine kr_iload_n h dX0_isTaken_40 rfl 3 rfl ?_
            refine kr_icmp_ne h 48 dX0_isTaken_41 (by decide) (fun c41 => ?_) (fun c41 => ?_)
            · refine kr_iconst (v := 0) h dX0_isTaken_48 (by decide) ?_
              exact kr_zret h hr hlk dX0_isTaken_49 (rfl) (by first | exact xb_1 (Or.inl ⟨xb_t e1 c4, fun z => c13 (e12.trans z)⟩) | exact xb_1 (Or.inr (Or.inl ⟨xb_t e17 c20, fun z => c29 (e28.trans z)⟩)) | exact xb_1 (Or.inr (Or.inr ⟨xb_t e33 c36, c41⟩)) | exact xb_0 (fun z => z.elim (fun z => by first | exact xb_f e1 c4 z.1 | exact z.2 (e12.symm.trans c13)) (fun z => z.elim (fun z => by first | exact xb_f e17 c20 z.1 | exact z.2 (e28.symm.trans c29)) (fun z => by first | exact xb_f e33 c36 z.1 | exact c41 z.2)))) (rfl)
            · refine kr_iconst (v := 1) h dX0_isTaken_44 (by decide) ?_
              refine kr_goto h 49 dX0_isTaken_45 (by decide) ?_
              exact kr_zret h hr hlk dX0_isTaken_49 (rfl) (by first | exact xb_1 (Or.inl ⟨xb_t e1 c4, fun z => c13 (e12.trans z)⟩) | exact xb_1 (Or.inr (Or.inl ⟨xb_t e17 c20, fun z => c29 (e28.trans z)⟩)) | exact xb_1 (Or.inr (Or.inr ⟨xb_t e33 c36, c41⟩)) | exact xb_0 (fun z => z.elim (fun z => by first | exact xb_f e1 c4 z.1 | exact z.2 (e12.symm.trans c13)) (fun z => z.elim (fun z => by first | exact xb_f e17 c20 z.1 | exact z.2 (e28.symm.trans c29)) (fun z => by first | exact xb_f e33 c36 z.1 | exact c41 z.2)))) (rfl)
set_option maxHeartbeats 4000000 in
set_option maxRecDepth 100000 in
theorem c_levelAbove (l : Launch) (D : va_G) (cI cZ cJ : ClassId) (q : Nat → Nat) (x : xSt) (k a b : Int32) (ha : pA k → vp_in a 40) (hb : pB k → vp_in b 40) : kc_M l yX0_levelAbove cX0_levelAbove 6 (some .int) 2 40 0 0 [.ref (q 0), .int k, .int a, .int b] D vwCl (tyL cI cZ cJ) (wX cI cZ q x) (some (.int (xLev x k a b))) (wX cI cZ q (x)) := by
  refine kc_start RX0 (by decide +kernel) rfl (Nat.le_of_ble_eq_true rfl) ?_
  intro zp ze zs zm zb zt zc h hr hlk hnm
  refine kr_iload_n h dX0_levelAbove_0 rfl 1 rfl ?_
  refine kr_i0 h (kc_rS h (c_hasPolicyA l D cI cZ cJ k) mlX0_171 ysX0_hasPolicyA dX0_levelAbove_1 rfl rfl ⟨Nat.le_of_ble_eq_true rfl, Nat.le_of_ble_eq_true rfl⟩ ⟨Nat.le_of_ble_eq_true rfl, Nat.le_of_ble_eq_true rfl⟩ (Nat.le_of_ble_eq_true rfl) [] rfl rfl) (fun v1 e1 => ?_)
  refine kr_if_eq h 16 dX0_levelAbove_4 (by decide) (fun c4 => ?_) (fun c4 => ?_)
  · refine kr_iconst (v := 0) h dX0_levelAbove_16 (by decide) ?_
    refine kr_istore (lv' := [(4, .int 0), (0, .ref (q 0)), (1, .int k), (2, .int a), (3, .int b)]) h dX0_levelAbove_17 (by decide) rfl ?_
    refine kr_iload_n h dX0_levelAbove_19 rfl 2 rfl ?_
    refine kr_i0 h (kc_rS h (c_hasPolicyB l D cI cZ cJ k) mlX0_174 ysX0_hasPolicyB dX0_levelAbove_20 rfl rfl ⟨Nat.le_of_ble_eq_true rfl, Nat.le_of_ble_eq_true rfl⟩ ⟨Nat.le_of_ble_eq_true rfl, Nat.le_of_ble_eq_true rfl⟩ (Nat.le_of_ble_eq_true rfl) [] rfl rfl) (fun v20 e20 => ?_)
    refine kr_if_eq h 35 dX0_levelAbove_23 (by decide) (fun c23 => ?_) (fun c23 => ?_)
    · refine kr_iconst (v := 0) h dX0_levelAbove_35 (by decide) ?_
      refine kr_istore (lv' := [(5, .int 0), (4, .int 0), (0, .ref (q 0)), (1, .int k), (2, .int a), (3, .int b)]) h dX0_levelAbove_36 (by decide) rfl ?_
      refine kr_iload h dX0_levelAbove_38 1 rfl ?_
      refine kr_iload h dX0_levelAbove_40 0 rfl ?_
      refine kr_mmax h mlX0_177 ys_mmax dX0_levelAbove_42 (Nat.le_of_ble_eq_true rfl) (Nat.le_of_ble_eq_true rfl) (Nat.zero_le _) (Nat.zero_le _) (fun v42 e42 => ?_)
      refine kr_iconst (v := 1) h dX0_levelAbove_45 (by decide) ?_
      refine kr_iadd h dX0_levelAbove_46 (fun v46 e46 => ?_)
      exact kr_iret h hr hlk dX0_levelAbove_47 (by rw [e46, e42, xLev, xLa, xLb]; first | rw [if_pos (xb_t e1 c4), if_pos (xb_t e20 c23), e12, e31] | rw [if_pos (xb_t e1 c4), if_neg (xb_f e20 c23), e12] | rw [if_neg (xb_f e1 c4), if_pos (xb_t e20 c23), e31] | rw [if_neg (xb_f e1 c4), if_neg (xb_f e20 c23)]) (rfl)
    · refine kr_aload_n h dX0_levelAbove_26 rfl 1 rfl ?_
      refine kr_get h FX0ok 0 4 dX0_levelAbove_27 flX0_22 rfl rfl (by decide) rfl rfl ?_
      refine kr_iload_n h dX0_levelAbove_30 rfl 4 rfl ?_
      refine kr_iald h 5 0 dX0_levelAbove_31 rfl rfl (hb (xb_t e20 c23)) (fun v31 e31 => ?_)
      refine kr_goto h 36 dX0_levelAbove_32 (by decide) ?_
      refine kr_istore (lv' := [(5, .int v31), (4, .int 0), (0, .ref (q 0)), (1, .int k), (2, .int a), (3, .int b)]) h dX0_levelAbove_36 (by decide) rfl ?_
      refine kr_iload h dX0_levelAbove_38 1 rfl ?_
      refine kr_iload h dX0_levelAbove_40 0 rfl ?_
      refine kr_mmax h mlX0_177 ys_mmax dX0_levelAbove_42 (Nat.le_of_ble_eq_true rfl) (Nat.le_of_ble_eq_true rfl) (Nat.zero_le _) (Nat.zero_le _) (fun v42 e42 => ?_)
      refine kr_iconst (v := 1) h dX0_levelAbove_45 (by decide) ?_
      refine kr_iadd h dX0_levelAbove_46 (fun v46 e46 => ?_)
      exact kr_iret h hr hlk dX0_levelAbove_47 (by rw [e46, e42, xLev, xLa, xLb]; first | rw [if_pos (xb_t e1 c4), if_pos (xb_t e20 c23), e12, e31] | rw [if_pos (xb_t e1 c4), if_neg (xb_f e20 c23), e12] | rw [if_neg (xb_f e1 c4), if_pos (xb_t e20 c23), e31] | rw [if_neg (xb_f e1 c4), if_neg (xb_f e20 c23)]) (rfl)
  · refine kr_aload_n h dX0_levelAbove_7 rfl 0 rfl ?_
    refine kr_get h FX0ok 0 4 dX0_levelAbove_8 flX0_22 rfl rfl (by decide) rfl rfl ?_
    refine kr_iload_n h dX0_levelAbove_11 rfl 2 rfl ?_
    refine kr_iald h 5 0 dX0_levelAbove_12 rfl rfl (ha (xb_t e1 c4)) (fun v12 e12 => ?_)
    refine kr_goto h 17 dX0_levelAbove_13 (by decide) ?_
    refine kr_istore (lv' := [(4, .int v12), (0, .ref (q 0)), (1, .int k), (2, .int a), (3, .int b)]) h dX0_levelAbove_17 (by decide) rfl ?_
    refine kr_iload_n h dX0_levelAbove_19 rfl 2 rfl ?_
    refine kr_i0 h (kc_rS h (c_hasPolicyB l D cI cZ cJ k) mlX0_174 ysX0_hasPolicyB dX0_levelAbove_20 rfl rfl ⟨Nat.le_of_ble_eq_true rfl, Nat.le_of_ble_eq_true rfl⟩ ⟨Nat.le_of_ble_eq_true rfl, Nat.le_of_ble_eq_true rfl⟩ (Nat.le_of_ble_eq_true rfl) [] rfl rfl) (fun v20 e20 => ?_)
    refine kr_if_eq h 35 dX0_levelAbove_23 (by decide) (fun c23 => ?_) (fun c23 => ?_)
    · refine kr_iconst (v := 0) h dX0_levelAbove_35 (by decide) ?_
      refine kr_istore (lv' := [(5, .int 0), (4, .int v12), (0, .ref (q 0)), (1, .int k), (2, .int a), (3, .int b)]) h dX0_levelAbove_36 (by decide) rfl ?_
      refine kr_iload h dX0_levelAbove_38 1 rfl ?_
      refine kr_iload h dX0_levelAbove_40 0 rfl ?_
      refine kr_mmax h mlX0_177 ys_mmax dX0_levelAbove_42 (Nat.le_of_ble_eq_true rfl) (Nat.le_of_ble_eq_true rfl) (Nat.zero_le _) (Nat.zero_le _) (fun v42 e42 => ?_)
      refine kr_iconst (v := 1) h dX0_levelAbove_45 (by decide) ?_
      refine kr_iadd h dX0_levelAbove_46 (fun v46 e46 => ?_)
      exact kr_iret h hr hlk dX0_levelAbove_47 (by rw [e46, e42, xLev, xLa, xLb]; first | rw [if_pos (xb_t e1 c4), if_pos (xb_t e20 c23), e12, e31] | rw [if_pos (xb_t e1 c4), if_neg (xb_f e20 c23), e12] | rw [if_neg (xb_f e1 c4), if_pos (xb_t e20 c23), e31] | rw [if_neg (xb_f e1 c4), if_neg (xb_f e20 c23)]) (rfl)
    · refine kr_aload_n h dX0_levelAbove_26 rfl 1 rfl ?_
      refine kr_get h FX0ok 0 4 dX0_levelAbove_27 flX0_22 rfl rfl (by decide) rfl rfl ?_
      refine kr_iload_n h dX0_levelAbove_30 rfl 4 rfl ?_
      refine kr_iald h 5 0 dX0_levelAbove_31 rfl rfl (hb (xb_t e20 c23)) (fun v31 e31 => ?_)
      refine kr_goto h 36 dX0_levelAbove_32 (by decide) ?_
      refine kr_istore (lv' := [(5, .int v31), (4, .int v12), (0, .ref (q 0)), (1, .int k), (2, .int a), (3, .int b)]) h dX0_levelAbove_36 (by decide) rfl ?_
      refine kr_iload h dX0_levelAbove_38 1 rfl ?_
      refine kr_iload h dX0_levelAbove_40 0 rfl ?_
      refine kr_mmax h mlX0_177 ys_mmax dX0_levelAbove_42 (Nat.le_of_ble_eq_true rfl) (Nat.le_of_ble_eq_true rfl) (Nat.zero_le _) (Nat.zero_le _) (fun v42 e42 => ?_)
      refine kr_iconst (v := 1) h dX0_levelAbove_45 (by decide) ?_
      refine kr_iadd h dX0_levelAbove_46 (fun v46 e46 => ?_)
      exact kr_iret h hr hlk dX0_levelAbove_47 (by rw [e46, e42, xLev, xLa, xLb]; first | rw [if_pos (xb_t e1 c4), if_pos (xb_t e20 c23), e12, e31] | rw [if_pos (xb_t e1 c4), if_neg (xb_f e20 c23), e12] | rw [if_neg (xb_f e1 c4), if_pos (xb_t e20 c23), e31] | rw [if_neg (xb_f e1 c4), if_neg (xb_f e20 c23)]) (rfl)
set_option maxHeartbeats 4000000 in
set_option maxRecDepth 100000 in
theorem c_addPolicy (l : Launch) (D : va_G) (cI cZ cJ : ClassId) (q : Nat → Nat) (x : xSt) (k a b c v : Int32) (hn : vp_in (x.2 0) 40) (ha : pA k → vp_in a 40) (hb : pB k → vp_in b 40) : kc_M l yX0_addPolicy cX0_addPolicy 7 (some .int) 2 40 0 0 [.ref (q 0), .int k, .int a, .int b, .int c, .int v] D vwCl (tyL cI cZ cJ) (wX cI cZ q x) (some (.int (x.2 0))) (wX cI cZ q (xAdd x k a b c v)) := by
  refine kc_start RX0 (by decide +kernel) rfl (Nat.le_of_ble_eq_true rfl) ?_
  intro zp ze zs zm zb zt zc h hr hlk hnm
  refine kr_aload_n h dX0_addPolicy_0 rfl 0 rfl ?_
  refine kr_get h FX0ok 0 11 dX0_addPolicy_1 flX0_93 rfl rfl (by decide) rfl rfl ?_
  refine kr_top h (fun v1 e1 => ?_)
  refine kr_istore (lv' := [(6, .int v1), (0, .ref (q 0)), (1, .int k), (2, .int a), (3, .int b), (4, .int c), (5, .int v)]) h dX0_addPolicy_4 (by decide) rfl ?_
  refine kr_aload_n h dX0_addPolicy_6 rfl 1 rfl ?_
  refine kr_get h FX0ok 0 0 dX0_addPolicy_7 flX0_9 rfl rfl (by decide) rfl rfl ?_
  refine kr_iload h dX0_addPolicy_10 0 rfl ?_
  refine kr_iload_n h dX0_addPolicy_12 rfl 2 rfl ?_
  refine kr_iast (ws' := wX cI cZ q (xA x 0 (upd (x.1 0) (tn v1) k))) h 1 0 dX0_addPolicy_13 rfl rfl (by rw [e1]; exact hn) (wX_r0 cI cZ q x _) ?_
  generalize ex13 : (xA x 0 (upd (x.1 0) (tn v1) k)) = x13
  refine kr_aload_n h dX0_addPolicy_14 rfl 1 rfl ?_
  refine kr_get h FX0ok 0 1 dX0_addPolicy_15 flX0_13 rfl rfl (by decide) rfl rfl ?_
  refine kr_iload h dX0_addPolicy_18 0 rfl ?_
  refine kr_iload_n h dX0_addPolicy_20 rfl 3 rfl ?_
  refine kr_iast (ws' := wX cI cZ q (xA x13 1 (upd (x13.1 1) (tn v1) a))) h 2 0 dX0_addPolicy_21 rfl rfl (by rw [e1]; exact hn) (wX_r1 cI cZ q x13 _) ?_
  generalize ex21 : (xA x13 1 (upd (x13.1 1) (tn v1) a)) = x21
  refine kr_aload_n h dX0_addPolicy_22 rfl 1 rfl ?_
  refine kr_get h FX0ok 0 2 dX0_addPolicy_23 flX0_16 rfl rfl (by decide) rfl rfl ?_
  refine kr_iload h dX0_addPolicy_26 0 rfl ?_
  refine kr_iload_n h dX0_addPolicy_28 rfl 4 rfl ?_
  refine kr_iast (ws' := wX cI cZ q (xA x21 2 (upd (x21.1 2) (tn v1) b))) h 3 0 dX0_addPolicy_29 rfl rfl (by rw [e1]; exact hn) (wX_r2 cI cZ q x21 _) ?_
  generalize ex29 : (xA x21 2 (upd (x21.1 2) (tn v1) b)) = x29
  refine kr_aload_n h dX0_addPolicy_30 rfl 1 rfl ?_
  refine kr_get h FX0ok 0 3 dX0_addPolicy_31 flX0_19 rfl rfl (by decide) rfl rfl ?_
  refine kr_iload h dX0_addPolicy_34 0 rfl ?_
  refine kr_iload h dX0_addPolicy_36 5 rfl ?_
  refine kr_iast (ws' := wX cI cZ q (xA x29 3 (upd (x29.1 3) (tn v1) c))) h 4 0 dX0_addPolicy_38 rfl rfl (by rw [e1]; exact hn) (wX_r3 cI cZ q x29 _) ?_
  generalize ex38 : (xA x29 3 (upd (x29.1 3) (tn v1) c)) = x38
  refine kr_aload_n h dX0_addPolicy_39 rfl 1 rfl ?_
  refine kr_get h FX0ok 0 4 dX0_addPolicy_40 flX0_22 rfl rfl (by decide) rfl rfl ?_
  refine kr_iload h dX0_addPolicy_43 0 rfl ?_
  refine kr_iload h dX0_addPolicy_45 6 rfl ?_
  refine kr_iast (ws' := wX cI cZ q (xA x38 4 (upd (x38.1 4) (tn v1) v))) h 5 0 dX0_addPolicy_47 rfl rfl (by rw [e1]; exact hn) (wX_r4 cI cZ q x38 _) ?_
  generalize ex47 : (xA x38 4 (upd (x38.1 4) (tn v1) v)) = x47
  refine kr_iload_n h dX0_addPolicy_48 rfl 2 rfl ?_
  refine kr_i0 h (kc_rS h (c_hasPolicyA l D cI cZ cJ k) mlX0_171 ysX0_hasPolicyA dX0_addPolicy_49 rfl rfl ⟨Nat.le_of_ble_eq_true rfl, Nat.le_of_ble_eq_true rfl⟩ ⟨Nat.le_of_ble_eq_true rfl, Nat.le_of_ble_eq_true rfl⟩ (Nat.le_of_ble_eq_true rfl) [] rfl rfl) (fun v49 e49 => ?_)
  refine kr_if_eq h 62 dX0_addPolicy_52 (by decide) (fun c52 => ?_) (fun c52 => ?_)
  · refine kr_iload_n h dX0_addPolicy_62 rfl 2 rfl ?_
    refine kr_i0 h (kc_rS h (c_hasPolicyB l D cI cZ cJ k) mlX0_174 ysX0_hasPolicyB dX0_addPolicy_63 rfl rfl ⟨Nat.le_of_ble_eq_true rfl, Nat.le_of_ble_eq_true rfl⟩ ⟨Nat.le_of_ble_eq_true rfl, Nat.le_of_ble_eq_true rfl⟩ (Nat.le_of_ble_eq_true rfl) [] rfl rfl) (fun v63 e63 => ?_)
    refine kr_if_eq h 76 dX0_addPolicy_66 (by decide) (fun c66 => ?_) (fun c66 => ?_)
    · refine kr_aload_n h dX0_addPolicy_76 rfl 1 rfl ?_
      refine kr_dup h dX0_addPolicy_77 rfl ?_
      refine kr_get h FX0ok 0 11 dX0_addPolicy_78 flX0_93 rfl rfl (by decide) rfl rfl ?_
      refine kr_top h (fun v78 e78 => ?_)
      refine kr_iconst (v := 1) h dX0_addPolicy_81 (by decide) ?_
      refine kr_iadd h dX0_addPolicy_82 (fun v82 e82 => ?_)
      refine kr_put (ws' := wX cI cZ q (xI x47 0 v82)) h FX0ok 0 11 dX0_addPolicy_83 flX0_93 rfl rfl (by decide) rfl rfl rfl rfl (Nat.le_of_ble_eq_true rfl) rfl ?_
      generalize ex83 : (xI x47 0 v82) = x83
      refine kr_iload h dX0_addPolicy_86 0 rfl ?_
      exact kr_iret h hr hlk dX0_addPolicy_88 (e1) (by clear h hr hlk hnm; first | (have hA := xb_t e49 c52; have hB := xb_t e63 c66; clear e49 c52 e63 c66; subst_vars; rw [xAdd, xU, xU, if_pos hA, if_pos hB]; rfl) | (have hA := xb_t e49 c52; have hB := xb_f e63 c66; clear e49 c52 e63 c66; subst_vars; rw [xAdd, xU, xU, if_pos hA, if_neg hB]; rfl) | (have hA := xb_f e49 c52; have hB := xb_t e63 c66; clear e49 c52 e63 c66; subst_vars; rw [xAdd, xU, xU, if_neg hA, if_pos hB]; rfl) | (have hA := xb_f e49 c52; have hB := xb_f e63 c66; clear e49 c52 e63 c66; subst_vars; rw [xAdd, xU, xU, if_neg hA, if_neg hB]; rfl))
    · refine kr_aload_n h dX0_addPolicy_69 rfl 1 rfl ?_
      refine kr_get h FX0ok 0 5 dX0_addPolicy_70 flX0_25 rfl rfl (by decide) rfl rfl ?_
      refine kr_iload_n h dX0_addPolicy_73 rfl 4 rfl ?_
      refine kr_iconst (v := 1) h dX0_addPolicy_74 (by decide) ?_
      refine kr_zastN (ws' := wX cI cZ q (xA x47 5 (upd (x47.1 5) (tn b) 1))) h 6 1 kc_n1 dX0_addPolicy_75 rfl rfl (hb (xb_t e63 c66)) (wX_r5 cI cZ q x47 _) ?_
      generalize ex75 : (xA x47 5 (upd (x47.1 5) (tn b) 1)) = x75
      refine kr_aload_n h dX0_addPolicy_76 rfl 1 rfl ?_
      refine kr_dup h dX0_addPolicy_77 rfl ?_
      refine kr_get h FX0ok 0 11 dX0_addPolicy_78 flX0_93 rfl rfl (by decide) rfl rfl ?_
      refine kr_top h (fun v78 e78 => ?_)
      refine kr_iconst (v := 1) h dX0_addPolicy_81 (by decide) ?_
      refine kr_iadd h dX0_addPolicy_82 (fun v82 e82 => ?_)
      refine kr_put (ws' := wX cI cZ q (xI x75 0 v82)) h FX0ok 0 11 dX0_addPolicy_83 flX0_93 rfl rfl (by decide) rfl rfl rfl rfl (Nat.le_of_ble_eq_true rfl) rfl ?_
      generalize ex83 : (xI x75 0 v82) = x83
      refine kr_iload h dX0_addPolicy_86 0 rfl ?_
      exact kr_iret h hr hlk dX0_addPolicy_88 (e1) (by clear h hr hlk hnm; first | (have hA := xb_t e49 c52; have hB := xb_t e63 c66; clear e49 c52 e63 c66; subst_vars; rw [xAdd, xU, xU, if_pos hA, if_pos hB]; rfl) | (have hA := xb_t e49 c52; have hB := xb_f e63 c66; clear e49 c52 e63 c66; subst_vars; rw [xAdd, xU, xU, if_pos hA, if_neg hB]; rfl) | (have hA := xb_f e49 c52; have hB := xb_t e63 c66; clear e49 c52 e63 c66; subst_vars; rw [xAdd, xU, xU, if_neg hA, if_pos hB]; rfl) | (have hA := xb_f e49 c52; have hB := xb_f e63 c66; clear e49 c52 e63 c66; subst_vars; rw [xAdd, xU, xU, if_neg hA, if_neg hB]; rfl))
  · refine kr_aload_n h dX0_addPolicy_55 rfl 1 rfl ?_
    refine kr_get h FX0ok 0 5 dX0_addPolicy_56 flX0_25 rfl rfl (by decide) rfl rfl ?_
    refine kr_iload_n h dX0_addPolicy_59 rfl 3 rfl ?_
    refine kr_iconst (v := 1) h dX0_addPolicy_60 (by decide) ?_
    refine kr_zastN (ws' := wX cI cZ q (xA x47 5 (upd (x47.1 5) (tn a) 1))) h 6 1 kc_n1 dX0_addPolicy_61 rfl rfl (ha (xb_t e49 c52)) (wX_r5 cI cZ q x47 _) ?_
    generalize ex61 : (xA x47 5 (upd (x47.1 5) (tn a) 1)) = x61
    refine kr_iload_n h dX0_addPolicy_62 rfl 2 rfl ?_
    refine kr_i0 h (kc_rS h (c_hasPolicyB l D cI cZ cJ k) mlX0_174 ysX0_hasPolicyB dX0_addPolicy_63 rfl rfl ⟨Nat.le_of_ble_eq_true rfl, Nat.le_of_ble_eq_true rfl⟩ ⟨Nat.le_of_ble_eq_true rfl, Nat.le_of_ble_eq_true rfl⟩ (Nat.le_of_ble_eq_true rfl) [] rfl rfl) (fun v63 e63 => ?_)
    refine kr_if_eq h 76 dX0_addPolicy_66 (by decide) (fun c66 => ?_) (fun c66 => ?_)
    · refine kr_aload_n h dX0_addPolicy_76 rfl 1 rfl ?_
      refine kr_dup h dX0_addPolicy_77 rfl ?_
      refine kr_get h FX0ok 0 11 dX0_addPolicy_78 flX0_93 rfl rfl (by decide) rfl rfl ?_
      refine kr_top h (fun v78 e78 => ?_)
      refine kr_iconst (v := 1) h dX0_addPolicy_81 (by decide) ?_
      refine kr_iadd h dX0_addPolicy_82 (fun v82 e82 => ?_)
      refine kr_put (ws' := wX cI cZ q (xI x61 0 v82)) h FX0ok 0 11 dX0_addPolicy_83 flX0_93 rfl rfl (by decide) rfl rfl rfl rfl (Nat.le_of_ble_eq_true rfl) rfl ?_
      generalize ex83 : (xI x61 0 v82) = x83
      refine kr_iload h dX0_addPolicy_86 0 rfl ?_
      exact kr_iret h hr hlk dX0_addPolicy_88 (e1) (by clear h hr hlk hnm; first | (have hA := xb_t e49 c52; have hB := xb_t e63 c66; clear e49 c52 e63 c66; subst_vars; rw [xAdd, xU, xU, if_pos hA, if_pos hB]; rfl) | (have hA := xb_t e49 c52; have hB := xb_f e63 c66; clear e49 c52 e63 c66; subst_vars; rw [xAdd, xU, xU, if_pos hA, if_neg hB]; rfl) | (have hA := xb_f e49 c52; have hB := xb_t e63 c66; clear e49 c52 e63 c66; subst_vars; rw [xAdd, xU, xU, if_neg hA, if_pos hB]; rfl) | (have hA := xb_f e49 c52; have hB := xb_f e63 c66; clear e49 c52 e63 c66; subst_vars; rw [xAdd, xU, xU, if_neg hA, if_neg hB]; rfl))
    · refine kr_aload_n h dX0_addPolicy_69 rfl 1 rfl ?_
      refine kr_get h FX0ok 0 5 dX0_addPolicy_70 flX0_25 rfl rfl (by decide) rfl rfl ?_
      refine kr_iload_n h dX0_addPolicy_73 rfl 4 rfl ?_
      refine kr_iconst (v := 1) h dX0_addPolicy_74 (by decide) ?_
      refine kr_zastN (ws' := wX cI cZ q (xA x61 5 (upd (x61.1 5) (tn b) 1))) h 6 1 kc_n1 dX0_addPolicy_75 rfl rfl (hb (xb_t e63 c66)) (wX_r5 cI cZ q x61 _) ?_
      generalize ex75 : (xA x61 5 (upd (x61.1 5) (tn b) 1)) = x75
      refine kr_aload_n h dX0_addPolicy_76 rfl 1 rfl ?_
      refine kr_dup h dX0_addPolicy_77 rfl ?_
      refine kr_get h FX0ok 0 11 dX0_addPolicy_78 flX0_93 rfl rfl (by decide) rfl rfl ?_
      refine kr_top h (fun v78 e78 => ?_)
      refine kr_iconst (v := 1) h dX0_addPolicy_81 (by decide) ?_
      refine kr_iadd h dX0_addPolicy_82 (fun v82 e82 => ?_)
      refine kr_put (ws' := wX cI cZ q (xI x75 0 v82)) h FX0ok 0 11 dX0_addPolicy_83 flX0_93 rfl rfl (by decide) rfl rfl rfl rfl (Nat.le_of_ble_eq_true rfl) rfl ?_
      generalize ex83 : (xI x75 0 v82) = x83
      refine kr_iload h dX0_addPolicy_86 0 rfl ?_
      exact kr_iret h hr hlk dX0_addPolicy_88 (e1) (by clear h hr hlk hnm; first | (have hA := xb_t e49 c52; have hB := xb_t e63 c66; clear e49 c52 e63 c66; subst_vars; rw [xAdd, xU, xU, if_pos hA, if_pos hB]; rfl) | (have hA := xb_t e49 c52; have hB := xb_f e63 c66; clear e49 c52 e63 c66; subst_vars; rw [xAdd, xU, xU, if_pos hA, if_neg hB]; rfl) | (have hA := xb_f e49 c52; have hB := xb_t e63 c66; clear e49 c52 e63 c66; subst_vars; rw [xAdd, xU, xU, if_neg hA, if_pos hB]; rfl) | (have hA := xb_f e49 c52; have hB := xb_f e63 c66; clear e49 c52 e63 c66; subst_vars; rw [xAdd, xU, xU, if_neg hA, if_neg hB]; rfl))
set_option maxHeartbeats 4000000 in
set_option maxRecDepth 100000 in
theorem c_state (l : Launch) (D : va_G) (cI cZ cJ : ClassId) (q : Nat → Nat) (x : xSt) (p : Int32) (hN : xN x) : kc_M l yX0_state cX0_state 3 (some .int) 2 42 0 0 [.ref (q 0), .int p] D vwCl (tyL cI cZ cJ) (wX cI cZ q x) (some (.int (xState x p))) (wX cI cZ q (x)) := by
  refine kc_start RX0 (by decide +kernel) rfl (Nat.le_of_ble_eq_true rfl) ?_
  intro zp ze zs zm zb zt zc h hr hlk hnm
  refine kr_aload_n h dX0_state_0 rfl 0 rfl ?_
  refine kr_iload_n h dX0_state_1 rfl 1 rfl ?_
  refine kr_iA h (kc_rV h (c_isPolicy l D cI cZ cJ q x p) mlX0_105 yvX0_isPolicy dX0_state_2 rfl rfl ⟨Nat.le_of_ble_eq_true rfl, Nat.le_of_ble_eq_true rfl⟩ ⟨Nat.le_of_ble_eq_true rfl, Nat.le_of_ble_eq_true rfl⟩ (Nat.le_of_ble_eq_true rfl) [0, 1, 2, 3, 4, 5, 6, 7, 8, 9, 10, 11] rfl rfl 0 rfl rfl rfl) (fun v2 e2 => ?_)
  refine kr_if_ne h 10 dX0_state_5 (by decide) (fun c5 => ?_) (fun c5 => ?_)
  · refine kr_aload_n h dX0_state_10 rfl 0 rfl ?_
    refine kr_get h FX0ok 0 0 dX0_state_11 flX0_9 rfl rfl (by decide) rfl rfl ?_
    refine kr_iload_n h dX0_state_14 rfl 1 rfl ?_
    refine kr_iald h 1 0 dX0_state_15 rfl rfl (xN_in hN (xb_t e2 c5)) (fun v15 e15 => ?_)
    refine kr_iconst (v := 3) h dX0_state_16 (by decide) ?_
    refine kr_icmp_eq h 31 dX0_state_17 (by decide) (fun c17 => ?_) (fun c17 => ?_)
    · refine kr_iconst (v := 1) h dX0_state_31 (by decide) ?_
      refine kr_goto h 36 dX0_state_32 (by decide) ?_
      refine kr_istore_n (lv' := [(2, .int 1), (0, .ref (q 0)), (1, .int p)]) h dX0_state_36 rfl (by decide) rfl ?_
      refine kr_iload_n h dX0_state_37 rfl 0 rfl ?_
      refine kr_if_eq h 50 dX0_state_38 (by decide) (fun c38 => ?_) (fun c38 => ?_)
      · exact absurd c38 (by decide)
      · refine kr_aload_n h dX0_state_41 rfl 1 rfl ?_
        refine kr_get h FX0ok 0 6 dX0_state_42 flX0_29 rfl rfl (by decide) rfl rfl ?_
        refine kr_iload_n h dX0_state_45 rfl 2 rfl ?_
        refine kr_iald h 7 0 dX0_state_46 rfl rfl (xN_in hN (xb_t e2 c5)) (fun v46 e46 => ?_)
        refine kr_goto h 51 dX0_state_47 (by decide) ?_
        exact kr_iret h hr hlk dX0_state_51 (by rw [xState, if_pos (xb_t e2 c5)]; first | (rw [if_pos (Or.inl (e15.symm.trans c17))]; exact e46) | (rw [if_pos (Or.inr (e25.symm.trans c28))]; exact e46) | (rw [if_neg (fun z => z.elim (fun z => c17 (e15.trans z)) (fun z => c28 (e25.trans z)))])) (rfl)
    · refine kr_aload_n h dX0_state_20 rfl 0 rfl ?_
      refine kr_get h FX0ok 0 0 dX0_state_21 flX0_9 rfl rfl (by decide) rfl rfl ?_
      refine kr_iload_n h dX0_state_24 rfl 1 rfl ?_
      refine kr_iald h 1 0 dX0_state_25 rfl rfl (xN_in hN (xb_t e2 c5)) (fun v25 e25 => ?_)
      refine kr_bipush (v := 6) h dX0_state_26 (by decide) ?_
      refine kr_icmp_ne h 35 dX0_state_28 (by decide) (fun c28 => ?_) (fun c28 => ?_)
      · refine kr_iconst (v := 0) h dX0_state_35 (by decide) ?_
        refine kr_istore_n (lv' := [(2, .int 0), (0, .ref (q 0)), (1, .int p)]) h dX0_state_36 rfl (by decide) rfl ?_
        refine kr_iload_n h dX0_state_37 rfl 0 rfl ?_
        refine kr_if_eq h 50 dX0_state_38 (by decide) (fun c38 => ?_) (fun c38 => ?_)
        · refine kr_iconst (v := (-1)) h dX0_state_50 (by decide) ?_
          exact kr_iret h hr hlk dX0_state_51 (by rw [xState, if_pos (xb_t e2 c5)]; first | (rw [if_pos (Or.inl (e15.symm.trans c17))]; exact e46) | (rw [if_pos (Or.inr (e25.symm.trans c28))]; exact e46) | (rw [if_neg (fun z => z.elim (fun z => c17 (e15.trans z)) (fun z => c28 (e25.trans z)))])) (rfl)
        · exact absurd c38 (by decide)
      · refine kr_iconst (v := 1) h dX0_state_31 (by decide) ?_
        refine kr_goto h 36 dX0_state_32 (by decide) ?_
        refine kr_istore_n (lv' := [(2, .int 1), (0, .ref (q 0)), (1, .int p)]) h dX0_state_36 rfl (by decide) rfl ?_
        refine kr_iload_n h dX0_state_37 rfl 0 rfl ?_
        refine kr_if_eq h 50 dX0_state_38 (by decide) (fun c38 => ?_) (fun c38 => ?_)
        · exact absurd c38 (by decide)
        · refine kr_aload_n h dX0_state_41 rfl 1 rfl ?_
          refine kr_get h FX0ok 0 6 dX0_state_42 flX0_29 rfl rfl (by decide) rfl rfl ?_
          refine kr_iload_n h dX0_state_45 rfl 2 rfl ?_
          refine kr_iald h 7 0 dX0_state_46 rfl rfl (xN_in hN (xb_t e2 c5)) (fun v46 e46 => ?_)
          refine kr_goto h 51 dX0_state_47 (by decide) ?_
          exact kr_iret h hr hlk dX0_state_51 (by rw [xState, if_pos (xb_t e2 c5)]; first | (rw [if_pos (Or.inl (e15.symm.trans c17))]; exact e46) | (rw [if_pos (Or.inr (e25.symm.trans c28))]; exact e46) | (rw [if_neg (fun z => z.elim (fun z => c17 (e15.trans z)) (fun z => c28 (e25.trans z)))])) (rfl)
  · refine kr_iconst (v := (-1)) h dX0_state_8 (by decide) ?_
    exact kr_iret h hr hlk dX0_state_9 (by rw [xState, if_neg (xb_f e2 c5)]) (rfl)
set_option maxHeartbeats 4000000 in
set_option maxRecDepth 100000 in
theorem c_noted (l : Launch) (D : va_G) (cI cZ cJ : ClassId) (q : Nat → Nat) (x : xSt) (k : Int32) : kc_M l yX0_noted cX0_noted 2 (some .int) 1 22 0 0 [.ref (q 0), .int k] D vwCl (tyL cI cZ cJ) (wX cI cZ q x) (some (.int (xNoted x k))) (wX cI cZ q (x)) := by
  refine kc_start RX0 (by decide +kernel) rfl (Nat.le_of_ble_eq_true rfl) ?_
  intro zp ze zs zm zb zt zc h hr hlk hnm
  refine kr_iload_n h dX0_noted_0 rfl 1 rfl ?_
  refine kr_bipush (v := 16) h dX0_noted_1 (by decide) ?_
  refine kr_i0 h (kc_rS h (c_isBelow l D cI cZ cJ k 16) mlX0_52 ysX0_isBelow dX0_noted_3 rfl rfl ⟨Nat.le_of_ble_eq_true rfl, Nat.le_of_ble_eq_true rfl⟩ ⟨Nat.le_of_ble_eq_true rfl, Nat.le_of_ble_eq_true rfl⟩ (Nat.le_of_ble_eq_true rfl) [] rfl rfl) (fun v3 e3 => ?_)
  refine kr_if_eq h 17 dX0_noted_6 (by decide) (fun c6 => ?_) (fun c6 => ?_)
  · refine kr_iconst (v := (-1)) h dX0_noted_17 (by decide) ?_
    exact kr_iret h hr hlk dX0_noted_18 (by first | rw [xNoted, if_neg (fun z => xb_f e3 c6 z.1)] | rw [xNoted, if_neg (fun z => c14 (by rw [e11]; exact z.2))]) (rfl)
  · refine kr_iload_n h dX0_noted_9 rfl 1 rfl ?_
    refine kr_aload_n h dX0_noted_10 rfl 0 rfl ?_
    refine kr_get h FX0ok 0 12 dX0_noted_11 flX0_148 rfl rfl (by decide) rfl rfl ?_
    refine kr_top h (fun v11 e11 => ?_)
    refine kr_icmp_lt h 19 dX0_noted_14 (by decide) (fun c14 => ?_) (fun c14 => ?_)
    · refine kr_aload_n h dX0_noted_19 rfl 0 rfl ?_
      refine kr_get h FX0ok 0 10 dX0_noted_20 flX0_41 rfl rfl (by decide) rfl rfl ?_
      refine kr_aload_n h dX0_noted_23 rfl 0 rfl ?_
      refine kr_get h FX0ok 0 12 dX0_noted_24 flX0_148 rfl rfl (by decide) rfl rfl ?_
      refine kr_top h (fun v24 e24 => ?_)
      refine kr_iconst (v := 1) h dX0_noted_27 (by decide) ?_
      refine kr_isub h dX0_noted_28 (fun v28 e28 => ?_)
      refine kr_iload_n h dX0_noted_29 rfl 1 rfl ?_
      refine kr_isub h dX0_noted_30 (fun v30 e30 => ?_)
      refine kr_bipush (v := 16) h dX0_noted_31 (by decide) ?_
      refine kr_i0 h (kc_rS h (c_floorMod l D cI cZ cJ v30 16 (by decide)) mlX0_151 ysJ9_floorMod dX0_noted_33 rfl rfl ⟨Nat.le_of_ble_eq_true rfl, Nat.le_of_ble_eq_true rfl⟩ ⟨Nat.le_of_ble_eq_true rfl, Nat.le_of_ble_eq_true rfl⟩ (Nat.le_of_ble_eq_true rfl) [] rfl rfl) (fun v33 e33 => ?_)
      refine kr_iald h 11 0 dX0_noted_36 rfl rfl (by rw [e33]; exact xF16_in _) (fun v36 e36 => ?_)
      exact kr_iret h hr hlk dX0_noted_37 (by rw [xNoted, if_pos ⟨xb_t e3 c6, by rw [← e11]; exact c14⟩, e36, e33, e30, e28, e24]) (rfl)
    · refine kr_iconst (v := (-1)) h dX0_noted_17 (by decide) ?_
      exact kr_iret h hr hlk dX0_noted_18 (by first | rw [xNoted, if_neg (fun z => xb_f e3 c6 z.1)] | rw [xNoted, if_neg (fun z => c14 (by rw [e11]; exact z.2))]) (rfl)
set_option maxHeartbeats 4000000 in
set_option maxRecDepth 100000 in
theorem c_count (l : Launch) (D : va_G) (cI cZ cJ : ClassId) (q : Nat → Nat) (x : xSt) (w : Int32) : kc_M l yX0_count cX0_count 2 (some .int) 0 0 0 0 [.ref (q 0), .int w] D vwCl (tyL cI cZ cJ) (wX cI cZ q x) (some (.int (xCount x w))) (wX cI cZ q (x)) := by
  refine kc_start RX0 (by decide +kernel) rfl (Nat.le_of_ble_eq_true rfl) ?_
  intro zp ze zs zm zb zt zc h hr hlk hnm
  refine kr_iload_n h dX0_count_0 rfl 1 rfl ?_
  rcases kc_sw w 0 7 with hj1 | ⟨j1, hl1, hj1, ej1⟩
  · refine kr_tabOut h 87 dX0_count_1 (by omega) (by decide) ?_
    have n1_0 : ¬ w = 0 := fun z => by rw [z] at hj1; revert hj1; decide +kernel
    have n1_1 : ¬ w = 1 := fun z => by rw [z] at hj1; revert hj1; decide +kernel
    have n1_2 : ¬ w = 2 := fun z => by rw [z] at hj1; revert hj1; decide +kernel
    have n1_3 : ¬ w = 3 := fun z => by rw [z] at hj1; revert hj1; decide +kernel
    have n1_4 : ¬ w = 4 := fun z => by rw [z] at hj1; revert hj1; decide +kernel
    have n1_5 : ¬ w = 5 := fun z => by rw [z] at hj1; revert hj1; decide +kernel
    have n1_6 : ¬ w = 6 := fun z => by rw [z] at hj1; revert hj1; decide +kernel
    refine kr_iconst (v := (-1)) h dX0_count_87 (by decide) ?_
    exact kr_iret h hr hlk dX0_count_88 (by clear h hr hlk hnm; subst_vars; simp_all [xCount]) (rfl)
  · have hg1 : (j1 = 0) ∨ (j1 = 1) ∨ (j1 = 2) ∨ (j1 = 3) ∨ (j1 = 4) ∨ (j1 = 5) ∨ (j1 = 6) := by omega
    rcases hg1 with hg1 | hg1 | hg1 | hg1 | hg1 | hg1 | hg1
    · refine kr_tab h 44 dX0_count_1 (by rw [ej1, hg1]; decide +kernel) ?_
      have q1 : w = 0 := by rw [ej1, hg1]; decide +kernel
      clear hg1 ej1 hj1
      refine kr_aload_n h dX0_count_44 rfl 0 rfl ?_
      refine kr_get h FX0ok 0 11 dX0_count_45 flX0_93 rfl rfl (by decide) rfl rfl ?_
      refine kr_top h (fun v45 e45 => ?_)
      exact kr_iret h hr hlk dX0_count_48 (by clear h hr hlk hnm; subst_vars; simp_all [xCount]) (rfl)
    · refine kr_tab h 49 dX0_count_1 (by rw [ej1, hg1]; decide +kernel) ?_
      have q1 : w = 1 := by rw [ej1, hg1]; decide +kernel
      clear hg1 ej1 hj1
      refine kr_aload_n h dX0_count_49 rfl 0 rfl ?_
      refine kr_get h FX0ok 0 12 dX0_count_50 flX0_148 rfl rfl (by decide) rfl rfl ?_
      refine kr_top h (fun v50 e50 => ?_)
      exact kr_iret h hr hlk dX0_count_53 (by clear h hr hlk hnm; subst_vars; simp_all [xCount]) (rfl)
    · refine kr_tab h 54 dX0_count_1 (by rw [ej1, hg1]; decide +kernel) ?_
      have q1 : w = 2 := by rw [ej1, hg1]; decide +kernel
      clear hg1 ej1 hj1
      refine kr_aload_n h dX0_count_54 rfl 0 rfl ?_
      refine kr_get h FX0ok 0 13 dX0_count_55 flX0_156 rfl rfl (by decide) rfl rfl ?_
      refine kr_top h (fun v55 e55 => ?_)
      exact kr_iret h hr hlk dX0_count_58 (by clear h hr hlk hnm; subst_vars; simp_all [xCount]) (rfl)
    · refine kr_tab h 59 dX0_count_1 (by rw [ej1, hg1]; decide +kernel) ?_
      have q1 : w = 3 := by rw [ej1, hg1]; decide +kernel
      clear hg1 ej1 hj1
      refine kr_aload_n h dX0_count_59 rfl 0 rfl ?_
      refine kr_get h FX0ok 0 14 dX0_count_60 flX0_159 rfl rfl (by decide) rfl rfl ?_
      refine kr_top h (fun v60 e60 => ?_)
      exact kr_iret h hr hlk dX0_count_63 (by clear h hr hlk hnm; subst_vars; simp_all [xCount]) (rfl)
    · refine kr_tab h 64 dX0_count_1 (by rw [ej1, hg1]; decide +kernel) ?_
      have q1 : w = 4 := by rw [ej1, hg1]; decide +kernel
      clear hg1 ej1 hj1
      refine kr_aload_n h dX0_count_64 rfl 0 rfl ?_
      refine kr_get h FX0ok 0 15 dX0_count_65 flX0_125 rfl rfl (by decide) rfl rfl ?_
      refine kr_top h (fun v65 e65 => ?_)
      exact kr_iret h hr hlk dX0_count_68 (by clear h hr hlk hnm; subst_vars; simp_all [xCount]) (rfl)
    · refine kr_tab h 69 dX0_count_1 (by rw [ej1, hg1]; decide +kernel) ?_
      have q1 : w = 5 := by rw [ej1, hg1]; decide +kernel
      clear hg1 ej1 hj1
      refine kr_aload_n h dX0_count_69 rfl 0 rfl ?_
      refine kr_get h FX0ok 0 17 dX0_count_70 flX0_110 rfl rfl (by decide) rfl rfl ?_
      refine kr_top h (fun v70 e70 => ?_)
      refine kr_if_eq h 80 dX0_count_73 (by decide) (fun c73 => ?_) (fun c73 => ?_)
      · refine kr_iconst (v := 0) h dX0_count_80 (by decide) ?_
        exact kr_iret h hr hlk dX0_count_81 (by clear h hr hlk hnm; subst_vars; simp_all [xCount]) (rfl)
      · refine kr_iconst (v := 1) h dX0_count_76 (by decide) ?_
        refine kr_goto h 81 dX0_count_77 (by decide) ?_
        exact kr_iret h hr hlk dX0_count_81 (by clear h hr hlk hnm; subst_vars; simp_all [xCount]) (rfl)
    · refine kr_tab h 82 dX0_count_1 (by rw [ej1, hg1]; decide +kernel) ?_
      have q1 : w = 6 := by rw [ej1, hg1]; decide +kernel
      clear hg1 ej1 hj1
      refine kr_aload_n h dX0_count_82 rfl 0 rfl ?_
      refine kr_get h FX0ok 0 16 dX0_count_83 flX0_44 rfl rfl (by decide) rfl rfl ?_
      refine kr_top h (fun v83 e83 => ?_)
      exact kr_iret h hr hlk dX0_count_86 (by clear h hr hlk hnm; subst_vars; simp_all [xCount]) (rfl)
