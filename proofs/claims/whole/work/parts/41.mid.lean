set_option maxHeartbeats 4000000 in
set_option maxRecDepth 100000 in
theorem c_floorMod (l : Launch) (D : va_G) (cI cZ cJ : ClassId) (a b : Int32) (hb : ¬ b = 0) : kc_M l yJ9_floorMod cJ9_floorMod 3 (some .int) 0 0 0 0 [.int a, .int b] D vwCl (tyL cI cZ cJ) [] (some (.int (xFm a b))) [] := by
  refine kc_startF RJ9 (by decide +kernel) rfl (Nat.le_of_ble_eq_true rfl) ?_
  intro zp ze zs zm zb zt zc h hr hlk hnm
  refine kr_iload_n h dJ9_floorMod_0 rfl 0 rfl ?_
  refine kr_iload_n h dJ9_floorMod_1 rfl 1 rfl ?_
  refine kr_irem h dJ9_floorMod_2 hb (fun v2 e2 => ?_)
  refine kr_istore_n (lv' := [(2, .int v2), (0, .int a), (1, .int b)]) h dJ9_floorMod_3 rfl (by decide) rfl ?_
  refine kr_iload_n h dJ9_floorMod_4 rfl 1 rfl ?_
  refine kr_iload_n h dJ9_floorMod_5 rfl 2 rfl ?_
  refine kr_ixor h dJ9_floorMod_6 (fun v6 e6 => ?_)
  refine kr_if_ge h 18 dJ9_floorMod_7 (by decide) (fun c7 => ?_) (fun c7 => ?_)
  · refine kr_iload_n h dJ9_floorMod_18 rfl 0 rfl ?_
    exact kr_iret h hr hlk dJ9_floorMod_19 (by clear h hr hlk hnm; subst_vars; simp_all [xFm]) (rfl)
  · refine kr_iload_n h dJ9_floorMod_10 rfl 0 rfl ?_
    refine kr_if_eq h 18 dJ9_floorMod_11 (by decide) (fun c11 => ?_) (fun c11 => ?_)
    · refine kr_iload_n h dJ9_floorMod_18 rfl 0 rfl ?_
      exact kr_iret h hr hlk dJ9_floorMod_19 (by clear h hr hlk hnm; subst_vars; simp_all [xFm]) (rfl)
    · refine kr_iload_n h dJ9_floorMod_14 rfl 0 rfl ?_
      refine kr_iload_n h dJ9_floorMod_15 rfl 2 rfl ?_
      refine kr_iadd h dJ9_floorMod_16 (fun v16 e16 => ?_)
      exact kr_iret h hr hlk dJ9_floorMod_17 (by clear h hr hlk hnm; subst_vars; simp_all [xFm]) (rfl)
set_option maxHeartbeats 4000000 in
set_option maxRecDepth 100000 in
theorem c_nextEntry (l : Launch) (D : va_G) (cI cZ cJ : ClassId) (q : Nat → Nat) (x : xSt) (p s : Int32) (hp : vp_in p 40) (he : vp_in (xPlace (x.1 1 (tn p)) (x.1 6 (tn p)) s) 96) : kc_M l yX0_nextEntry cX0_nextEntry 3 (some .int) 1 22 0 0 [.ref (q 0), .int p, .int s] D vwCl (tyL cI cZ cJ) (wX cI cZ q x) (some (.int (xEntry x p s))) (wX cI cZ q (x)) := by
  refine kc_start RX0 (by decide +kernel) rfl (Nat.le_of_ble_eq_true rfl) ?_
  intro zp ze zs zm zb zt zc h hr hlk hnm
  refine kr_aload_n h dX0_nextEntry_0 rfl 0 rfl ?_
  refine kr_get h FX0ok 0 8 dX0_nextEntry_1 flX0_35 rfl rfl (by decide) rfl rfl ?_
  refine kr_aload_n h dX0_nextEntry_4 rfl 0 rfl ?_
  refine kr_get h FX0ok 0 1 dX0_nextEntry_5 flX0_13 rfl rfl (by decide) rfl rfl ?_
  refine kr_iload_n h dX0_nextEntry_8 rfl 1 rfl ?_
  refine kr_iald h 2 0 dX0_nextEntry_9 rfl rfl (hp) (fun v9 e9 => ?_)
  refine kr_aload_n h dX0_nextEntry_10 rfl 0 rfl ?_
  refine kr_get h FX0ok 0 6 dX0_nextEntry_11 flX0_29 rfl rfl (by decide) rfl rfl ?_
  refine kr_iload_n h dX0_nextEntry_14 rfl 1 rfl ?_
  refine kr_iald h 7 0 dX0_nextEntry_15 rfl rfl (hp) (fun v15 e15 => ?_)
  refine kr_iload_n h dX0_nextEntry_16 rfl 2 rfl ?_
  refine kr_i0 h (kc_rS h (c_entryPlace l D cI cZ cJ v9 v15 s) mlX0_66 ysX0_entryPlace dX0_nextEntry_17 rfl rfl ⟨Nat.le_of_ble_eq_true rfl, Nat.le_of_ble_eq_true rfl⟩ ⟨Nat.le_of_ble_eq_true rfl, Nat.le_of_ble_eq_true rfl⟩ (Nat.le_of_ble_eq_true rfl) [] rfl rfl) (fun v17 e17 => ?_)
  refine kr_iald h 9 0 dX0_nextEntry_20 rfl rfl (by rw [e17, e9, e15]; exact he) (fun v20 e20 => ?_)
  exact kr_iret h hr hlk dX0_nextEntry_21 (by rw [e20, e17, e9, e15]; rfl) (rfl)
set_option maxHeartbeats 4000000 in
set_option maxRecDepth 100000 in
theorem c_suggestInSet (l : Launch) (D : va_G) (cI cZ cJ : ClassId) (q : Nat → Nat) (x : xSt) (p v : Int32) (hp : vp_in p 40) : kc_M l yX0_suggestInSet cX0_suggestInSet 3 (some .int) 1 21 0 0 [.ref (q 0), .int p, .int v] D vwCl (tyL cI cZ cJ) (wX cI cZ q x) (some (.int (xInSet x p v))) (wX cI cZ q (x)) := by
  refine kc_start RX0 (by decide +kernel) rfl (Nat.le_of_ble_eq_true rfl) ?_
  intro zp ze zs zm zb zt zc h hr hlk hnm
  refine kr_aload_n h dX0_suggestInSet_0 rfl 0 rfl ?_
  refine kr_get h FX0ok 0 0 dX0_suggestInSet_1 flX0_9 rfl rfl (by decide) rfl rfl ?_
  refine kr_iload_n h dX0_suggestInSet_4 rfl 1 rfl ?_
  refine kr_iald h 1 0 dX0_suggestInSet_5 rfl rfl (hp) (fun v5 e5 => ?_)
  rcases kc_sw v5 0 8 with hj6 | ⟨j6, hl6, hj6, ej6⟩
  · refine kr_tabOut h 136 dX0_suggestInSet_6 (by omega) (by decide) ?_
    have n6_0 : ¬ v5 = 0 := fun z => by rw [z] at hj6; revert hj6; decide +kernel
    have n6_1 : ¬ v5 = 1 := fun z => by rw [z] at hj6; revert hj6; decide +kernel
    have n6_2 : ¬ v5 = 2 := fun z => by rw [z] at hj6; revert hj6; decide +kernel
    have n6_3 : ¬ v5 = 3 := fun z => by rw [z] at hj6; revert hj6; decide +kernel
    have n6_4 : ¬ v5 = 4 := fun z => by rw [z] at hj6; revert hj6; decide +kernel
    have n6_5 : ¬ v5 = 5 := fun z => by rw [z] at hj6; revert hj6; decide +kernel
    have n6_6 : ¬ v5 = 6 := fun z => by rw [z] at hj6; revert hj6; decide +kernel
    have n6_7 : ¬ v5 = 7 := fun z => by rw [z] at hj6; revert hj6; decide +kernel
    refine kr_iconst (v := 0) h dX0_suggestInSet_136 (by decide) ?_
    exact kr_iret h hr hlk dX0_suggestInSet_137 (by clear h hr hlk hnm; subst_vars; simp_all [xInSet]) (rfl)
  · have hg6 : (j6 = 0) ∨ (j6 = 1) ∨ (j6 = 2) ∨ (j6 = 3) ∨ (j6 = 4) ∨ (j6 = 5) ∨ (j6 = 6) ∨ (j6 = 7) := by omega
    rcases hg6 with hg6 | hg6 | hg6 | hg6 | hg6 | hg6 | hg6 | hg6
    · refine kr_tab h 52 dX0_suggestInSet_6 (by rw [ej6, hg6]; decide +kernel) ?_
      have q6 : v5 = 0 := by rw [ej6, hg6]; decide +kernel
      clear hg6 ej6 hj6
      refine kr_iconst (v := 1) h dX0_suggestInSet_52 (by decide) ?_
      exact kr_iret h hr hlk dX0_suggestInSet_53 (by clear h hr hlk hnm; subst_vars; simp_all [xInSet]) (rfl)
    · refine kr_tab h 54 dX0_suggestInSet_6 (by rw [ej6, hg6]; decide +kernel) ?_
      have q6 : v5 = 1 := by rw [ej6, hg6]; decide +kernel
      clear hg6 ej6 hj6
      refine kr_iconst (v := 4) h dX0_suggestInSet_54 (by decide) ?_
      exact kr_iret h hr hlk dX0_suggestInSet_55 (by clear h hr hlk hnm; subst_vars; simp_all [xInSet]) (rfl)
    · refine kr_tab h 56 dX0_suggestInSet_6 (by rw [ej6, hg6]; decide +kernel) ?_
      have q6 : v5 = 2 := by rw [ej6, hg6]; decide +kernel
      clear hg6 ej6 hj6
      refine kr_iconst (v := 5) h dX0_suggestInSet_56 (by decide) ?_
      exact kr_iret h hr hlk dX0_suggestInSet_57 (by clear h hr hlk hnm; subst_vars; simp_all [xInSet]) (rfl)
    · refine kr_tab h 58 dX0_suggestInSet_6 (by rw [ej6, hg6]; decide +kernel) ?_
      have q6 : v5 = 3 := by rw [ej6, hg6]; decide +kernel
      clear hg6 ej6 hj6
      refine kr_aload_n h dX0_suggestInSet_58 rfl 0 rfl ?_
      refine kr_get h FX0ok 0 6 dX0_suggestInSet_59 flX0_29 rfl rfl (by decide) rfl rfl ?_
      refine kr_iload_n h dX0_suggestInSet_62 rfl 1 rfl ?_
      refine kr_iald h 7 0 dX0_suggestInSet_63 rfl rfl (hp) (fun v63 e63 => ?_)
      refine kr_aload_n h dX0_suggestInSet_64 rfl 0 rfl ?_
      refine kr_get h FX0ok 0 2 dX0_suggestInSet_65 flX0_16 rfl rfl (by decide) rfl rfl ?_
      refine kr_iload_n h dX0_suggestInSet_68 rfl 1 rfl ?_
      refine kr_iald h 3 0 dX0_suggestInSet_69 rfl rfl (hp) (fun v69 e69 => ?_)
      refine kr_icmp_ge h 77 dX0_suggestInSet_70 (by decide) (fun c70 => ?_) (fun c70 => ?_)
      · refine kr_iconst (v := 0) h dX0_suggestInSet_77 (by decide) ?_
        refine kr_i0 h (kc_rS h (c_okOnlyIf l D cI cZ cJ 0) mlX0_206 ysX0_okOnlyIf dX0_suggestInSet_78 rfl rfl ⟨Nat.le_of_ble_eq_true rfl, Nat.le_of_ble_eq_true rfl⟩ ⟨Nat.le_of_ble_eq_true rfl, Nat.le_of_ble_eq_true rfl⟩ (Nat.le_of_ble_eq_true rfl) [] rfl rfl) (fun v78 e78 => ?_)
        exact kr_iret h hr hlk dX0_suggestInSet_81 (by clear h hr hlk hnm; subst_vars; simp_all [xInSet]) (rfl)
      · refine kr_iconst (v := 1) h dX0_suggestInSet_73 (by decide) ?_
        refine kr_goto h 78 dX0_suggestInSet_74 (by decide) ?_
        refine kr_i0 h (kc_rS h (c_okOnlyIf l D cI cZ cJ 1) mlX0_206 ysX0_okOnlyIf dX0_suggestInSet_78 rfl rfl ⟨Nat.le_of_ble_eq_true rfl, Nat.le_of_ble_eq_true rfl⟩ ⟨Nat.le_of_ble_eq_true rfl, Nat.le_of_ble_eq_true rfl⟩ (Nat.le_of_ble_eq_true rfl) [] rfl rfl) (fun v78 e78 => ?_)
        exact kr_iret h hr hlk dX0_suggestInSet_81 (by clear h hr hlk hnm; subst_vars; simp_all [xInSet]) (rfl)
    · refine kr_tab h 82 dX0_suggestInSet_6 (by rw [ej6, hg6]; decide +kernel) ?_
      have q6 : v5 = 4 := by rw [ej6, hg6]; decide +kernel
      clear hg6 ej6 hj6
      refine kr_iconst (v := 3) h dX0_suggestInSet_82 (by decide) ?_
      refine kr_iload_n h dX0_suggestInSet_83 rfl 1 rfl ?_
      refine kr_i0 h (kc_rS h (c_suggestionFrom l D cI cZ cJ 3 p) mlX0_210 ysX0_suggestionFrom dX0_suggestInSet_84 rfl rfl ⟨Nat.le_of_ble_eq_true rfl, Nat.le_of_ble_eq_true rfl⟩ ⟨Nat.le_of_ble_eq_true rfl, Nat.le_of_ble_eq_true rfl⟩ (Nat.le_of_ble_eq_true rfl) [] rfl rfl) (fun v84 e84 => ?_)
      exact kr_iret h hr hlk dX0_suggestInSet_87 (by clear h hr hlk hnm; subst_vars; simp_all [xInSet]) (rfl)
    · refine kr_tab h 88 dX0_suggestInSet_6 (by rw [ej6, hg6]; decide +kernel) ?_
      have q6 : v5 = 5 := by rw [ej6, hg6]; decide +kernel
      clear hg6 ej6 hj6
      refine kr_aload_n h dX0_suggestInSet_88 rfl 0 rfl ?_
      refine kr_get h FX0ok 0 7 dX0_suggestInSet_89 flX0_32 rfl rfl (by decide) rfl rfl ?_
      refine kr_iload_n h dX0_suggestInSet_92 rfl 1 rfl ?_
      refine kr_zald h 8 1 dX0_suggestInSet_93 rfl rfl (hp) (fun v93 e93 => ?_)
      refine kr_if_eq h 101 dX0_suggestInSet_94 (by decide) (fun c94 => ?_) (fun c94 => ?_)
      · refine kr_iconst (v := 2) h dX0_suggestInSet_101 (by decide) ?_
        refine kr_iload_n h dX0_suggestInSet_102 rfl 1 rfl ?_
        refine kr_i0 h (kc_rS h (c_suggestionFrom l D cI cZ cJ 2 p) mlX0_210 ysX0_suggestionFrom dX0_suggestInSet_103 rfl rfl ⟨Nat.le_of_ble_eq_true rfl, Nat.le_of_ble_eq_true rfl⟩ ⟨Nat.le_of_ble_eq_true rfl, Nat.le_of_ble_eq_true rfl⟩ (Nat.le_of_ble_eq_true rfl) [] rfl rfl) (fun v103 e103 => ?_)
        exact kr_iret h hr hlk dX0_suggestInSet_106 (by clear h hr hlk hnm; subst_vars; simp_all [xInSet]) (rfl)
      · refine kr_iconst (v := 0) h dX0_suggestInSet_97 (by decide) ?_
        refine kr_goto h 106 dX0_suggestInSet_98 (by decide) ?_
        exact kr_iret h hr hlk dX0_suggestInSet_106 (by clear h hr hlk hnm; subst_vars; simp_all [xInSet]) (rfl)
    · refine kr_tab h 136 dX0_suggestInSet_6 (by rw [ej6, hg6]; decide +kernel) ?_
      have q6 : v5 = 6 := by rw [ej6, hg6]; decide +kernel
      clear hg6 ej6 hj6
      refine kr_iconst (v := 0) h dX0_suggestInSet_136 (by decide) ?_
      exact kr_iret h hr hlk dX0_suggestInSet_137 (by clear h hr hlk hnm; subst_vars; simp_all [xInSet]) (rfl)
    · refine kr_tab h 107 dX0_suggestInSet_6 (by rw [ej6, hg6]; decide +kernel) ?_
      have q6 : v5 = 7 := by rw [ej6, hg6]; decide +kernel
      clear hg6 ej6 hj6
      refine kr_aload_n h dX0_suggestInSet_107 rfl 0 rfl ?_
      refine kr_get h FX0ok 0 2 dX0_suggestInSet_108 flX0_16 rfl rfl (by decide) rfl rfl ?_
      refine kr_iload_n h dX0_suggestInSet_111 rfl 1 rfl ?_
      refine kr_iald h 3 0 dX0_suggestInSet_112 rfl rfl (hp) (fun v112 e112 => ?_)
      refine kr_iload_n h dX0_suggestInSet_113 rfl 2 rfl ?_
      refine kr_icmp_gt h 131 dX0_suggestInSet_114 (by decide) (fun c114 => ?_) (fun c114 => ?_)
      · refine kr_iconst (v := 0) h dX0_suggestInSet_131 (by decide) ?_
        refine kr_i0 h (kc_rS h (c_okOnlyIf l D cI cZ cJ 0) mlX0_206 ysX0_okOnlyIf dX0_suggestInSet_132 rfl rfl ⟨Nat.le_of_ble_eq_true rfl, Nat.le_of_ble_eq_true rfl⟩ ⟨Nat.le_of_ble_eq_true rfl, Nat.le_of_ble_eq_true rfl⟩ (Nat.le_of_ble_eq_true rfl) [] rfl rfl) (fun v132 e132 => ?_)
        exact kr_iret h hr hlk dX0_suggestInSet_135 (by clear h hr hlk hnm; subst_vars; simp_all [xInSet]) (rfl)
      · refine kr_iload_n h dX0_suggestInSet_117 rfl 2 rfl ?_
        refine kr_aload_n h dX0_suggestInSet_118 rfl 0 rfl ?_
        refine kr_get h FX0ok 0 3 dX0_suggestInSet_119 flX0_19 rfl rfl (by decide) rfl rfl ?_
        refine kr_iload_n h dX0_suggestInSet_122 rfl 1 rfl ?_
        refine kr_iald h 4 0 dX0_suggestInSet_123 rfl rfl (hp) (fun v123 e123 => ?_)
        refine kr_icmp_gt h 131 dX0_suggestInSet_124 (by decide) (fun c124 => ?_) (fun c124 => ?_)
        · refine kr_iconst (v := 0) h dX0_suggestInSet_131 (by decide) ?_
          refine kr_i0 h (kc_rS h (c_okOnlyIf l D cI cZ cJ 0) mlX0_206 ysX0_okOnlyIf dX0_suggestInSet_132 rfl rfl ⟨Nat.le_of_ble_eq_true rfl, Nat.le_of_ble_eq_true rfl⟩ ⟨Nat.le_of_ble_eq_true rfl, Nat.le_of_ble_eq_true rfl⟩ (Nat.le_of_ble_eq_true rfl) [] rfl rfl) (fun v132 e132 => ?_)
          exact kr_iret h hr hlk dX0_suggestInSet_135 (by clear h hr hlk hnm; subst_vars; simp_all [xInSet]) (rfl)
        · refine kr_iconst (v := 1) h dX0_suggestInSet_127 (by decide) ?_
          refine kr_goto h 132 dX0_suggestInSet_128 (by decide) ?_
          refine kr_i0 h (kc_rS h (c_okOnlyIf l D cI cZ cJ 1) mlX0_206 ysX0_okOnlyIf dX0_suggestInSet_132 rfl rfl ⟨Nat.le_of_ble_eq_true rfl, Nat.le_of_ble_eq_true rfl⟩ ⟨Nat.le_of_ble_eq_true rfl, Nat.le_of_ble_eq_true rfl⟩ (Nat.le_of_ble_eq_true rfl) [] rfl rfl) (fun v132 e132 => ?_)
          exact kr_iret h hr hlk dX0_suggestInSet_135 (by clear h hr hlk hnm; subst_vars; simp_all [xInSet]) (rfl)
set_option maxHeartbeats 4000000 in
set_option maxRecDepth 100000 in
theorem c_addNote (l : Launch) (D : va_G) (cI cZ cJ : ClassId) (q : Nat → Nat) (x : xSt) (n : Int32) : kc_M l yX0_addNote cX0_addNote 2 none 1 22 0 0 [.ref (q 0), .int n] D vwCl (tyL cI cZ cJ) (wX cI cZ q x) none (wX cI cZ q (xNote x n)) := by
  refine kc_start RX0 (by decide +kernel) rfl (Nat.le_of_ble_eq_true rfl) ?_
  intro zp ze zs zm zb zt zc h hr hlk hnm
  refine kr_aload_n h dX0_addNote_0 rfl 0 rfl ?_
  refine kr_get h FX0ok 0 10 dX0_addNote_1 flX0_41 rfl rfl (by decide) rfl rfl ?_
  refine kr_aload_n h dX0_addNote_4 rfl 0 rfl ?_
  refine kr_get h FX0ok 0 12 dX0_addNote_5 flX0_148 rfl rfl (by decide) rfl rfl ?_
  refine kr_top h (fun v5 e5 => ?_)
  refine kr_bipush (v := 16) h dX0_addNote_8 (by decide) ?_
  refine kr_i0 h (kc_rS h (c_floorMod l D cI cZ cJ v5 16 (by decide)) mlX0_151 ysJ9_floorMod dX0_addNote_10 rfl rfl ⟨Nat.le_of_ble_eq_true rfl, Nat.le_of_ble_eq_true rfl⟩ ⟨Nat.le_of_ble_eq_true rfl, Nat.le_of_ble_eq_true rfl⟩ (Nat.le_of_ble_eq_true rfl) [] rfl rfl) (fun v10 e10 => ?_)
  refine kr_iload_n h dX0_addNote_13 rfl 1 rfl ?_
  refine kr_iast (ws' := wX cI cZ q (xA x 10 (upd (x.1 10) (tn v10) n))) h 11 0 dX0_addNote_14 rfl rfl (by rw [e10, e5]; exact xF16_in _) (wX_r10 cI cZ q x _) ?_
  refine kr_aload_n h dX0_addNote_15 rfl 0 rfl ?_
  refine kr_dup h dX0_addNote_16 rfl ?_
  refine kr_get h FX0ok 0 12 dX0_addNote_17 flX0_148 rfl rfl (by decide) rfl rfl ?_
  refine kr_top h (fun v17 e17 => ?_)
  refine kr_iconst (v := 1) h dX0_addNote_20 (by decide) ?_
  refine kr_iadd h dX0_addNote_21 (fun v21 e21 => ?_)
  refine kr_put (ws' := wX cI cZ q (xI (xA x 10 (upd (x.1 10) (tn v10) n)) 1 v21)) h FX0ok 0 12 dX0_addNote_22 flX0_148 rfl rfl (by decide) rfl rfl rfl rfl (Nat.le_of_ble_eq_true rfl) rfl ?_
  exact kr_vret h hr hlk dX0_addNote_25 (by subst_vars; rfl)
