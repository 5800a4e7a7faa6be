set_option maxHeartbeats 4000000 in
set_option maxRecDepth 100000 in
theorem c_step (l : Launch) (D : va_G) (cI cZ cJ : ClassId) (q : Nat → Nat) (x : xSt) (p s : Int32) (hp : vp_in p 40) (he : vp_in (xPlace (x.1 1 (tn p)) (x.1 6 (tn p)) s) 96) : kc_M l yX0_step cX0_step 4 none 2 44 0 0 [.ref (q 0), .int p, .int s] D vwCl (tyL cI cZ cJ) (wX cI cZ q x) none (wX cI cZ q (xStp x p s)) := by
  refine kc_start RX0 (by decide +kernel) rfl (Nat.le_of_ble_eq_true rfl) ?_
  intro zp ze zs zm zb zt zc h hr hlk hnm
  refine kr_aload_n h dX0_step_0 rfl 0 rfl ?_
  refine kr_iload_n h dX0_step_1 rfl 1 rfl ?_
  refine kr_iload_n h dX0_step_2 rfl 2 rfl ?_
  refine kr_iA h (kc_rV h (c_nextEntry l D cI cZ cJ q x p s (by assumption) (by assumption)) mlX0_194 yvX0_nextEntry dX0_step_3 rfl rfl ⟨Nat.le_of_ble_eq_true rfl, Nat.le_of_ble_eq_true rfl⟩ ⟨Nat.le_of_ble_eq_true rfl, Nat.le_of_ble_eq_true rfl⟩ (Nat.le_of_ble_eq_true rfl) [0, 1, 2, 3, 4, 5, 6, 7, 8, 9, 10, 11] rfl rfl 0 rfl rfl rfl) (fun v3 e3 => ?_)
  refine kr_istore_n (lv' := [(3, .int v3), (0, .ref (q 0)), (1, .int p), (2, .int s)]) h dX0_step_6 rfl (by decide) rfl ?_
  refine kr_iload_n h dX0_step_7 rfl 0 rfl ?_
  refine kr_iconst (v := 4) h dX0_step_8 (by decide) ?_
  refine kr_i0 h (kc_rS h (c_isBelow l D cI cZ cJ v3 4) mlX0_52 ysX0_isBelow dX0_step_9 rfl rfl ⟨Nat.le_of_ble_eq_true rfl, Nat.le_of_ble_eq_true rfl⟩ ⟨Nat.le_of_ble_eq_true rfl, Nat.le_of_ble_eq_true rfl⟩ (Nat.le_of_ble_eq_true rfl) [] rfl rfl) (fun v9 e9 => ?_)
  refine kr_if_eq h 22 dX0_step_12 (by decide) (fun c12 => ?_) (fun c12 => ?_)
  · exact kr_vret h hr hlk dX0_step_22 (by rw [xStp, ← e3]; first | rw [if_neg (xb_f e9 c12)] | (rw [if_pos (xb_t e9 c12)]; rfl))
  · refine kr_aload_n h dX0_step_15 rfl 1 rfl ?_
    refine kr_get h FX0ok 0 6 dX0_step_16 flX0_29 rfl rfl (by decide) rfl rfl ?_
    refine kr_iload_n h dX0_step_19 rfl 2 rfl ?_
    refine kr_iload_n h dX0_step_20 rfl 0 rfl ?_
    refine kr_iast (ws' := wX cI cZ q (xA x 6 (upd (x.1 6) (tn p) v3))) h 7 0 dX0_step_21 rfl rfl (hp) (wX_r6 cI cZ q x _) ?_
    exact kr_vret h hr hlk dX0_step_22 (by rw [xStp, ← e3]; first | rw [if_neg (xb_f e9 c12)] | (rw [if_pos (xb_t e9 c12)]; rfl))
set_option maxHeartbeats 4000000 in
set_option maxRecDepth 100000 in
theorem c_perform (l : Launch) (D : va_G) (cI cZ cJ : ClassId) (q : Nat → Nat) (x : xSt) (s v : Int32) (hs : vp_in s 8) : kc_M l yX0_perform cX0_perform 3 none 0 0 0 0 [.ref (q 0), .int s, .int v] D vwCl (tyL cI cZ cJ) (wX cI cZ q x) none (wX cI cZ q (xDo x s v)) := by
  refine kc_start RX0 (by decide +kernel) rfl (Nat.le_of_ble_eq_true rfl) ?_
  intro zp ze zs zm zb zt zc h hr hlk hnm
  refine kr_aload_n h dX0_perform_0 rfl 0 rfl ?_
  refine kr_get h FX0ok 0 9 dX0_perform_1 flX0_38 rfl rfl (by decide) rfl rfl ?_
  refine kr_iload_n h dX0_perform_4 rfl 1 rfl ?_
  refine kr_dup2 h dX0_perform_5 rfl rfl ?_
  refine kr_iald h 10 0 dX0_perform_6 rfl rfl (hs) (fun v6 e6 => ?_)
  refine kr_iload_n h dX0_perform_7 rfl 2 rfl ?_
  refine kr_iadd h dX0_perform_8 (fun v8 e8 => ?_)
  refine kr_iast (ws' := wX cI cZ q (xA x 9 (upd (x.1 9) (tn s) v8))) h 10 0 dX0_perform_9 rfl rfl (hs) (wX_r9 cI cZ q x _) ?_
  refine kr_aload_n h dX0_perform_10 rfl 0 rfl ?_
  refine kr_dup h dX0_perform_11 rfl ?_
  refine kr_get h FX0ok 0 13 dX0_perform_12 flX0_156 rfl rfl (by decide) rfl rfl ?_
  refine kr_top h (fun v12 e12 => ?_)
  refine kr_iconst (v := 1) h dX0_perform_15 (by decide) ?_
  refine kr_iadd h dX0_perform_16 (fun v16 e16 => ?_)
  refine kr_put (ws' := wX cI cZ q (xI (xA x 9 (upd (x.1 9) (tn s) v8)) 2 v16)) h FX0ok 0 13 dX0_perform_17 flX0_156 rfl rfl (by decide) rfl rfl rfl rfl (Nat.le_of_ble_eq_true rfl) rfl ?_
  refine kr_aload_n h dX0_perform_20 rfl 0 rfl ?_
  refine kr_aload_n h dX0_perform_21 rfl 0 rfl ?_
  refine kr_get h FX0ok 0 9 dX0_perform_22 flX0_38 rfl rfl (by decide) rfl rfl ?_
  refine kr_iload_n h dX0_perform_25 rfl 1 rfl ?_
  refine kr_iald h 10 0 dX0_perform_26 rfl rfl (hs) (fun v26 e26 => ?_)
  refine kr_put (ws' := wX cI cZ q (xI (xI (xA x 9 (upd (x.1 9) (tn s) v8)) 2 v16) 7 v26)) h FX0ok 0 18 dX0_perform_27 flX0_122 rfl rfl (by decide) rfl rfl rfl rfl (Nat.le_of_ble_eq_true rfl) rfl ?_
  exact kr_vret h hr hlk dX0_perform_30 (congrArg _ (xDo_w (by rw [e8, e6]) (by rw [e16, e12]; rfl) e26))
set_option maxHeartbeats 4000000 in
set_option maxRecDepth 100000 in
theorem c_accept_step (l : Launch) (D : va_G) (cI cZ cJ : ClassId) (q : Nat → Nat) (d : Nat) (IH : ∀ (x : xSt) (p s v : Int32), xG x d p → xSo s → kc_M l yX0_accept cX0_accept 6 none (2 * d + 3) (53 * d + 90) 0 0 [.ref (q 0), .int p, .int s, .int v] D vwCl (tyL cI cZ cJ) (wX cI cZ q x) none (wX cI cZ q (xAcc d x p s v))) (x : xSt) (p s v : Int32) (hg : xG x (d + 1) p) (hs : xSo s) : kc_M l yX0_accept cX0_accept 6 none (2 * d + 5) (53 * d + 143) 0 0 [.ref (q 0), .int p, .int s, .int v] D vwCl (tyL cI cZ cJ) (wX cI cZ q x) none (wX cI cZ q (xAcc (d + 1) x p s v)) := by
  refine kc_start RX0 (by decide +kernel) rfl (Nat.le_of_ble_eq_true rfl) ?_
  intro zp ze zs zm zb zt zc h hr hlk hnm
  obtain ⟨hp, hk, hgA, hgB, hg6⟩ := id hg
  refine kr_aload_n h dX0_accept_0 rfl 0 rfl ?_
  refine kr_get h FX0ok 0 0 dX0_accept_1 flX0_9 rfl rfl (by decide) rfl rfl ?_
  refine kr_iload_n h dX0_accept_4 rfl 1 rfl ?_
  refine kr_iald h 1 0 dX0_accept_5 rfl rfl (hp) (fun v5 e5 => ?_)
  obtain ⟨j6, hj6, ej6⟩ := (show ∃ j : Nat, j < 15 ∧ v5 = nI j by rw [e5]; exact hk)
  have hg6 : (j6 = 0 ∨ j6 = 1 ∨ j6 = 2 ∨ j6 = 4 ∨ j6 = 5 ∨ j6 = 7) ∨ (j6 = 3) ∨ (j6 = 6) ∨ (j6 = 8) ∨ (j6 = 9 ∨ j6 = 10 ∨ j6 = 11) ∨ (j6 = 12) ∨ (j6 = 13 ∨ j6 = 14) := by omega
  rcases hg6 with hg6 | hg6 | hg6 | hg6 | hg6 | hg6 | hg6
  · refine kr_tab h 249 dX0_accept_6 (by rcases hg6 with hg6 | hg6 | hg6 | hg6 | hg6 | hg6 <;> rw [ej6, hg6] <;> decide +kernel) ?_
    have q6 : v5 = 0 ∨ v5 = 1 ∨ v5 = 2 ∨ v5 = 4 ∨ v5 = 5 ∨ v5 = 7 := by rcases hg6 with hg6 | hg6 | hg6 | hg6 | hg6 | hg6 <;> rw [ej6, hg6] <;> decide +kernel
    clear hg6 ej6 hj6
    exact kr_vret h hr hlk dX0_accept_249 (by first | (rw [xAcc_3 (e5.symm.trans q6), ← e73]; first | rw [if_neg (xb_f e75 c78)] | (rw [if_pos (xb_t e75 c78), e89, e87]; rfl)) | (rw [xAcc_k6 (e5.symm.trans q6)]) | (rw [xAcc_8 (e5.symm.trans q6), ← e109, ← e121]) | (rw [xAcc_9 (by rw [← e5]; exact q6), ← e172, ← e136, ← e154, ← e140, ← e143, ← e158, ← e161]; first | (rw [if_neg (xb_f e177 c180), e197, ← e154]) | (rw [if_pos (xb_t e177 c180), e188, ← e136])) | (rw [xAcc_12 (e5.symm.trans q6), ← e211]; first | rw [if_neg (xb_f e213 c216)] | (rw [if_pos (xb_t e213 c216), ← e225])) | (rw [xAcc_13 (by rw [← e5]; exact q6), ← e240]) | (rw [xAcc_0 (by rw [← e5]; exact q6)]))
  · refine kr_tab h 68 dX0_accept_6 (by rw [ej6, hg6]; decide +kernel) ?_
    have q6 : v5 = 3 := by rw [ej6, hg6]; decide +kernel
    clear hg6 ej6 hj6
    refine kr_aload_n h dX0_accept_68 rfl 0 rfl ?_
    refine kr_get h FX0ok 0 1 dX0_accept_69 flX0_13 rfl rfl (by decide) rfl rfl ?_
    refine kr_iload_n h dX0_accept_72 rfl 1 rfl ?_
    refine kr_iald h 2 0 dX0_accept_73 rfl rfl (hp) (fun v73 e73 => ?_)
    refine kr_iload_n h dX0_accept_74 rfl 2 rfl ?_
    refine kr_i0 h (kc_rS h (c_inSet l D cI cZ cJ v73 s) mlX0_187 ysX0_inSet dX0_accept_75 rfl rfl ⟨by dsimp only; omega, by dsimp only; omega⟩ ⟨Nat.le_of_ble_eq_true rfl, Nat.le_of_ble_eq_true rfl⟩ (Nat.le_of_ble_eq_true rfl) [] rfl rfl) (fun v75 e75 => ?_)
    refine kr_if_eq h 249 dX0_accept_78 (by decide) (fun c78 => ?_) (fun c78 => ?_)
    · exact kr_vret h hr hlk dX0_accept_249 (by first | (rw [xAcc_3 (e5.symm.trans q6), ← e73]; first | rw [if_neg (xb_f e75 c78)] | (rw [if_pos (xb_t e75 c78), e89, e87]; rfl)) | (rw [xAcc_k6 (e5.symm.trans q6)]) | (rw [xAcc_8 (e5.symm.trans q6), ← e109, ← e121]) | (rw [xAcc_9 (by rw [← e5]; exact q6), ← e172, ← e136, ← e154, ← e140, ← e143, ← e158, ← e161]; first | (rw [if_neg (xb_f e177 c180), e197, ← e154]) | (rw [if_pos (xb_t e177 c180), e188, ← e136])) | (rw [xAcc_12 (e5.symm.trans q6), ← e211]; first | rw [if_neg (xb_f e213 c216)] | (rw [if_pos (xb_t e213 c216), ← e225])) | (rw [xAcc_13 (by rw [← e5]; exact q6), ← e240]) | (rw [xAcc_0 (by rw [← e5]; exact q6)]))
    · refine kr_aload_n h dX0_accept_81 rfl 0 rfl ?_
      refine kr_get h FX0ok 0 6 dX0_accept_82 flX0_29 rfl rfl (by decide) rfl rfl ?_
      refine kr_iload_n h dX0_accept_85 rfl 1 rfl ?_
      refine kr_dup2 h dX0_accept_86 rfl rfl ?_
      refine kr_iald h 7 0 dX0_accept_87 rfl rfl (hp) (fun v87 e87 => ?_)
      refine kr_iconst (v := 1) h dX0_accept_88 (by decide) ?_
      refine kr_iadd h dX0_accept_89 (fun v89 e89 => ?_)
      refine kr_iast (ws' := wX cI cZ q (xA x 6 (upd (x.1 6) (tn p) v89))) h 7 0 dX0_accept_90 rfl rfl (hp) (wX_r6 cI cZ q x _) ?_
      refine kr_goto h 249 dX0_accept_91 (by decide) ?_
      exact kr_vret h hr hlk dX0_accept_249 (by first | (rw [xAcc_3 (e5.symm.trans q6), ← e73]; first | rw [if_neg (xb_f e75 c78)] | (rw [if_pos (xb_t e75 c78), e89, e87]; rfl)) | (rw [xAcc_k6 (e5.symm.trans q6)]) | (rw [xAcc_8 (e5.symm.trans q6), ← e109, ← e121]) | (rw [xAcc_9 (by rw [← e5]; exact q6), ← e172, ← e136, ← e154, ← e140, ← e143, ← e158, ← e161]; first | (rw [if_neg (xb_f e177 c180), e197, ← e154]) | (rw [if_pos (xb_t e177 c180), e188, ← e136])) | (rw [xAcc_12 (e5.symm.trans q6), ← e211]; first | rw [if_neg (xb_f e213 c216)] | (rw [if_pos (xb_t e213 c216), ← e225])) | (rw [xAcc_13 (by rw [← e5]; exact q6), ← e240]) | (rw [xAcc_0 (by rw [← e5]; exact q6)]))
  · refine kr_tab h 94 dX0_accept_6 (by rw [ej6, hg6]; decide +kernel) ?_
    have q6 : v5 = 6 := by rw [ej6, hg6]; decide +kernel
    clear hg6 ej6 hj6
    refine kr_aload_n h dX0_accept_94 rfl 0 rfl ?_
    refine kr_iload_n h dX0_accept_95 rfl 1 rfl ?_
    refine kr_iload_n h dX0_accept_96 rfl 2 rfl ?_
    refine kr_vA h (kc_rV h (c_step l D cI cZ cJ q x p s (hp) (xG_place (hg6 (by rw [← e5]; exact q6)) hs)) mlX0_213 yvX0_step dX0_accept_97 rfl rfl ⟨by dsimp only; omega, by dsimp only; omega⟩ ⟨Nat.le_of_ble_eq_true rfl, Nat.le_of_ble_eq_true rfl⟩ (Nat.le_of_ble_eq_true rfl) [0, 1, 2, 3, 4, 5, 6, 7, 8, 9, 10, 11] rfl rfl 0 rfl rfl rfl) ?_
    refine kr_goto h 249 dX0_accept_100 (by decide) ?_
    exact kr_vret h hr hlk dX0_accept_249 (by first | (rw [xAcc_3 (e5.symm.trans q6), ← e73]; first | rw [if_neg (xb_f e75 c78)] | (rw [if_pos (xb_t e75 c78), e89, e87]; rfl)) | (rw [xAcc_k6 (e5.symm.trans q6)]) | (rw [xAcc_8 (e5.symm.trans q6), ← e109, ← e121]) | (rw [xAcc_9 (by rw [← e5]; exact q6), ← e172, ← e136, ← e154, ← e140, ← e143, ← e158, ← e161]; first | (rw [if_neg (xb_f e177 c180), e197, ← e154]) | (rw [if_pos (xb_t e177 c180), e188, ← e136])) | (rw [xAcc_12 (e5.symm.trans q6), ← e211]; first | rw [if_neg (xb_f e213 c216)] | (rw [if_pos (xb_t e213 c216), ← e225])) | (rw [xAcc_13 (by rw [← e5]; exact q6), ← e240]) | (rw [xAcc_0 (by rw [← e5]; exact q6)]))
  · refine kr_tab h 103 dX0_accept_6 (by rw [ej6, hg6]; decide +kernel) ?_
    have q6 : v5 = 8 := by rw [ej6, hg6]; decide +kernel
    clear hg6 ej6 hj6
    refine kr_aload_n h dX0_accept_103 rfl 0 rfl ?_
    refine kr_aload_n h dX0_accept_104 rfl 0 rfl ?_
    refine kr_get h FX0ok 0 1 dX0_accept_105 flX0_13 rfl rfl (by decide) rfl rfl ?_
    refine kr_iload_n h dX0_accept_108 rfl 1 rfl ?_
    refine kr_iald h 2 0 dX0_accept_109 rfl rfl (hp) (fun v109 e109 => ?_)
    refine kr_iload_n h dX0_accept_110 rfl 2 rfl ?_
    refine kr_iload_n h dX0_accept_111 rfl 3 rfl ?_
    refine kr_vA h (kc_rV h (IH x v109 s v (by rw [e109]; exact hgA (Or.inl (Or.inl (by rw [← e5]; exact q6)))) hs) mlX0_217 yvX0_accept dX0_accept_112 rfl rfl ⟨by dsimp only; omega, by dsimp only; omega⟩ ⟨Nat.le_of_ble_eq_true rfl, Nat.le_of_ble_eq_true rfl⟩ (Nat.le_of_ble_eq_true rfl) [0, 1, 2, 3, 4, 5, 6, 7, 8, 9, 10, 11] rfl rfl 0 rfl rfl rfl) ?_
    refine kr_aload_n h dX0_accept_115 rfl 0 rfl ?_
    refine kr_aload_n h dX0_accept_116 rfl 0 rfl ?_
    refine kr_get h FX0ok 0 2 dX0_accept_117 flX0_16 rfl rfl (by decide) rfl rfl ?_
    refine kr_iload_n h dX0_accept_120 rfl 1 rfl ?_
    refine kr_iald h 3 0 dX0_accept_121 rfl rfl (hp) (fun v121 e121 => ?_)
    rw [(xAcc_6 _ _ _ _ _).1 2 (by decide)] at e121
    refine kr_iload_n h dX0_accept_122 rfl 2 rfl ?_
    refine kr_iload_n h dX0_accept_123 rfl 3 rfl ?_
    refine kr_vA h (kc_rV h (IH (xAcc d x v109 s v) v121 s v (xG_6 (xAcc_6 _ _ _ _ _) _ _ (by rw [e121]; exact hgB (Or.inl (Or.inl (by rw [← e5]; exact q6))))) hs) mlX0_217 yvX0_accept dX0_accept_124 rfl rfl ⟨by dsimp only; omega, by dsimp only; omega⟩ ⟨Nat.le_of_ble_eq_true rfl, Nat.le_of_ble_eq_true rfl⟩ (Nat.le_of_ble_eq_true rfl) [0, 1, 2, 3, 4, 5, 6, 7, 8, 9, 10, 11] rfl rfl 0 rfl rfl rfl) ?_
    refine kr_goto h 249 dX0_accept_127 (by decide) ?_
    exact kr_vret h hr hlk dX0_accept_249 (by first | (rw [xAcc_3 (e5.symm.trans q6), ← e73]; first | rw [if_neg (xb_f e75 c78)] | (rw [if_pos (xb_t e75 c78), e89, e87]; rfl)) | (rw [xAcc_k6 (e5.symm.trans q6)]) | (rw [xAcc_8 (e5.symm.trans q6), ← e109, ← e121]) | (rw [xAcc_9 (by rw [← e5]; exact q6), ← e172, ← e136, ← e154, ← e140, ← e143, ← e158, ← e161]; first | (rw [if_neg (xb_f e177 c180), e197, ← e154]) | (rw [if_pos (xb_t e177 c180), e188, ← e136])) | (rw [xAcc_12 (e5.symm.trans q6), ← e211]; first | rw [if_neg (xb_f e213 c216)] | (rw [if_pos (xb_t e213 c216), ← e225])) | (rw [xAcc_13 (by rw [← e5]; exact q6), ← e240]) | (rw [xAcc_0 (by rw [← e5]; exact q6)]))
  · refine kr_tab h 130 dX0_accept_6 (by rcases hg6 with hg6 | hg6 | hg6 <;> rw [ej6, hg6] <;> decide +kernel) ?_
    have q6 : v5 = 9 ∨ v5 = 10 ∨ v5 = 11 := by rcases hg6 with hg6 | hg6 | hg6 <;> rw [ej6, hg6] <;> decide +kernel
    clear hg6 ej6 hj6
    refine kr_aload_n h dX0_accept_130 rfl 0 rfl ?_
    refine kr_aload_n h dX0_accept_131 rfl 0 rfl ?_
    refine kr_get h FX0ok 0 1 dX0_accept_132 flX0_13 rfl rfl (by decide) rfl rfl ?_
    refine kr_iload_n h dX0_accept_135 rfl 1 rfl ?_
    refine kr_iald h 2 0 dX0_accept_136 rfl rfl (hp) (fun v136 e136 => ?_)
    refine kr_iload_n h dX0_accept_137 rfl 2 rfl ?_
    refine kr_iload_n h dX0_accept_138 rfl 3 rfl ?_
    refine kr_iconst (v := 0) h dX0_accept_139 (by decide) ?_
    refine kr_iA h (kc_rV h (c_suggest0 l D cI cZ cJ q d x v136 s v (by rw [e136]; exact hgA (Or.inl (Or.inr (by rw [← e5]; exact q6)))) hs) mlX0_180 yvX0_suggest dX0_accept_140 rfl rfl ⟨by dsimp only; omega, by dsimp only; omega⟩ ⟨Nat.le_of_ble_eq_true rfl, Nat.le_of_ble_eq_true rfl⟩ (Nat.le_of_ble_eq_true rfl) [0, 1, 2, 3, 4, 5, 6, 7, 8, 9, 10, 11] rfl rfl 0 rfl rfl rfl) (fun v140 e140 => ?_)
    refine kr_i0 h (kc_rS h (c_kindOf l D cI cZ cJ v140) mlX0_137 ysX0_kindOf dX0_accept_143 rfl rfl ⟨by dsimp only; omega, by dsimp only; omega⟩ ⟨Nat.le_of_ble_eq_true rfl, Nat.le_of_ble_eq_true rfl⟩ (Nat.le_of_ble_eq_true rfl) [] rfl rfl) (fun v143 e143 => ?_)
    refine kr_istore (lv' := [(4, .int v143), (0, .ref (q 0)), (1, .int p), (2, .int s), (3, .int v)]) h dX0_accept_146 (by decide) rfl ?_
    refine kr_aload_n h dX0_accept_148 rfl 1 rfl ?_
    refine kr_aload_n h dX0_accept_149 rfl 1 rfl ?_
    refine kr_get h FX0ok 0 2 dX0_accept_150 flX0_16 rfl rfl (by decide) rfl rfl ?_
    refine kr_iload_n h dX0_accept_153 rfl 2 rfl ?_
    refine kr_iald h 3 0 dX0_accept_154 rfl rfl (hp) (fun v154 e154 => ?_)
    refine kr_iload_n h dX0_accept_155 rfl 3 rfl ?_
    refine kr_iload_n h dX0_accept_156 rfl 4 rfl ?_
    refine kr_iconst (v := 0) h dX0_accept_157 (by decide) ?_
    refine kr_iA h (kc_rV h (c_suggest0 l D cI cZ cJ q d x v154 s v (by rw [e154]; exact hgB (Or.inl (Or.inr (by rw [← e5]; exact q6)))) hs) mlX0_180 yvX0_suggest dX0_accept_158 rfl rfl ⟨by dsimp only; omega, by dsimp only; omega⟩ ⟨Nat.le_of_ble_eq_true rfl, Nat.le_of_ble_eq_true rfl⟩ (Nat.le_of_ble_eq_true rfl) [0, 1, 2, 3, 4, 5, 6, 7, 8, 9, 10, 11] rfl rfl 0 rfl rfl rfl) (fun v158 e158 => ?_)
    refine kr_i0 h (kc_rS h (c_kindOf l D cI cZ cJ v158) mlX0_137 ysX0_kindOf dX0_accept_161 rfl rfl ⟨by dsimp only; omega, by dsimp only; omega⟩ ⟨Nat.le_of_ble_eq_true rfl, Nat.le_of_ble_eq_true rfl⟩ (Nat.le_of_ble_eq_true rfl) [] rfl rfl) (fun v161 e161 => ?_)
    refine kr_istore (lv' := [(5, .int v161), (4, .int v143), (0, .ref (q 0)), (1, .int p), (2, .int s), (3, .int v)]) h dX0_accept_164 (by decide) rfl ?_
    refine kr_aload_n h dX0_accept_166 rfl 2 rfl ?_
    refine kr_aload_n h dX0_accept_167 rfl 2 rfl ?_
    refine kr_get h FX0ok 0 0 dX0_accept_168 flX0_9 rfl rfl (by decide) rfl rfl ?_
    refine kr_iload_n h dX0_accept_171 rfl 3 rfl ?_
    refine kr_iald h 1 0 dX0_accept_172 rfl rfl (hp) (fun v172 e172 => ?_)
    refine kr_iload h dX0_accept_173 1 rfl ?_
    refine kr_iload h dX0_accept_175 0 rfl ?_
    refine kr_i0 h (kc_rS h (c_takesFirst l D cI cZ cJ v172 v143 v161) mlX0_203 ysX0_takesFirst dX0_accept_177 rfl rfl ⟨by dsimp only; omega, by dsimp only; omega⟩ ⟨Nat.le_of_ble_eq_true rfl, Nat.le_of_ble_eq_true rfl⟩ (Nat.le_of_ble_eq_true rfl) [] rfl rfl) (fun v177 e177 => ?_)
    refine kr_if_eq h 192 dX0_accept_180 (by decide) (fun c180 => ?_) (fun c180 => ?_)
    · refine kr_aload_n h dX0_accept_192 rfl 2 rfl ?_
      refine kr_get h FX0ok 0 2 dX0_accept_193 flX0_16 rfl rfl (by decide) rfl rfl ?_
      refine kr_iload_n h dX0_accept_196 rfl 3 rfl ?_
      refine kr_iald h 3 0 dX0_accept_197 rfl rfl (hp) (fun v197 e197 => ?_)
      refine kr_iload_n h dX0_accept_198 rfl 4 rfl ?_
      refine kr_iload_n h dX0_accept_199 rfl 5 rfl ?_
      refine kr_vA h (kc_rV h (IH x _ s v (by first | (rw [e188]; exact hgA (Or.inl (Or.inr (by rw [← e5]; exact q6)))) | (rw [e197]; exact hgB (Or.inl (Or.inr (by rw [← e5]; exact q6))))) hs) mlX0_217 yvX0_accept dX0_accept_200 rfl rfl ⟨by dsimp only; omega, by dsimp only; omega⟩ ⟨Nat.le_of_ble_eq_true rfl, Nat.le_of_ble_eq_true rfl⟩ (Nat.le_of_ble_eq_true rfl) [0, 1, 2, 3, 4, 5, 6, 7, 8, 9, 10, 11] rfl rfl 0 rfl rfl rfl) ?_
      refine kr_goto h 249 dX0_accept_203 (by decide) ?_
      exact kr_vret h hr hlk dX0_accept_249 (by first | (rw [xAcc_3 (e5.symm.trans q6), ← e73]; first | rw [if_neg (xb_f e75 c78)] | (rw [if_pos (xb_t e75 c78), e89, e87]; rfl)) | (rw [xAcc_k6 (e5.symm.trans q6)]) | (rw [xAcc_8 (e5.symm.trans q6), ← e109, ← e121]) | (rw [xAcc_9 (by rw [← e5]; exact q6), ← e172, ← e136, ← e154, ← e140, ← e143, ← e158, ← e161]; first | (rw [if_neg (xb_f e177 c180), e197, ← e154]) | (rw [if_pos (xb_t e177 c180), e188, ← e136])) | (rw [xAcc_12 (e5.symm.trans q6), ← e211]; first | rw [if_neg (xb_f e213 c216)] | (rw [if_pos (xb_t e213 c216), ← e225])) | (rw [xAcc_13 (by rw [← e5]; exact q6), ← e240]) | (rw [xAcc_0 (by rw [← e5]; exact q6)]))
    · refine kr_aload_n h dX0_accept_183 rfl 2 rfl ?_
      refine kr_get h FX0ok 0 1 dX0_accept_184 flX0_13 rfl rfl (by decide) rfl rfl ?_
      refine kr_iload_n h dX0_accept_187 rfl 3 rfl ?_
      refine kr_iald h 2 0 dX0_accept_188 rfl rfl (hp) (fun v188 e188 => ?_)
      refine kr_goto h 198 dX0_accept_189 (by decide) ?_
      refine kr_iload_n h dX0_accept_198 rfl 4 rfl ?_
      refine kr_iload_n h dX0_accept_199 rfl 5 rfl ?_
      refine kr_vA h (kc_rV h (IH x _ s v (by first | (rw [e188]; exact hgA (Or.inl (Or.inr (by rw [← e5]; exact q6)))) | (rw [e197]; exact hgB (Or.inl (Or.inr (by rw [← e5]; exact q6))))) hs) mlX0_217 yvX0_accept dX0_accept_200 rfl rfl ⟨by dsimp only; omega, by dsimp only; omega⟩ ⟨Nat.le_of_ble_eq_true rfl, Nat.le_of_ble_eq_true rfl⟩ (Nat.le_of_ble_eq_true rfl) [0, 1, 2, 3, 4, 5, 6, 7, 8, 9, 10, 11] rfl rfl 0 rfl rfl rfl) ?_
      refine kr_goto h 249 dX0_accept_203 (by decide) ?_
      exact kr_vret h hr hlk dX0_accept_249 (by first | (rw [xAcc_3 (e5.symm.trans q6), ← e73]; first | rw [if_neg (xb_f e75 c78)] | (rw [if_pos (xb_t e75 c78), e89, e87]; rfl)) | (rw [xAcc_k6 (e5.symm.trans q6)]) | (rw [xAcc_8 (e5.symm.trans q6), ← e109, ← e121]) | (rw [xAcc_9 (by rw [← e5]; exact q6), ← e172, ← e136, ← e154, ← e140, ← e143, ← e158, ← e161]; first | (rw [if_neg (xb_f e177 c180), e197, ← e154]) | (rw [if_pos (xb_t e177 c180), e188, ← e136])) | (rw [xAcc_12 (e5.symm.trans q6), ← e211]; first | rw [if_neg (xb_f e213 c216)] | (rw [if_pos (xb_t e213 c216), ← e225])) | (rw [xAcc_13 (by rw [← e5]; exact q6), ← e240]) | (rw [xAcc_0 (by rw [← e5]; exact q6)]))
  · refine kr_tab h 206 dX0_accept_6 (by rw [ej6, hg6]; decide +kernel) ?_
    have q6 : v5 = 12 := by rw [ej6, hg6]; decide +kernel
    clear hg6 ej6 hj6
    refine kr_aload_n h dX0_accept_206 rfl 0 rfl ?_
    refine kr_get h FX0ok 0 1 dX0_accept_207 flX0_13 rfl rfl (by decide) rfl rfl ?_
    refine kr_iload_n h dX0_accept_210 rfl 1 rfl ?_
    refine kr_iald h 2 0 dX0_accept_211 rfl rfl (hp) (fun v211 e211 => ?_)
    refine kr_iload_n h dX0_accept_212 rfl 2 rfl ?_
    refine kr_i0 h (kc_rS h (c_inSet l D cI cZ cJ v211 s) mlX0_187 ysX0_inSet dX0_accept_213 rfl rfl ⟨by dsimp only; omega, by dsimp only; omega⟩ ⟨Nat.le_of_ble_eq_true rfl, Nat.le_of_ble_eq_true rfl⟩ (Nat.le_of_ble_eq_true rfl) [] rfl rfl) (fun v213 e213 => ?_)
    refine kr_if_eq h 249 dX0_accept_216 (by decide) (fun c216 => ?_) (fun c216 => ?_)
    · exact kr_vret h hr hlk dX0_accept_249 (by first | (rw [xAcc_3 (e5.symm.trans q6), ← e73]; first | rw [if_neg (xb_f e75 c78)] | (rw [if_pos (xb_t e75 c78), e89, e87]; rfl)) | (rw [xAcc_k6 (e5.symm.trans q6)]) | (rw [xAcc_8 (e5.symm.trans q6), ← e109, ← e121]) | (rw [xAcc_9 (by rw [← e5]; exact q6), ← e172, ← e136, ← e154, ← e140, ← e143, ← e158, ← e161]; first | (rw [if_neg (xb_f e177 c180), e197, ← e154]) | (rw [if_pos (xb_t e177 c180), e188, ← e136])) | (rw [xAcc_12 (e5.symm.trans q6), ← e211]; first | rw [if_neg (xb_f e213 c216)] | (rw [if_pos (xb_t e213 c216), ← e225])) | (rw [xAcc_13 (by rw [← e5]; exact q6), ← e240]) | (rw [xAcc_0 (by rw [← e5]; exact q6)]))
    · refine kr_aload_n h dX0_accept_219 rfl 0 rfl ?_
      refine kr_aload_n h dX0_accept_220 rfl 0 rfl ?_
      refine kr_get h FX0ok 0 2 dX0_accept_221 flX0_16 rfl rfl (by decide) rfl rfl ?_
      refine kr_iload_n h dX0_accept_224 rfl 1 rfl ?_
      refine kr_iald h 3 0 dX0_accept_225 rfl rfl (hp) (fun v225 e225 => ?_)
      refine kr_iload_n h dX0_accept_226 rfl 2 rfl ?_
      refine kr_iload_n h dX0_accept_227 rfl 3 rfl ?_
      refine kr_vA h (kc_rV h (IH x v225 s v (by rw [e225]; exact hgB (Or.inr (by rw [← e5]; exact q6))) hs) mlX0_217 yvX0_accept dX0_accept_228 rfl rfl ⟨by dsimp only; omega, by dsimp only; omega⟩ ⟨Nat.le_of_ble_eq_true rfl, Nat.le_of_ble_eq_true rfl⟩ (Nat.le_of_ble_eq_true rfl) [0, 1, 2, 3, 4, 5, 6, 7, 8, 9, 10, 11] rfl rfl 0 rfl rfl rfl) ?_
      refine kr_goto h 249 dX0_accept_231 (by decide) ?_
      exact kr_vret h hr hlk dX0_accept_249 (by first | (rw [xAcc_3 (e5.symm.trans q6), ← e73]; first | rw [if_neg (xb_f e75 c78)] | (rw [if_pos (xb_t e75 c78), e89, e87]; rfl)) | (rw [xAcc_k6 (e5.symm.trans q6)]) | (rw [xAcc_8 (e5.symm.trans q6), ← e109, ← e121]) | (rw [xAcc_9 (by rw [← e5]; exact q6), ← e172, ← e136, ← e154, ← e140, ← e143, ← e158, ← e161]; first | (rw [if_neg (xb_f e177 c180), e197, ← e154]) | (rw [if_pos (xb_t e177 c180), e188, ← e136])) | (rw [xAcc_12 (e5.symm.trans q6), ← e211]; first | rw [if_neg (xb_f e213 c216)] | (rw [if_pos (xb_t e213 c216), ← e225])) | (rw [xAcc_13 (by rw [← e5]; exact q6), ← e240]) | (rw [xAcc_0 (by rw [← e5]; exact q6)]))
  · refine kr_tab h 234 dX0_accept_6 (by rcases hg6 with hg6 | hg6 <;> rw [ej6, hg6] <;> decide +kernel) ?_
    have q6 : v5 = 13 ∨ v5 = 14 := by rcases hg6 with hg6 | hg6 <;> rw [ej6, hg6] <;> decide +kernel
    clear hg6 ej6 hj6
    refine kr_aload_n h dX0_accept_234 rfl 0 rfl ?_
    refine kr_aload_n h dX0_accept_235 rfl 0 rfl ?_
    refine kr_get h FX0ok 0 1 dX0_accept_236 flX0_13 rfl rfl (by decide) rfl rfl ?_
    refine kr_iload_n h dX0_accept_239 rfl 1 rfl ?_
    refine kr_iald h 2 0 dX0_accept_240 rfl rfl (hp) (fun v240 e240 => ?_)
    refine kr_iload_n h dX0_accept_241 rfl 2 rfl ?_
    refine kr_iload_n h dX0_accept_242 rfl 3 rfl ?_
    refine kr_vA h (kc_rV h (IH x v240 s v (by rw [e240]; exact hgA (Or.inr (by rw [← e5]; exact q6))) hs) mlX0_217 yvX0_accept dX0_accept_243 rfl rfl ⟨by dsimp only; omega, by dsimp only; omega⟩ ⟨Nat.le_of_ble_eq_true rfl, Nat.le_of_ble_eq_true rfl⟩ (Nat.le_of_ble_eq_true rfl) [0, 1, 2, 3, 4, 5, 6, 7, 8, 9, 10, 11] rfl rfl 0 rfl rfl rfl) ?_
    refine kr_goto h 249 dX0_accept_246 (by decide) ?_
    exact kr_vret h hr hlk dX0_accept_249 (by first | (rw [xAcc_3 (e5.symm.trans q6), ← e73]; first | rw [if_neg (xb_f e75 c78)] | (rw [if_pos (xb_t e75 c78), e89, e87]; rfl)) | (rw [xAcc_k6 (e5.symm.trans q6)]) | (rw [xAcc_8 (e5.symm.trans q6), ← e109, ← e121]) | (rw [xAcc_9 (by rw [← e5]; exact q6), ← e172, ← e136, ← e154, ← e140, ← e143, ← e158, ← e161]; first | (rw [if_neg (xb_f e177 c180), e197, ← e154]) | (rw [if_pos (xb_t e177 c180), e188, ← e136])) | (rw [xAcc_12 (e5.symm.trans q6), ← e211]; first | rw [if_neg (xb_f e213 c216)] | (rw [if_pos (xb_t e213 c216), ← e225])) | (rw [xAcc_13 (by rw [← e5]; exact q6), ← e240]) | (rw [xAcc_0 (by rw [← e5]; exact q6)]))
