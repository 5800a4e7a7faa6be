set_option maxHeartbeats 4000000 in
set_option maxRecDepth 100000 in
theorem c_act_gen (l : Launch) (D : va_G) (cI cZ cJ : ClassId) (q : Nat → Nat) (x : xSt) (sx vx dp : Int32) (F L fr lo : Nat) (rc : Option (xSt → Int32 → Int32 → Int32 × xSt)) (hF : 19 ≤ F ∧ 509 ≤ L) (hF1 : rc = none ∨ (fr + 1 ≤ F ∧ 27 + lo ≤ L)) (hin : xInst x) (hV : xV x) (hs : xSo sx)
    (hrc : (¬ dp < 5 ∧ rc = none) ∨ (dp < 5 ∧ ∃ f, rc = some f ∧ (∀ x s v, xKeep x (f x s v).2) ∧ (∀ (x : xSt) (s2 v2 dq : Int32), dq = dp + 1 → xInst x → xV x → xSo s2 → kc_M l yX0_actAtDepth cX0_actAtDepth 8 (some .int) fr lo 0 0 [.ref (q 0), .int s2, .int v2, .int dq] D vwCl (tyL cI cZ cJ) (wX cI cZ q x) (some (.int (f x s2 v2).1)) (wX cI cZ q (f x s2 v2).2)))) : kc_M l yX0_actAtDepth cX0_actAtDepth 8 (some .int) F L 0 0 [.ref (q 0), .int sx, .int vx, .int dp] D vwCl (tyL cI cZ cJ) (wX cI cZ q x) (some (.int (if x.2 5 = -1 then (0, xDo x sx vx) else xLoop rc 41 x sx vx : Int32 × xSt).1)) (wX cI cZ q (if x.2 5 = -1 then (0, xDo x sx vx) else xLoop rc 41 x sx vx : Int32 × xSt).2) := by
  refine kc_start RX0 (by decide +kernel) rfl (Nat.le_of_ble_eq_true rfl) ?_
  intro zp ze zs zm zb zt zc h hr hlk hnm
  refine kr_aload_n h dX0_actAtDepth_0 rfl 0 rfl ?_
  refine kr_get h FX0ok 0 16 dX0_actAtDepth_1 flX0_44 rfl rfl (by decide) rfl rfl ?_
  refine kr_top h (fun v1 e1 => ?_)
  refine kr_iconst (v := (-1)) h dX0_actAtDepth_4 (by decide) ?_
  refine kr_icmp_ne h 16 dX0_actAtDepth_5 (by decide) (fun c5 => ?_) (fun c5 => ?_)
  · refine kr_iconst (v := 0) h dX0_actAtDepth_16 (by decide) ?_
    refine kr_istore (lv' := [(4, .int 0), (0, .ref (q 0)), (1, .int sx), (2, .int vx), (3, .int dp)]) h dX0_actAtDepth_17 (by decide) rfl ?_
    have hne : ¬ x.2 5 = -1 := fun z => c5 (e1.trans z)
    exact lp_act h hr hlk ⟨rfl, rfl⟩ hF hF1 hs hrc 41 0 0 x rfl (by omega) hne hin hV (by rw [if_neg hne]) (by rw [if_neg hne])
  · refine kr_aload_n h dX0_actAtDepth_8 rfl 0 rfl ?_
    refine kr_iload_n h dX0_actAtDepth_9 rfl 1 rfl ?_
    refine kr_iload_n h dX0_actAtDepth_10 rfl 2 rfl ?_
    refine kr_vA h (kc_rV h (c_perform l D cI cZ cJ q x sx vx (xSo_in hs)) mlX0_221 yvX0_perform dX0_actAtDepth_11 rfl rfl ⟨Nat.le_trans (by decide) hF.1, Nat.le_trans (by decide) hF.2⟩ ⟨Nat.le_of_ble_eq_true rfl, Nat.le_of_ble_eq_true rfl⟩ (Nat.le_of_ble_eq_true rfl) [0, 1, 2, 3, 4, 5, 6, 7, 8, 9, 10, 11] rfl rfl 0 rfl rfl rfl) ?_
    refine kr_iconst (v := 0) h dX0_actAtDepth_14 (by decide) ?_
    exact kr_iret h hr hlk dX0_actAtDepth_15 (by rw [if_pos (e1.symm.trans c5)]) (by rw [if_pos (e1.symm.trans c5)])
theorem c_actAtDepth (l : Launch) (D : va_G) (cI cZ cJ : ClassId) (q : Nat → Nat) : ∀ (dd : Nat) (x : xSt) (sx vx dp : Int32), dd ≤ 4 → dp = nI (5 - dd) → xInst x → xV x → xSo sx → kc_M l yX0_actAtDepth cX0_actAtDepth 8 (some .int) (dd + 19) (27 * dd + 509) 0 0 [.ref (q 0), .int sx, .int vx, .int dp] D vwCl (tyL cI cZ cJ) (wX cI cZ q x) (some (.int (xAct dd x sx vx).1)) (wX cI cZ q (xAct dd x sx vx).2) := by
  intro dd
  induction dd with
  | zero =>
    intro x sx vx dp _ hdp hin hV hs
    exact c_act_gen l D cI cZ cJ q x sx vx dp (0 + 19) (27 * 0 + 509) 0 0 none ⟨by omega, by omega⟩ (Or.inl rfl) hin hV hs (Or.inl ⟨by rw [hdp]; decide, rfl⟩)
  | succ dd ih =>
    intro x sx vx dp hd hdp hin hV hs
    refine c_act_gen l D cI cZ cJ q x sx vx dp (dd + 1 + 19) (27 * (dd + 1) + 509) (dd + 19) (27 * dd + 509) (some (xAct dd)) ⟨by omega, by omega⟩ (Or.inr ⟨by omega, by omega⟩) hin hV hs (Or.inr ⟨?_, xAct dd, rfl, xKeep_act dd, ?_⟩)
    · rw [hdp]; exact nI_lt (show 5 - (dd + 1) < 5 by omega) (by decide)
    · intro x2 s2 v2 dq hdq hin2 hV2 hs2
      refine ih x2 s2 v2 dq (by omega) ?_ hin2 hV2 hs2
      rw [hdq, hdp, nI_1, show 5 - (dd + 1) + 1 = 5 - dd by omega]
