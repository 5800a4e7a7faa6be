set_option maxHeartbeats 4000000 in
set_option maxRecDepth 100000 in
theorem w_table (l : Launch) (hst : l.stackTraces = false) (D : va_G) (cI cZ cJ : ClassId) (q : Nat → Nat) (o : Nat) (f : Nat → Int64) (X : xSt) (p0 p1 p2 p3 : Int32) : kc_MW l yL_table cL_table 7 (some .int) [(0, 14, 17, 13)] 7 116 1 6 [.ref (q 0), .int p0, .int p1, .int p2, .int p3, .ref o] D vwCl (tyL cI cZ cJ) (wX cI cZ q X ++ [(o, .inl (cJ, 1, .inr (.inl f)))]) (some (.int (kO (fun _ => 1) (xTabO X p0 p1 p2 p3)))) (wX cI cZ q (xTab X p0 p1 p2 p3) ++ [(o, .inl (cJ, 1, .inr (.inl (fO (xTabO X p0 p1 p2 p3) f))))]) := by
  refine kc_startW RL (by decide +kernel) rfl (Nat.le_of_ble_eq_true rfl) ?_
  intro zp ze zs zm zb zt zc h hr hlk htab hT
  refine kr_aload h dL_table_0 5 rfl ?_
  refine kr_iconst (v := 0) h dL_table_2 (by decide) ?_
  refine kr_aload_n h dL_table_3 rfl 0 rfl ?_
  refine kr_iload_n h dL_table_4 rfl 1 rfl ?_
  refine kr_iload_n h dL_table_5 rfl 2 rfl ?_
  refine kr_iload_n h dL_table_6 rfl 3 rfl ?_
  refine kr_iload h dL_table_7 4 rfl ?_
  refine kr_try (o := xTabO X p0 p1 p2 p3) (w2 := wX cI cZ q (xTab X p0 p1 p2 p3)) (wr := [(o, .inl (cJ, 1, .inr (.inl f)))]) (ws' := (wX cI cZ q (xTab X p0 p1 p2 p3) ++ [(o, .inl (cJ, 1, .inr (.inl f)))])) h (kc_rX h hT (c_table l hst D cI cZ cJ q X p0 p1 p2 p3 ) mlL_7 yvX0_table dL_table_9 rfl rfl ⟨Nat.le_of_ble_eq_true rfl, Nat.le_of_ble_eq_true rfl⟩ ⟨Nat.le_of_ble_eq_true rfl, Nat.le_of_ble_eq_true rfl⟩ (Nat.le_of_ble_eq_true rfl) [0, 1, 2, 3, 4, 5, 6, 7, 8, 9, 10, 11] rfl rfl 0 rfl rfl rfl) [0, 1, 2, 3, 4, 5, 6, 7, 8, 9, 10, 11] [12] [1, 2, 3, 4, 5, 6, 7, 8, 9, 10, 11, 12, 0] rfl rfl rfl (by decide) rfl rfl (fun r ho => ?_) (fun E ho => ?_)
  · refine kr_i2l h dL_table_12 (fun v9 e9 => ?_)
    refine kr_last (ws' := (wX cI cZ q (xTab X p0 p1 p2 p3) ++ [(o, .inl (cJ, 1, .inr (.inl (vp_updL f 0 v9))))])) h 12 2 dL_table_13 rfl rfl (show vp_in (nI 0) 1 from vp_in_nI (by decide) (by decide)) rfl ?_
    refine kr_goto h 21 dL_table_14 (by decide) ?_
    refine kr_iconst (v := 0) h dL_table_21 (by decide) ?_
    exact kr_iret h hr hlk dL_table_22 (by rw [ho]; rfl) (by rw [ho, e9]; rfl)
  · have hE := xTabO_e ho
    subst hE
    refine kr_catch (E := eIA) (x := (0, 14, 17, 13)) (suf := []) h hT htab [] rfl (fun z hz => by simp at hz) (by decide) (by decide) clL_13 ctL_IA (fun a9 => ?_)
    refine kr_astore (lv' := [(6, .ref a9), (0, .ref (q 0)), (1, .int p0), (2, .int p1), (3, .int p2), (4, .int p3), (5, .ref o)]) h dL_table_17 (by decide) rfl ?_
    refine kr_iconst (v := 1) h dL_table_19 (by decide) ?_
    exact kr_iret h hr hlk dL_table_20 (by rw [ho]; rfl) (by rw [ho]; rfl)
set_option maxHeartbeats 4000000 in
set_option maxRecDepth 100000 in
theorem w_policy (l : Launch) (hst : l.stackTraces = false) (D : va_G) (cI cZ cJ : ClassId) (q : Nat → Nat) (o : Nat) (f : Nat → Int64) (X : xSt) (p0 p1 p2 p3 : Int32) (hN : xN X) : kc_MW l yL_policy cL_policy 7 (some .int) [(0, 14, 17, 13), (0, 14, 21, 18), (0, 14, 25, 20), (0, 14, 29, 22)] 7 115 1 6 [.ref (q 0), .int p0, .int p1, .int p2, .int p3, .ref o] D vwCl (tyL cI cZ cJ) (wX cI cZ q X ++ [(o, .inl (cJ, 1, .inr (.inl f)))]) (some (.int (kO cPol (xPolO X p0 p1 p2 p3)))) (wX cI cZ q (xPol X p0 p1 p2 p3) ++ [(o, .inl (cJ, 1, .inr (.inl (fO (xPolO X p0 p1 p2 p3) f))))]) := by
  refine kc_startW RL (by decide +kernel) rfl (Nat.le_of_ble_eq_true rfl) ?_
  intro zp ze zs zm zb zt zc h hr hlk htab hT
  refine kr_aload h dL_policy_0 5 rfl ?_
  refine kr_iconst (v := 0) h dL_policy_2 (by decide) ?_
  refine kr_aload_n h dL_policy_3 rfl 0 rfl ?_
  refine kr_iload_n h dL_policy_4 rfl 1 rfl ?_
  refine kr_iload_n h dL_policy_5 rfl 2 rfl ?_
  refine kr_iload_n h dL_policy_6 rfl 3 rfl ?_
  refine kr_iload h dL_policy_7 4 rfl ?_
  refine kr_try (o := xPolO X p0 p1 p2 p3) (w2 := wX cI cZ q (xPol X p0 p1 p2 p3)) (wr := [(o, .inl (cJ, 1, .inr (.inl f)))]) (ws' := (wX cI cZ q (xPol X p0 p1 p2 p3) ++ [(o, .inl (cJ, 1, .inr (.inl f)))])) h (kc_rX h hT (c_policy l hst D cI cZ cJ q X p0 p1 p2 p3 hN) mlL_15 yvX0_policy dL_policy_9 rfl rfl ⟨Nat.le_of_ble_eq_true rfl, Nat.le_of_ble_eq_true rfl⟩ ⟨Nat.le_of_ble_eq_true rfl, Nat.le_of_ble_eq_true rfl⟩ (Nat.le_of_ble_eq_true rfl) [0, 1, 2, 3, 4, 5, 6, 7, 8, 9, 10, 11] rfl rfl 0 rfl rfl rfl) [0, 1, 2, 3, 4, 5, 6, 7, 8, 9, 10, 11] [12] [1, 2, 3, 4, 5, 6, 7, 8, 9, 10, 11, 12, 0] rfl rfl rfl (by decide) rfl rfl (fun r ho => ?_) (fun E ho => ?_)
  · refine kr_i2l h dL_policy_12 (fun v9 e9 => ?_)
    refine kr_last (ws' := (wX cI cZ q (xPol X p0 p1 p2 p3) ++ [(o, .inl (cJ, 1, .inr (.inl (vp_updL f 0 v9))))])) h 12 2 dL_policy_13 rfl rfl (show vp_in (nI 0) 1 from vp_in_nI (by decide) (by decide)) rfl ?_
    refine kr_goto h 33 dL_policy_14 (by decide) ?_
    refine kr_iconst (v := 0) h dL_policy_33 (by decide) ?_
    exact kr_iret h hr hlk dL_policy_34 (by rw [ho]; rfl) (by rw [ho, e9]; rfl)
  · rcases xPolO_e ho with rfl | rfl | rfl | rfl
    · refine kr_catch (E := eIA) (x := (0, 14, 17, 13)) (suf := [(0, 14, 21, 18), (0, 14, 25, 20), (0, 14, 29, 22)]) h hT htab [] rfl (fun z hz => by simp at hz) (by decide) (by decide) clL_13 ctL_IA (fun a9 => ?_)
      refine kr_astore (lv' := [(6, .ref a9), (0, .ref (q 0)), (1, .int p0), (2, .int p1), (3, .int p2), (4, .int p3), (5, .ref o)]) h dL_policy_17 (by decide) rfl ?_
      refine kr_iconst (v := 1) h dL_policy_19 (by decide) ?_
      exact kr_iret h hr hlk dL_policy_20 (by rw [ho]; rfl) (by rw [ho]; rfl)
    · refine kr_catch (E := eIS) (x := (0, 14, 21, 18)) (suf := [(0, 14, 25, 20), (0, 14, 29, 22)]) h hT htab [(0, 14, 17, 13, eIA)] rfl (fun z hz => by simp only [List.mem_cons, List.not_mem_nil, or_false] at hz; rcases hz with rfl <;> exact ⟨by decide, by first | exact clL_13 | exact clL_18 | exact clL_20 | exact clL_22, by decide +kernel⟩) (by decide) (by decide) clL_18 ctL_IS (fun a9 => ?_)
      refine kr_astore (lv' := [(6, .ref a9), (0, .ref (q 0)), (1, .int p0), (2, .int p1), (3, .int p2), (4, .int p3), (5, .ref o)]) h dL_policy_21 (by decide) rfl ?_
      refine kr_iconst (v := 2) h dL_policy_23 (by decide) ?_
      exact kr_iret h hr hlk dL_policy_24 (by rw [ho]; rfl) (by rw [ho]; rfl)
    · refine kr_catch (E := eUO) (x := (0, 14, 25, 20)) (suf := [(0, 14, 29, 22)]) h hT htab [(0, 14, 17, 13, eIA), (0, 14, 21, 18, eIS)] rfl (fun z hz => by simp only [List.mem_cons, List.not_mem_nil, or_false] at hz; rcases hz with rfl | rfl <;> exact ⟨by decide, by first | exact clL_13 | exact clL_18 | exact clL_20 | exact clL_22, by decide +kernel⟩) (by decide) (by decide) clL_20 ctL_UO (fun a9 => ?_)
      refine kr_astore (lv' := [(6, .ref a9), (0, .ref (q 0)), (1, .int p0), (2, .int p1), (3, .int p2), (4, .int p3), (5, .ref o)]) h dL_policy_25 (by decide) rfl ?_
      refine kr_iconst (v := 3) h dL_policy_27 (by decide) ?_
      exact kr_iret h hr hlk dL_policy_28 (by rw [ho]; rfl) (by rw [ho]; rfl)
    · refine kr_catch (E := eAE) (x := (0, 14, 29, 22)) (suf := []) h hT htab [(0, 14, 17, 13, eIA), (0, 14, 21, 18, eIS), (0, 14, 25, 20, eUO)] rfl (fun z hz => by simp only [List.mem_cons, List.not_mem_nil, or_false] at hz; rcases hz with rfl | rfl | rfl <;> exact ⟨by decide, by first | exact clL_13 | exact clL_18 | exact clL_20 | exact clL_22, by decide +kernel⟩) (by decide) (by decide) clL_22 ctL_AE (fun a9 => ?_)
      refine kr_astore (lv' := [(6, .ref a9), (0, .ref (q 0)), (1, .int p0), (2, .int p1), (3, .int p2), (4, .int p3), (5, .ref o)]) h dL_policy_29 (by decide) rfl ?_
      refine kr_iconst (v := 4) h dL_policy_31 (by decide) ?_
      exact kr_iret h hr hlk dL_policy_32 (by rw [ho]; rfl) (by rw [ho]; rfl)
set_option maxHeartbeats 4000000 in
set_option maxRecDepth 100000 in
theorem w_install (l : Launch) (hst : l.stackTraces = false) (D : va_G) (cI cZ cJ : ClassId) (q : Nat → Nat) (o : Nat) (f : Nat → Int64) (X : xSt) (p0 : Int32) : kc_MW l yL_install cL_install 4 (some .int) [(0, 9, 12, 13)] 7 112 1 6 [.ref (q 0), .int p0, .ref o] D vwCl (tyL cI cZ cJ) (wX cI cZ q X ++ [(o, .inl (cJ, 1, .inr (.inl f)))]) (some (.int (kO (fun _ => 1) (xInsO X p0)))) (wX cI cZ q (xInsX X p0) ++ [(o, .inl (cJ, 1, .inr (.inl (fO (xInsO X p0) f))))]) := by
  refine kc_startW RL (by decide +kernel) rfl (Nat.le_of_ble_eq_true rfl) ?_
  intro zp ze zs zm zb zt zc h hr hlk htab hT
  refine kr_aload_n h dL_install_0 rfl 2 rfl ?_
  refine kr_iconst (v := 0) h dL_install_1 (by decide) ?_
  refine kr_aload_n h dL_install_2 rfl 0 rfl ?_
  refine kr_iload_n h dL_install_3 rfl 1 rfl ?_
  refine kr_try (o := xInsO X p0) (w2 := wX cI cZ q (xInsX X p0)) (wr := [(o, .inl (cJ, 1, .inr (.inl f)))]) (ws' := (wX cI cZ q (xInsX X p0) ++ [(o, .inl (cJ, 1, .inr (.inl f)))])) h (kc_rX h hT (c_install l hst D cI cZ cJ q X p0 ) mlL_24 yvX0_install dL_install_4 rfl rfl ⟨Nat.le_of_ble_eq_true rfl, Nat.le_of_ble_eq_true rfl⟩ ⟨Nat.le_of_ble_eq_true rfl, Nat.le_of_ble_eq_true rfl⟩ (Nat.le_of_ble_eq_true rfl) [0, 1, 2, 3, 4, 5, 6, 7, 8, 9, 10, 11] rfl rfl 0 rfl rfl rfl) [0, 1, 2, 3, 4, 5, 6, 7, 8, 9, 10, 11] [12] [1, 2, 3, 4, 5, 6, 7, 8, 9, 10, 11, 12, 0] rfl rfl rfl (by decide) rfl rfl (fun r ho => ?_) (fun E ho => ?_)
  · refine kr_i2l h dL_install_7 (fun v9 e9 => ?_)
    refine kr_last (ws' := (wX cI cZ q (xInsX X p0) ++ [(o, .inl (cJ, 1, .inr (.inl (vp_updL f 0 v9))))])) h 12 2 dL_install_8 rfl rfl (show vp_in (nI 0) 1 from vp_in_nI (by decide) (by decide)) rfl ?_
    refine kr_goto h 15 dL_install_9 (by decide) ?_
    refine kr_iconst (v := 0) h dL_install_15 (by decide) ?_
    exact kr_iret h hr hlk dL_install_16 (by rw [ho]; rfl) (by rw [ho, e9]; rfl)
  · have hE := xInsO_e ho
    subst hE
    refine kr_catch (E := eIA) (x := (0, 9, 12, 13)) (suf := []) h hT htab [] rfl (fun z hz => by simp at hz) (by decide) (by decide) clL_13 ctL_IA (fun a9 => ?_)
    refine kr_astore_n (lv' := [(3, .ref a9), (0, .ref (q 0)), (1, .int p0), (2, .ref o)]) h dL_install_12 rfl (by decide) rfl ?_
    refine kr_iconst (v := 1) h dL_install_13 (by decide) ?_
    exact kr_iret h hr hlk dL_install_14 (by rw [ho]; rfl) (by rw [ho]; rfl)
set_option maxHeartbeats 4000000 in
set_option maxRecDepth 100000 in
theorem w_act (l : Launch) (hst : l.stackTraces = false) (D : va_G) (cI cZ cJ : ClassId) (q : Nat → Nat) (o : Nat) (f : Nat → Int64) (X : xSt) (p0 p1 : Int32) (hi : xInst X) (hV : xV X) : kc_MW l yL_act cL_act 5 (some .int) [(0, 10, 13, 13), (0, 10, 17, 20), (0, 10, 21, 18), (0, 10, 25, 22)] 25 667 1 6 [.ref (q 0), .int p0, .int p1, .ref o] D vwCl (tyL cI cZ cJ) (wX cI cZ q X ++ [(o, .inl (cJ, 1, .inr (.inl f)))]) (some (.int (kO cAct (xActO X p0 p1)))) (wX cI cZ q (xActX X p0 p1) ++ [(o, .inl (cJ, 1, .inr (.inl (fO (xActO X p0 p1) f))))]) := by
  refine kc_startW RL (by decide +kernel) rfl (Nat.le_of_ble_eq_true rfl) ?_
  intro zp ze zs zm zb zt zc h hr hlk htab hT
  refine kr_aload_n h dL_act_0 rfl 3 rfl ?_
  refine kr_iconst (v := 0) h dL_act_1 (by decide) ?_
  refine kr_aload_n h dL_act_2 rfl 0 rfl ?_
  refine kr_iload_n h dL_act_3 rfl 1 rfl ?_
  refine kr_iload_n h dL_act_4 rfl 2 rfl ?_
  refine kr_try (o := xActO X p0 p1) (w2 := wX cI cZ q (xActX X p0 p1)) (wr := [(o, .inl (cJ, 1, .inr (.inl f)))]) (ws' := (wX cI cZ q (xActX X p0 p1) ++ [(o, .inl (cJ, 1, .inr (.inl f)))])) h (kc_rX h hT (c_act l hst D cI cZ cJ q X p0 p1 hi hV) mlL_28 yvX0_act dL_act_5 rfl rfl ⟨Nat.le_of_ble_eq_true rfl, Nat.le_of_ble_eq_true rfl⟩ ⟨Nat.le_of_ble_eq_true rfl, Nat.le_of_ble_eq_true rfl⟩ (Nat.le_of_ble_eq_true rfl) [0, 1, 2, 3, 4, 5, 6, 7, 8, 9, 10, 11] rfl rfl 0 rfl rfl rfl) [0, 1, 2, 3, 4, 5, 6, 7, 8, 9, 10, 11] [12] [1, 2, 3, 4, 5, 6, 7, 8, 9, 10, 11, 12, 0] rfl rfl rfl (by decide) rfl rfl (fun r ho => ?_) (fun E ho => ?_)
  · refine kr_i2l h dL_act_8 (fun v9 e9 => ?_)
    refine kr_last (ws' := (wX cI cZ q (xActX X p0 p1) ++ [(o, .inl (cJ, 1, .inr (.inl (vp_updL f 0 v9))))])) h 12 2 dL_act_9 rfl rfl (show vp_in (nI 0) 1 from vp_in_nI (by decide) (by decide)) rfl ?_
    refine kr_goto h 29 dL_act_10 (by decide) ?_
    refine kr_iconst (v := 0) h dL_act_29 (by decide) ?_
    exact kr_iret h hr hlk dL_act_30 (by rw [ho]; rfl) (by rw [ho, e9]; rfl)
  · rcases xActO_e ho with rfl | rfl | rfl | rfl
    · refine kr_catch (E := eIA) (x := (0, 10, 13, 13)) (suf := [(0, 10, 17, 20), (0, 10, 21, 18), (0, 10, 25, 22)]) h hT htab [] rfl (fun z hz => by simp at hz) (by decide) (by decide) clL_13 ctL_IA (fun a9 => ?_)
      refine kr_astore (lv' := [(4, .ref a9), (0, .ref (q 0)), (1, .int p0), (2, .int p1), (3, .ref o)]) h dL_act_13 (by decide) rfl ?_
      refine kr_iconst (v := 1) h dL_act_15 (by decide) ?_
      exact kr_iret h hr hlk dL_act_16 (by rw [ho]; rfl) (by rw [ho]; rfl)
    · refine kr_catch (E := eUO) (x := (0, 10, 17, 20)) (suf := [(0, 10, 21, 18), (0, 10, 25, 22)]) h hT htab [(0, 10, 13, 13, eIA)] rfl (fun z hz => by simp only [List.mem_cons, List.not_mem_nil, or_false] at hz; rcases hz with rfl <;> exact ⟨by decide, by first | exact clL_13 | exact clL_18 | exact clL_20 | exact clL_22, by decide +kernel⟩) (by decide) (by decide) clL_20 ctL_UO (fun a9 => ?_)
      refine kr_astore (lv' := [(4, .ref a9), (0, .ref (q 0)), (1, .int p0), (2, .int p1), (3, .ref o)]) h dL_act_17 (by decide) rfl ?_
      refine kr_iconst (v := 2) h dL_act_19 (by decide) ?_
      exact kr_iret h hr hlk dL_act_20 (by rw [ho]; rfl) (by rw [ho]; rfl)
    · refine kr_catch (E := eIS) (x := (0, 10, 21, 18)) (suf := [(0, 10, 25, 22)]) h hT htab [(0, 10, 13, 13, eIA), (0, 10, 17, 20, eUO)] rfl (fun z hz => by simp only [List.mem_cons, List.not_mem_nil, or_false] at hz; rcases hz with rfl | rfl <;> exact ⟨by decide, by first | exact clL_13 | exact clL_18 | exact clL_20 | exact clL_22, by decide +kernel⟩) (by decide) (by decide) clL_18 ctL_IS (fun a9 => ?_)
      refine kr_astore (lv' := [(4, .ref a9), (0, .ref (q 0)), (1, .int p0), (2, .int p1), (3, .ref o)]) h dL_act_21 (by decide) rfl ?_
      refine kr_iconst (v := 3) h dL_act_23 (by decide) ?_
      exact kr_iret h hr hlk dL_act_24 (by rw [ho]; rfl) (by rw [ho]; rfl)
    · refine kr_catch (E := eAE) (x := (0, 10, 25, 22)) (suf := []) h hT htab [(0, 10, 13, 13, eIA), (0, 10, 17, 20, eUO), (0, 10, 21, 18, eIS)] rfl (fun z hz => by simp only [List.mem_cons, List.not_mem_nil, or_false] at hz; rcases hz with rfl | rfl | rfl <;> exact ⟨by decide, by first | exact clL_13 | exact clL_18 | exact clL_20 | exact clL_22, by decide +kernel⟩) (by decide) (by decide) clL_22 ctL_AE (fun a9 => ?_)
      refine kr_astore (lv' := [(4, .ref a9), (0, .ref (q 0)), (1, .int p0), (2, .int p1), (3, .ref o)]) h dL_act_25 (by decide) rfl ?_
      refine kr_iconst (v := 4) h dL_act_27 (by decide) ?_
      exact kr_iret h hr hlk dL_act_28 (by rw [ho]; rfl) (by rw [ho]; rfl)
set_option maxHeartbeats 4000000 in
set_option maxRecDepth 100000 in
theorem w_ask (l : Launch) (hst : l.stackTraces = false) (D : va_G) (cI cZ cJ : ClassId) (q : Nat → Nat) (o : Nat) (f : Nat → Int64) (X : xSt) (p0 p1 : Int32) (hi : xInst X) : kc_MW l yL_ask cL_ask 5 (some .int) [(0, 10, 13, 13)] 19 501 1 6 [.ref (q 0), .int p0, .int p1, .ref o] D vwCl (tyL cI cZ cJ) (wX cI cZ q X ++ [(o, .inl (cJ, 1, .inr (.inl f)))]) (some (.int (kO (fun _ => 1) (xAskO X p0 p1)))) (wX cI cZ q (X) ++ [(o, .inl (cJ, 1, .inr (.inl (fO (xAskO X p0 p1) f))))]) := by
  refine kc_startW RL (by decide +kernel) rfl (Nat.le_of_ble_eq_true rfl) ?_
  intro zp ze zs zm zb zt zc h hr hlk htab hT
  refine kr_aload_n h dL_ask_0 rfl 3 rfl ?_
  refine kr_iconst (v := 0) h dL_ask_1 (by decide) ?_
  refine kr_aload_n h dL_ask_2 rfl 0 rfl ?_
  refine kr_iload_n h dL_ask_3 rfl 1 rfl ?_
  refine kr_iload_n h dL_ask_4 rfl 2 rfl ?_
  refine kr_try (o := xAskO X p0 p1) (w2 := wX cI cZ q (X)) (wr := [(o, .inl (cJ, 1, .inr (.inl f)))]) (ws' := (wX cI cZ q (X) ++ [(o, .inl (cJ, 1, .inr (.inl f)))])) h (kc_rX h hT (c_ask l hst D cI cZ cJ q X p0 p1 hi) mlL_32 yvX0_ask dL_ask_5 rfl rfl ⟨Nat.le_of_ble_eq_true rfl, Nat.le_of_ble_eq_true rfl⟩ ⟨Nat.le_of_ble_eq_true rfl, Nat.le_of_ble_eq_true rfl⟩ (Nat.le_of_ble_eq_true rfl) [0, 1, 2, 3, 4, 5, 6, 7, 8, 9, 10, 11] rfl rfl 0 rfl rfl rfl) [0, 1, 2, 3, 4, 5, 6, 7, 8, 9, 10, 11] [12] [1, 2, 3, 4, 5, 6, 7, 8, 9, 10, 11, 12, 0] rfl rfl rfl (by decide) rfl rfl (fun r ho => ?_) (fun E ho => ?_)
  · refine kr_i2l h dL_ask_8 (fun v9 e9 => ?_)
    refine kr_last (ws' := (wX cI cZ q (X) ++ [(o, .inl (cJ, 1, .inr (.inl (vp_updL f 0 v9))))])) h 12 2 dL_ask_9 rfl rfl (show vp_in (nI 0) 1 from vp_in_nI (by decide) (by decide)) rfl ?_
    refine kr_goto h 17 dL_ask_10 (by decide) ?_
    refine kr_iconst (v := 0) h dL_ask_17 (by decide) ?_
    exact kr_iret h hr hlk dL_ask_18 (by rw [ho]; rfl) (by rw [ho, e9]; rfl)
  · have hE := xAskO_e ho
    subst hE
    refine kr_catch (E := eIA) (x := (0, 10, 13, 13)) (suf := []) h hT htab [] rfl (fun z hz => by simp at hz) (by decide) (by decide) clL_13 ctL_IA (fun a9 => ?_)
    refine kr_astore (lv' := [(4, .ref a9), (0, .ref (q 0)), (1, .int p0), (2, .int p1), (3, .ref o)]) h dL_ask_13 (by decide) rfl ?_
    refine kr_iconst (v := 1) h dL_ask_15 (by decide) ?_
    exact kr_iret h hr hlk dL_ask_16 (by rw [ho]; rfl) (by rw [ho]; rfl)
set_option maxHeartbeats 4000000 in
set_option maxRecDepth 100000 in
theorem w_detail (l : Launch) (hst : l.stackTraces = false) (D : va_G) (cI cZ cJ : ClassId) (q : Nat → Nat) (o : Nat) (f : Nat → Int64) (X : xSt) (p0 p1 p2 : Int32) (hi : xInst X) (hV : xV X) : kc_MW l yL_detail cL_detail 6 (some .int) [(0, 12, 15, 13), (0, 12, 19, 18)] 19 505 1 6 [.ref (q 0), .int p0, .int p1, .int p2, .ref o] D vwCl (tyL cI cZ cJ) (wX cI cZ q X ++ [(o, .inl (cJ, 1, .inr (.inl f)))]) (some (.int (kO cDet (xDetO X p0 p1 p2)))) (wX cI cZ q (X) ++ [(o, .inl (cJ, 1, .inr (.inl (fO (xDetO X p0 p1 p2) f))))]) := by
  refine kc_startW RL (by decide +kernel) rfl (Nat.le_of_ble_eq_true rfl) ?_
  intro zp ze zs zm zb zt zc h hr hlk htab hT
  refine kr_aload h dL_detail_0 4 rfl ?_
  refine kr_iconst (v := 0) h dL_detail_2 (by decide) ?_
  refine kr_aload_n h dL_detail_3 rfl 0 rfl ?_
  refine kr_iload_n h dL_detail_4 rfl 1 rfl ?_
  refine kr_iload_n h dL_detail_5 rfl 2 rfl ?_
  refine kr_iload_n h dL_detail_6 rfl 3 rfl ?_
  refine kr_try (o := xDetO X p0 p1 p2) (w2 := wX cI cZ q (X)) (wr := [(o, .inl (cJ, 1, .inr (.inl f)))]) (ws' := (wX cI cZ q (X) ++ [(o, .inl (cJ, 1, .inr (.inl f)))])) h (kc_rX h hT (c_detail l hst D cI cZ cJ q X p0 p1 p2 hi hV) mlL_35 yvX0_detail dL_detail_7 rfl rfl ⟨Nat.le_of_ble_eq_true rfl, Nat.le_of_ble_eq_true rfl⟩ ⟨Nat.le_of_ble_eq_true rfl, Nat.le_of_ble_eq_true rfl⟩ (Nat.le_of_ble_eq_true rfl) [0, 1, 2, 3, 4, 5, 6, 7, 8, 9, 10, 11] rfl rfl 0 rfl rfl rfl) [0, 1, 2, 3, 4, 5, 6, 7, 8, 9, 10, 11] [12] [1, 2, 3, 4, 5, 6, 7, 8, 9, 10, 11, 12, 0] rfl rfl rfl (by decide) rfl rfl (fun r ho => ?_) (fun E ho => ?_)
  · refine kr_i2l h dL_detail_10 (fun v9 e9 => ?_)
    refine kr_last (ws' := (wX cI cZ q (X) ++ [(o, .inl (cJ, 1, .inr (.inl (vp_updL f 0 v9))))])) h 12 2 dL_detail_11 rfl rfl (show vp_in (nI 0) 1 from vp_in_nI (by decide) (by decide)) rfl ?_
    refine kr_goto h 23 dL_detail_12 (by decide) ?_
    refine kr_iconst (v := 0) h dL_detail_23 (by decide) ?_
    exact kr_iret h hr hlk dL_detail_24 (by rw [ho]; rfl) (by rw [ho, e9]; rfl)
  · rcases xDetO_e ho with rfl | rfl
    · refine kr_catch (E := eIA) (x := (0, 12, 15, 13)) (suf := [(0, 12, 19, 18)]) h hT htab [] rfl (fun z hz => by simp at hz) (by decide) (by decide) clL_13 ctL_IA (fun a9 => ?_)
      refine kr_astore (lv' := [(5, .ref a9), (0, .ref (q 0)), (1, .int p0), (2, .int p1), (3, .int p2), (4, .ref o)]) h dL_detail_15 (by decide) rfl ?_
      refine kr_iconst (v := 1) h dL_detail_17 (by decide) ?_
      exact kr_iret h hr hlk dL_detail_18 (by rw [ho]; rfl) (by rw [ho]; rfl)
    · refine kr_catch (E := eIS) (x := (0, 12, 19, 18)) (suf := []) h hT htab [(0, 12, 15, 13, eIA)] rfl (fun z hz => by simp only [List.mem_cons, List.not_mem_nil, or_false] at hz; rcases hz with rfl <;> exact ⟨by decide, by first | exact clL_13 | exact clL_18 | exact clL_20 | exact clL_22, by decide +kernel⟩) (by decide) (by decide) clL_18 ctL_IS (fun a9 => ?_)
      refine kr_astore (lv' := [(5, .ref a9), (0, .ref (q 0)), (1, .int p0), (2, .int p1), (3, .int p2), (4, .ref o)]) h dL_detail_19 (by decide) rfl ?_
      refine kr_iconst (v := 2) h dL_detail_21 (by decide) ?_
      exact kr_iret h hr hlk dL_detail_22 (by rw [ho]; rfl) (by rw [ho]; rfl)
set_option maxHeartbeats 4000000 in
set_option maxRecDepth 100000 in
theorem w_total (l : Launch) (hst : l.stackTraces = false) (D : va_G) (cI cZ cJ : ClassId) (q : Nat → Nat) (o : Nat) (f : Nat → Int64) (X : xSt) (p0 : Int32) : kc_MW l yL_total cL_total 4 (some .int) [(0, 9, 12, 13)] 7 111 1 6 [.ref (q 0), .int p0, .ref o] D vwCl (tyL cI cZ cJ) (wX cI cZ q X ++ [(o, .inl (cJ, 1, .inr (.inl f)))]) (some (.int (kO (fun _ => 1) (xTotO X p0)))) (wX cI cZ q (X) ++ [(o, .inl (cJ, 1, .inr (.inl (fO (xTotO X p0) f))))]) := by
  refine kc_startW RL (by decide +kernel) rfl (Nat.le_of_ble_eq_true rfl) ?_
  intro zp ze zs zm zb zt zc h hr hlk htab hT
  refine kr_aload_n h dL_total_0 rfl 2 rfl ?_
  refine kr_iconst (v := 0) h dL_total_1 (by decide) ?_
  refine kr_aload_n h dL_total_2 rfl 0 rfl ?_
  refine kr_iload_n h dL_total_3 rfl 1 rfl ?_
  refine kr_try (o := xTotO X p0) (w2 := wX cI cZ q (X)) (wr := [(o, .inl (cJ, 1, .inr (.inl f)))]) (ws' := (wX cI cZ q (X) ++ [(o, .inl (cJ, 1, .inr (.inl f)))])) h (kc_rX h hT (c_total l hst D cI cZ cJ q X p0 ) mlL_39 yvX0_total dL_total_4 rfl rfl ⟨Nat.le_of_ble_eq_true rfl, Nat.le_of_ble_eq_true rfl⟩ ⟨Nat.le_of_ble_eq_true rfl, Nat.le_of_ble_eq_true rfl⟩ (Nat.le_of_ble_eq_true rfl) [0, 1, 2, 3, 4, 5, 6, 7, 8, 9, 10, 11] rfl rfl 0 rfl rfl rfl) [0, 1, 2, 3, 4, 5, 6, 7, 8, 9, 10, 11] [12] [1, 2, 3, 4, 5, 6, 7, 8, 9, 10, 11, 12, 0] rfl rfl rfl (by decide) rfl rfl (fun r ho => ?_) (fun E ho => ?_)
  · refine kr_i2l h dL_total_7 (fun v9 e9 => ?_)
    refine kr_last (ws' := (wX cI cZ q (X) ++ [(o, .inl (cJ, 1, .inr (.inl (vp_updL f 0 v9))))])) h 12 2 dL_total_8 rfl rfl (show vp_in (nI 0) 1 from vp_in_nI (by decide) (by decide)) rfl ?_
    refine kr_goto h 15 dL_total_9 (by decide) ?_
    refine kr_iconst (v := 0) h dL_total_15 (by decide) ?_
    exact kr_iret h hr hlk dL_total_16 (by rw [ho]; rfl) (by rw [ho, e9]; rfl)
  · have hE := xTotO_e ho
    subst hE
    refine kr_catch (E := eIA) (x := (0, 9, 12, 13)) (suf := []) h hT htab [] rfl (fun z hz => by simp at hz) (by decide) (by decide) clL_13 ctL_IA (fun a9 => ?_)
    refine kr_astore_n (lv' := [(3, .ref a9), (0, .ref (q 0)), (1, .int p0), (2, .ref o)]) h dL_total_12 rfl (by decide) rfl ?_
    refine kr_iconst (v := 1) h dL_total_13 (by decide) ?_
    exact kr_iret h hr hlk dL_total_14 (by rw [ho]; rfl) (by rw [ho]; rfl)
