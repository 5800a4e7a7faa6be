set_option maxHeartbeats 4000000 in
set_option maxRecDepth 100000 in
theorem lp_actg1 {p : Program} {l : Launch} {e : Env} {R : Room} {s : State} {m : MethodId} {args : Array Value} {below : List Frame} {meth : Method} {c : Code} {D : va_G} {cI cZ cJ : ClassId} {q : Nat → Nat} {w0 w2 : va_W} {r : Int32} (h : kc_C p s m args c cX1_acting 5 RX1 D vwCl (tyL cI cZ cJ) (va_A w0 s.heap.size)) (hr : meth.sig.returnType = some .int) (hlk : meth.locks = false) (hR : 5 ≤ R.frames ∧ 131 ≤ R.locals) (e1 : Nat) (he : e1 < 5) (x : xSt) (i : Int32) (hi : i = nI (e1 + 1)) (hW : yW x) (hs : xSo (x.1 17 e1))
    (k0 : ¬ 0 ≤ x.2 1 → ∀ (i' : Int32) (x' : xSt), i' = nI (e1) → x' = yDo x (x.1 17 e1) (x.1 18 e1) → kc_W p l e R s m args below meth c D vwCl (va_A w0 s.heap.size) 5 (MQ below (kc_Post (some (.int r)) D vwCl w0 w2 s.heap.size) args s 0 0 (va_A w0 s.heap.size)) 2 [(1, .int i'), (0, .ref (q 0))] [] (wY cI cZ q x') (0, 0))
    (kE : 0 ≤ x.2 1 → ¬ yKd x e1 = 2 → (yEnd (yZ x e1) (yKd x e1) (x.1 17 e1) (x.1 18 e1)).1 = 0 → ∀ (i' : Int32) (x' : xSt), i' = nI (e1) → x' = (yEnd (yZ x e1) (yKd x e1) (x.1 17 e1) (x.1 18 e1)).2 → kc_W p l e R s m args below meth c D vwCl (va_A w0 s.heap.size) 5 (MQ below (kc_Post (some (.int r)) D vwCl w0 w2 s.heap.size) args s 0 0 (va_A w0 s.heap.size)) 2 [(1, .int i'), (0, .ref (q 0))] [] (wY cI cZ q x') (0, 0))
    (kR : 0 ≤ x.2 1 → ¬ yKd x e1 = 2 → ¬ (yEnd (yZ x e1) (yKd x e1) (x.1 17 e1) (x.1 18 e1)).1 = 0 → r = (yEnd (yZ x e1) (yKd x e1) (x.1 17 e1) (x.1 18 e1)).1 ∧ w2 = wY cI cZ q (yEnd (yZ x e1) (yKd x e1) (x.1 17 e1) (x.1 18 e1)).2)
    (k2R : 0 ≤ x.2 1 → yKd x e1 = 2 → e1 = 4 → r = 4 ∧ w2 = wY cI cZ q (yIns (yZ x e1)))
    (k2 : 0 ≤ x.2 1 → yKd x e1 = 2 → e1 < 4 → ∀ (i' : Int32) (x' : xSt), i' = nI (e1 + 2) → x' = yGo (yIns (yZ x e1)) (e1 + 1) → kc_W p l e R s m args below meth c D vwCl (va_A w0 s.heap.size) 5 (MQ below (kc_Post (some (.int r)) D vwCl w0 w2 s.heap.size) args s 0 0 (va_A w0 s.heap.size)) 2 [(1, .int i'), (0, .ref (q 0))] [] (wY cI cZ q x') (0, 0)) : kc_W p l e R s m args below meth c D vwCl (va_A w0 s.heap.size) 5 (MQ below (kc_Post (some (.int r)) D vwCl w0 w2 s.heap.size) args s 0 0 (va_A w0 s.heap.size)) 2 [(1, .int i), (0, .ref (q 0))] [] (wY cI cZ q x) (0, 0) := by
  have hRL : (0 : Nat) + 0 ≤ R.cells ∧ (0 : Nat) + 0 ≤ R.slots := ⟨Nat.zero_le _, Nat.zero_le _⟩
  have hj1 : i - 1 = nI e1 := by rw [hi]; exact pk_sub (a := e1 + 1) (b := 1) (by omega)
  have hjn : tn (nI e1) = e1 := tn_nI (by omega)
  have hjm : (nI e1).toNatClampNeg = e1 := hjn
  have hin : tn i = e1 + 1 := by rw [hi]; exact tn_nI (by omega)
  have hq1 : (yZ x e1).2 1 = x.2 1 := (yKe_all 0 x _ _ _).2.1
  refine kr_iload_n h dX1_acting_2 rfl 0 rfl ?_
  refine kr_if_le h 184 dX1_acting_3 (by decide) (fun c3 => ?_) (fun c3 => ?_)
  · exact absurd c3 (by rw [hi]; exact nI_ge (show 0 < e1 + 1 by omega) (by omega))
  · refine kr_aload_n h dX1_acting_6 rfl 1 rfl ?_
    refine kr_get h FX1ok 0 26 dX1_acting_7 flX1_91 rfl rfl (by decide) rfl rfl ?_
    refine kr_iload_n h dX1_acting_10 rfl 0 rfl ?_
    refine kr_iconst (v := 1) h dX1_acting_11 (by decide) ?_
    refine kr_isub h dX1_acting_12 (fun v12 e12 => ?_)
    refine kr_iald h 18 0 dX1_acting_13 rfl rfl (by rw [e12, hj1]; exact vp_in_nI (by omega) (by decide)) (fun v13 e13 => ?_)
    rw [e12, hj1, hjm] at e13
    refine kr_istore_n (lv' := [(2, .int v13), (1, .int i), (0, .ref (q 0))]) h dX1_acting_14 rfl (by decide) rfl ?_
    refine kr_aload_n h dX1_acting_15 rfl 2 rfl ?_
    refine kr_get h FX1ok 0 27 dX1_acting_16 flX1_94 rfl rfl (by decide) rfl rfl ?_
    refine kr_iload_n h dX1_acting_19 rfl 1 rfl ?_
    refine kr_iconst (v := 1) h dX1_acting_20 (by decide) ?_
    refine kr_isub h dX1_acting_21 (fun v21 e21 => ?_)
    refine kr_iald h 19 0 dX1_acting_22 rfl rfl (by rw [e21, hj1]; exact vp_in_nI (by omega) (by decide)) (fun v22 e22 => ?_)
    rw [e21, hj1, hjm] at e22
    refine kr_istore_n (lv' := [(3, .int v22), (2, .int v13), (1, .int i), (0, .ref (q 0))]) h dX1_acting_23 rfl (by decide) rfl ?_
    refine kr_aload_n h dX1_acting_24 rfl 3 rfl ?_
    refine kr_get h FX1ok 0 1 dX1_acting_25 flX1_13 rfl rfl (by decide) rfl rfl ?_
    refine kr_top h (fun v25 e25 => ?_)
    refine kr_if_ge h 35 dX1_acting_28 (by decide) (fun c28 => ?_) (fun c28 => ?_)
    · have h28 : 0 ≤ x.2 1 := by rw [← e25]; exact c28
      refine kr_aload_n h dX1_acting_35 rfl 3 rfl ?_
      refine kr_iload_n h dX1_acting_36 rfl 1 rfl ?_
      refine kr_iload_n h dX1_acting_37 rfl 0 rfl ?_
      refine kr_iconst (v := 1) h dX1_acting_38 (by decide) ?_
      refine kr_iA h (kc_rV h (m_askAll l D cI cZ cJ q x v13 v22 1 ((hW.1 h28).1) (by rw [e13]; exact hs)) mlX1_148 yvX1_askAll dX1_acting_39 rfl rfl ⟨Nat.le_trans (by decide) hR.1, Nat.le_trans (by decide) hR.2⟩ hRL (Nat.le_of_ble_eq_true rfl) [0, 1, 2, 3, 4, 5, 6, 7, 8, 9, 10, 11, 12, 13, 14, 15, 16, 17, 18, 19] rfl rfl 0 rfl rfl rfl) (fun v39 e39 => ?_)
      have h39 : v39 = yKd x e1 := by rw [e39, e13, e22]
      clear e39
      refine kr_istore (lv' := [(4, .int v39), (3, .int v22), (2, .int v13), (1, .int i), (0, .ref (q 0))]) h dX1_acting_42 (by decide) rfl ?_
      refine kr_iload h dX1_acting_44 0 rfl ?_
      refine kr_iconst (v := 5) h dX1_acting_46 (by decide) ?_
      refine kr_icmp_ne h 57 dX1_acting_47 (by decide) (fun c47 => ?_) (fun c47 => ?_)
      · refine kr_iload h dX1_acting_57 0 rfl ?_
        refine kr_iconst (v := 4) h dX1_acting_59 (by decide) ?_
        refine kr_icmp_ne h 65 dX1_acting_60 (by decide) (fun c60 => ?_) (fun c60 => ?_)
        · refine kr_iload h dX1_acting_65 0 rfl ?_
          refine kr_iconst (v := 2) h dX1_acting_67 (by decide) ?_
          refine kr_icmp_ne h 129 dX1_acting_68 (by decide) (fun c68 => ?_) (fun c68 => ?_)
          · refine kr_iload h dX1_acting_129 0 rfl ?_
            refine kr_iconst (v := 3) h dX1_acting_131 (by decide) ?_
            refine kr_icmp_ne h 161 dX1_acting_132 (by decide) (fun c132 => ?_) (fun c132 => ?_)
            · refine kr_iload h dX1_acting_161 0 rfl ?_
              refine kr_if_lt h 172 dX1_acting_163 (by decide) (fun c163 => ?_) (fun c163 => ?_)
              · exact absurd c163 (by rw [h39]; exact yAll_k hW h28 hs _ _)
              · refine kr_aload_n h dX1_acting_166 rfl 4 rfl ?_
                refine kr_iload_n h dX1_acting_167 rfl 2 rfl ?_
                refine kr_iload_n h dX1_acting_168 rfl 1 rfl ?_
                have hWz : yW (yZ x e1) := yW_ke (yKe_all 0 x _ _ _) hW
                refine kr_vA h (kc_rV h (m_accept l D cI cZ cJ q (yAll x v13 v22 1) v13 v22 (by rw [e13, e22]; exact (hWz.1 (by rw [hq1]; exact h28)).1) (by rw [e13]; exact hs) (by rw [e13, e22]; exact yT6_tb hWz.2.2)) mlX1_152 yvX1_accept dX1_acting_169 rfl rfl ⟨Nat.le_trans (by decide) hR.1, Nat.le_trans (by decide) hR.2⟩ hRL (Nat.le_of_ble_eq_true rfl) [0, 1, 2, 3, 4, 5, 6, 7, 8, 9, 10, 11, 12, 13, 14, 15, 16, 17, 18, 19] rfl rfl 0 rfl rfl rfl) ?_
                refine kr_aload_n h dX1_acting_172 rfl 4 rfl ?_
                refine kr_iload_n h dX1_acting_173 rfl 2 rfl ?_
                refine kr_iload_n h dX1_acting_174 rfl 1 rfl ?_
                refine kr_vA h (kc_rV h (m_perform l D cI cZ cJ q (yAcc (yAll x v13 v22 1) v13 v22) v13 v22 (by rw [e13]; exact xSo_in hs)) mlX1_155 yvX1_perform dX1_acting_175 rfl rfl ⟨Nat.le_trans (by decide) hR.1, Nat.le_trans (by decide) hR.2⟩ hRL (Nat.le_of_ble_eq_true rfl) [0, 1, 2, 3, 4, 5, 6, 7, 8, 9, 10, 11, 12, 13, 14, 15, 16, 17, 18, 19] rfl rfl 0 rfl rfl rfl) ?_
                obtain ⟨v178, e178⟩ : ∃ z : Int32, z = i + (-1) := ⟨_, rfl⟩
                refine kr_iinc (lv' := [(1, .int v178), (4, .int v39), (3, .int v22), (2, .int v13), (0, .ref (q 0))]) (k := 3) h dX1_acting_178 rfl (by rw [e178]; rfl) (by decide) rfl ?_
                refine kr_goto h 2 dX1_acting_181 (by decide) ?_
                refine kr_lv (lv' := [(1, .int v178), (0, .ref (q 0))]) [0, 4] rfl ?_
                exact kE h28 (fun z => c68 (h39.trans z)) (by rw [yEnd, ← h39, if_neg c47, if_neg c60, if_neg c132]) _ _ (by rw [e178, hi]; exact nI_m1 e1) (by rw [yEnd, ← h39, if_neg c47, if_neg c60, if_neg c132, e13, e22])
            · refine kr_aload_n h dX1_acting_135 rfl 4 rfl ?_
              refine kr_aload_n h dX1_acting_136 rfl 4 rfl ?_
              refine kr_get h FX1ok 0 22 dX1_acting_137 flX1_79 rfl rfl (by decide) rfl rfl ?_
              refine kr_aload_n h dX1_acting_140 rfl 4 rfl ?_
              refine kr_get h FX1ok 0 1 dX1_acting_141 flX1_13 rfl rfl (by decide) rfl rfl ?_
              refine kr_top h (fun v141 e141 => ?_)
              have h141 : v141 = x.2 1 := by rw [e141, e13, e22]; exact hq1
              refine kr_iald h 14 0 dX1_acting_144 rfl rfl (by rw [h141]; exact xG_in (hW.1 h28).1) (fun v144 e144 => ?_)
              refine kr_put (ws' := wY cI cZ q (xI (yAll x v13 v22 1) 7 v144)) h FX1ok 0 7 dX1_acting_145 flX1_31 rfl rfl (by decide) rfl rfl rfl rfl (Nat.le_of_ble_eq_true rfl) rfl ?_
              refine kr_aload_n h dX1_acting_148 rfl 4 rfl ?_
              refine kr_dup h dX1_acting_149 rfl ?_
              refine kr_get h FX1ok 0 4 dX1_acting_150 flX1_22 rfl rfl (by decide) rfl rfl ?_
              refine kr_top h (fun v150 e150 => ?_)
              refine kr_iconst (v := 1) h dX1_acting_153 (by decide) ?_
              refine kr_iadd h dX1_acting_154 (fun v154 e154 => ?_)
              refine kr_put (ws' := wY cI cZ q (xI (xI (yAll x v13 v22 1) 7 v144) 4 v154)) h FX1ok 0 4 dX1_acting_155 flX1_22 rfl rfl (by decide) rfl rfl rfl rfl (Nat.le_of_ble_eq_true rfl) rfl ?_
              refine kr_goto h 178 dX1_acting_158 (by decide) ?_
              obtain ⟨v178, e178⟩ : ∃ z : Int32, z = i + (-1) := ⟨_, rfl⟩
              refine kr_iinc (lv' := [(1, .int v178), (4, .int v39), (3, .int v22), (2, .int v13), (0, .ref (q 0))]) (k := 3) h dX1_acting_178 rfl (by rw [e178]; rfl) (by decide) rfl ?_
              refine kr_goto h 2 dX1_acting_181 (by decide) ?_
              refine kr_lv (lv' := [(1, .int v178), (0, .ref (q 0))]) [0, 4] rfl ?_
              exact kE h28 (fun z => c68 (h39.trans z)) (by rw [yEnd, ← h39, if_neg c47, if_neg c60, if_pos c132]) _ _ (by rw [e178, hi]; exact nI_m1 e1) (by rw [yEnd, ← h39, if_neg c47, if_neg c60, if_pos c132, yEnd_3w e141 e144 e150 e154, e13, e22])
          · refine kr_aload_n h dX1_acting_71 rfl 4 rfl ?_
            refine kr_get h FX1ok 0 16 dX1_acting_72 flX1_61 rfl rfl (by decide) rfl rfl ?_
            refine kr_aload_n h dX1_acting_75 rfl 4 rfl ?_
            refine kr_get h FX1ok 0 23 dX1_acting_76 flX1_82 rfl rfl (by decide) rfl rfl ?_
            refine kr_aload_n h dX1_acting_79 rfl 4 rfl ?_
            refine kr_get h FX1ok 0 1 dX1_acting_80 flX1_13 rfl rfl (by decide) rfl rfl ?_
            refine kr_top h (fun v80 e80 => ?_)
            have h80 : v80 = x.2 1 := by rw [e80, e13, e22]; exact hq1
            refine kr_iald h 15 0 dX1_acting_83 rfl rfl (by rw [h80]; exact xG_in (hW.1 h28).1) (fun v83 e83 => ?_)
            obtain ⟨j, hj, ej, hj0, hjs⟩ := yAll_2 hW h28 hs (x.1 18 e1) 1 (h39.symm.trans c68)
            have h83 : v83 = nI j := by rw [e83, h80, e13, e22]; exact ej
            refine kr_iconst (v := 1) h dX1_acting_84 (by decide) ?_
            refine kr_zastN (ws' := wY cI cZ q (xA (yAll x v13 v22 1) 7 (upd ((yAll x v13 v22 1).1 7) (tn v83) 1))) h 8 1 kc_n1 dX1_acting_85 rfl rfl (by rw [h83]; exact vp_in_nI hj (by decide)) (wY_r7 cI cZ q (yAll x v13 v22 1) _) ?_
            refine kr_iload_n h dX1_acting_86 rfl 3 rfl ?_
            refine kr_iconst (v := 5) h dX1_acting_87 (by decide) ?_
            refine kr_icmp_ne h 93 dX1_acting_88 (by decide) (fun c88 => ?_) (fun c88 => ?_)
            · refine kr_aload_n h dX1_acting_93 rfl 4 rfl ?_
              refine kr_get h FX1ok 0 26 dX1_acting_94 flX1_91 rfl rfl (by decide) rfl rfl ?_
              refine kr_iload_n h dX1_acting_97 rfl 3 rfl ?_
              refine kr_aload_n h dX1_acting_98 rfl 4 rfl ?_
              refine kr_get h FX1ok 0 21 dX1_acting_99 flX1_76 rfl rfl (by decide) rfl rfl ?_
              refine kr_aload_n h dX1_acting_102 rfl 4 rfl ?_
              refine kr_get h FX1ok 0 1 dX1_acting_103 flX1_13 rfl rfl (by decide) rfl rfl ?_
              refine kr_top h (fun v103 e103 => ?_)
              have h103 : v103 = x.2 1 := by rw [e103, e13, e22]; exact hq1
              refine kr_iald h 13 0 dX1_acting_106 rfl rfl (by rw [h103]; exact xG_in (hW.1 h28).1) (fun v106 e106 => ?_)
              refine kr_iast (ws' := wY cI cZ q (xA (xA (yAll x v13 v22 1) 7 (upd ((yAll x v13 v22 1).1 7) (tn v83) 1)) 17 (upd ((xA (yAll x v13 v22 1) 7 (upd ((yAll x v13 v22 1).1 7) (tn v83) 1)).1 17) (tn i) v106))) h 18 0 dX1_acting_107 rfl rfl (by rw [hi]; exact vp_in_nI (by omega) (by decide)) (wY_r17 cI cZ q (xA (yAll x v13 v22 1) 7 (upd ((yAll x v13 v22 1).1 7) (tn v83) 1)) _) ?_
              refine kr_aload_n h dX1_acting_108 rfl 4 rfl ?_
              refine kr_get h FX1ok 0 27 dX1_acting_109 flX1_94 rfl rfl (by decide) rfl rfl ?_
              refine kr_iload_n h dX1_acting_112 rfl 3 rfl ?_
              refine kr_aload_n h dX1_acting_113 rfl 4 rfl ?_
              refine kr_get h FX1ok 0 22 dX1_acting_114 flX1_79 rfl rfl (by decide) rfl rfl ?_
              refine kr_aload_n h dX1_acting_117 rfl 4 rfl ?_
              refine kr_get h FX1ok 0 1 dX1_acting_118 flX1_13 rfl rfl (by decide) rfl rfl ?_
              refine kr_top h (fun v118 e118 => ?_)
              have h118 : v118 = x.2 1 := by rw [e118, e13, e22]; exact hq1
              refine kr_iald h 14 0 dX1_acting_121 rfl rfl (by rw [h118]; exact xG_in (hW.1 h28).1) (fun v121 e121 => ?_)
              refine kr_iast (ws' := wY cI cZ q (xA (xA (xA (yAll x v13 v22 1) 7 (upd ((yAll x v13 v22 1).1 7) (tn v83) 1)) 17 (upd ((xA (yAll x v13 v22 1) 7 (upd ((yAll x v13 v22 1).1 7) (tn v83) 1)).1 17) (tn i) v106)) 18 (upd ((xA (xA (yAll x v13 v22 1) 7 (upd ((yAll x v13 v22 1).1 7) (tn v83) 1)) 17 (upd ((xA (yAll x v13 v22 1) 7 (upd ((yAll x v13 v22 1).1 7) (tn v83) 1)).1 17) (tn i) v106)).1 18) (tn i) v121))) h 19 0 dX1_acting_122 rfl rfl (by rw [hi]; exact vp_in_nI (by omega) (by decide)) (wY_r18 cI cZ q (xA (xA (yAll x v13 v22 1) 7 (upd ((yAll x v13 v22 1).1 7) (tn v83) 1)) 17 (upd ((xA (yAll x v13 v22 1) 7 (upd ((yAll x v13 v22 1).1 7) (tn v83) 1)).1 17) (tn i) v106)) _) ?_
              obtain ⟨v123, e123⟩ : ∃ z : Int32, z = i + 1 := ⟨_, rfl⟩
              refine kr_iinc (lv' := [(1, .int v123), (4, .int v39), (3, .int v22), (2, .int v13), (0, .ref (q 0))]) (k := 3) h dX1_acting_123 rfl (by rw [e123]; rfl) (by decide) rfl ?_
              refine kr_goto h 2 dX1_acting_126 (by decide) ?_
              refine kr_lv (lv' := [(1, .int v123), (0, .ref (q 0))]) [0, 4] rfl ?_
              refine k2 h28 (h39.symm.trans c68) (by rcases Nat.lt_or_ge e1 4 with z | z; exact z; exact absurd (by rw [hi, show e1 = 4 by omega]; rfl) c88) _ _ (by rw [e123, hi]; exact nI_1 (e1 + 1)) ((yGo_w e80 e83 e103 e106 e118 e121 hin).trans (by rw [e13, e22]))
            · refine kr_iconst (v := 4) h dX1_acting_91 (by decide) ?_
              exact kr_iret h hr hlk dX1_acting_92 ((k2R h28 (h39.symm.trans c68) (he4 hi c88 he)).1.symm) (by rw [(k2R h28 (h39.symm.trans c68) (he4 hi c88 he)).2, yIns_w e80 e83, e13, e22])
        · refine kr_iconst (v := 3) h dX1_acting_63 (by decide) ?_
          exact kr_iret h hr hlk dX1_acting_64 (by rw [(kR h28 (fun z => by rw [← h39, c60] at z; exact absurd z (by decide)) (by rw [yEnd, ← h39, if_neg c47, if_pos c60]; show ¬ (3 : Int32) = 0; decide)).1, yEnd, ← h39, if_neg c47, if_pos c60]) (by rw [(kR h28 (fun z => by rw [← h39, c60] at z; exact absurd z (by decide)) (by rw [yEnd, ← h39, if_neg c47, if_pos c60]; show ¬ (3 : Int32) = 0; decide)).2, yEnd, ← h39, if_neg c47, if_pos c60, e13, e22])
      · refine kr_aload_n h dX1_acting_50 rfl 4 rfl ?_
        refine kr_iconst (v := 1) h dX1_acting_51 (by decide) ?_
        refine kr_put (ws' := wY cI cZ q (xI (yAll x v13 v22 1) 8 1)) h FX1ok 0 8 dX1_acting_52 flX1_34 rfl rfl (by decide) rfl rfl rfl rfl (Nat.le_of_ble_eq_true rfl) rfl ?_
        refine kr_iconst (v := 2) h dX1_acting_55 (by decide) ?_
        exact kr_iret h hr hlk dX1_acting_56 (by rw [(kR h28 (fun z => by rw [← h39, c47] at z; exact absurd z (by decide)) (by rw [yEnd, ← h39, if_pos c47]; show ¬ (2 : Int32) = 0; decide)).1, yEnd, ← h39, if_pos c47]) (by rw [(kR h28 (fun z => by rw [← h39, c47] at z; exact absurd z (by decide)) (by rw [yEnd, ← h39, if_pos c47]; show ¬ (2 : Int32) = 0; decide)).2, yEnd, ← h39, if_pos c47, e13, e22])
    · refine kr_iconst (v := (-1)) h dX1_acting_31 (by decide) ?_
      refine kr_goto h 42 dX1_acting_32 (by decide) ?_
      refine kr_istore (lv' := [(4, .int (-1)), (3, .int v22), (2, .int v13), (1, .int i), (0, .ref (q 0))]) h dX1_acting_42 (by decide) rfl ?_
      refine kr_iload h dX1_acting_44 0 rfl ?_
      refine kr_iconst (v := 5) h dX1_acting_46 (by decide) ?_
      refine kr_icmp_ne h 57 dX1_acting_47 (by decide) (fun c47 => ?_) (fun c47 => ?_)
      · refine kr_iload h dX1_acting_57 0 rfl ?_
        refine kr_iconst (v := 4) h dX1_acting_59 (by decide) ?_
        refine kr_icmp_ne h 65 dX1_acting_60 (by decide) (fun c60 => ?_) (fun c60 => ?_)
        · refine kr_iload h dX1_acting_65 0 rfl ?_
          refine kr_iconst (v := 2) h dX1_acting_67 (by decide) ?_
          refine kr_icmp_ne h 129 dX1_acting_68 (by decide) (fun c68 => ?_) (fun c68 => ?_)
          · refine kr_iload h dX1_acting_129 0 rfl ?_
            refine kr_iconst (v := 3) h dX1_acting_131 (by decide) ?_
            refine kr_icmp_ne h 161 dX1_acting_132 (by decide) (fun c132 => ?_) (fun c132 => ?_)
            · refine kr_iload h dX1_acting_161 0 rfl ?_
              refine kr_if_lt h 172 dX1_acting_163 (by decide) (fun c163 => ?_) (fun c163 => ?_)
              · refine kr_aload_n h dX1_acting_172 rfl 4 rfl ?_
                refine kr_iload_n h dX1_acting_173 rfl 2 rfl ?_
                refine kr_iload_n h dX1_acting_174 rfl 1 rfl ?_
                refine kr_vA h (kc_rV h (m_perform l D cI cZ cJ q x v13 v22 (by rw [e13]; exact xSo_in hs)) mlX1_155 yvX1_perform dX1_acting_175 rfl rfl ⟨Nat.le_trans (by decide) hR.1, Nat.le_trans (by decide) hR.2⟩ hRL (Nat.le_of_ble_eq_true rfl) [0, 1, 2, 3, 4, 5, 6, 7, 8, 9, 10, 11, 12, 13, 14, 15, 16, 17, 18, 19] rfl rfl 0 rfl rfl rfl) ?_
                obtain ⟨v178, e178⟩ : ∃ z : Int32, z = i + (-1) := ⟨_, rfl⟩
                refine kr_iinc (lv' := [(1, .int v178), (4, .int (-1)), (3, .int v22), (2, .int v13), (0, .ref (q 0))]) (k := 3) h dX1_acting_178 rfl (by rw [e178]; rfl) (by decide) rfl ?_
                refine kr_goto h 2 dX1_acting_181 (by decide) ?_
                refine kr_lv (lv' := [(1, .int v178), (0, .ref (q 0))]) [0, 4] rfl ?_
                exact k0 (by rw [← e25]; exact c28) _ _ (by rw [e178, hi]; exact nI_m1 e1) (by rw [e13, e22])
              · exact absurd c163 (by decide)
            · exact absurd c132 (by decide)
          · exact absurd c68 (by decide)
        · exact absurd c60 (by decide)
      · exact absurd c47 (by decide)
theorem lp_actg2 {p : Program} {l : Launch} {e : Env} {R : Room} {s : State} {m : MethodId} {args : Array Value} {below : List Frame} {meth : Method} {c : Code} {D : va_G} {cI cZ cJ : ClassId} {q : Nat → Nat} {w0 w2 : va_W} {r : Int32} (h : kc_C p s m args c cX1_acting 5 RX1 D vwCl (tyL cI cZ cJ) (va_A w0 s.heap.size)) (hr : meth.sig.returnType = some .int) (hlk : meth.locks = false) (hR : 5 ≤ R.frames ∧ 131 ≤ R.locals) (e1 : Nat) (he : e1 < 5) {rc : Option (xSt → Int32 × xSt)}
    (hrc : (e1 = 4 ∧ rc = none) ∨ (e1 < 4 ∧ ∃ f, rc = some f ∧ (∀ x, yTb x → yKe (e1 + 1) x (f x).2) ∧ ∀ (x : xSt) (i : Int32), i = nI (e1 + 2) → yW x → xSo (x.1 17 (e1 + 1)) → ((f x).1 = 0 → ∀ (i' : Int32) (x' : xSt), i' = nI (e1 + 1) → x' = (f x).2 → kc_W p l e R s m args below meth c D vwCl (va_A w0 s.heap.size) 5 (MQ below (kc_Post (some (.int r)) D vwCl w0 w2 s.heap.size) args s 0 0 (va_A w0 s.heap.size)) 2 [(1, .int i'), (0, .ref (q 0))] [] (wY cI cZ q x') (0, 0)) → (¬ (f x).1 = 0 → r = (f x).1 ∧ w2 = wY cI cZ q (f x).2) → kc_W p l e R s m args below meth c D vwCl (va_A w0 s.heap.size) 5 (MQ below (kc_Post (some (.int r)) D vwCl w0 w2 s.heap.size) args s 0 0 (va_A w0 s.heap.size)) 2 [(1, .int i), (0, .ref (q 0))] [] (wY cI cZ q x) (0, 0))) : ∀ (n : Nat) (x : xSt) (i : Int32), yU x < n → i = nI (e1 + 1) → yW x → xSo (x.1 17 e1) → 0 ≤ x.2 1 → ((yLp rc e1 n x).1 = 0 → ∀ (i' : Int32) (x' : xSt), i' = nI (e1) → x' = (yLp rc e1 n x).2 → kc_W p l e R s m args below meth c D vwCl (va_A w0 s.heap.size) 5 (MQ below (kc_Post (some (.int r)) D vwCl w0 w2 s.heap.size) args s 0 0 (va_A w0 s.heap.size)) 2 [(1, .int i'), (0, .ref (q 0))] [] (wY cI cZ q x') (0, 0)) → (¬ (yLp rc e1 n x).1 = 0 → r = (yLp rc e1 n x).1 ∧ w2 = wY cI cZ q (yLp rc e1 n x).2) → kc_W p l e R s m args below meth c D vwCl (va_A w0 s.heap.size) 5 (MQ below (kc_Post (some (.int r)) D vwCl w0 w2 s.heap.size) args s 0 0 (va_A w0 s.heap.size)) 2 [(1, .int i), (0, .ref (q 0))] [] (wY cI cZ q x) (0, 0) := by
  intro n
  induction n with
  | zero => intro x i hu; exact absurd hu (Nat.not_lt_zero _)
  | succ n ih =>
    intro x i hu hi hW hs h0 kk kr
    refine lp_actg1 h hr hlk hR e1 he x i hi hW hs (fun z => absurd h0 z) (fun _ hk hz i1 x1 hi1 hx1 => ?_) (fun _ hk hz => ?_) (fun _ hk h4 => ?_) (fun _ hk h4 i1 x1 hi1 hx1 => ?_)
    · exact kk (by rw [yLp_end hk]; exact hz) i1 x1 hi1 (by rw [yLp_end hk]; exact hx1)
    · have := kr (by rw [yLp_end hk]; exact hz)
      rw [yLp_end hk] at this
      exact this
    · have hn : rc = none := by
        rcases hrc with q | q
        · exact q.2
        · exact absurd h4 (by have := q.1; omega)
      subst hn
      have := kr (by rw [yLp_none hk]; show ¬ (4 : Int32) = 0; decide)
      rw [yLp_none hk] at this
      exact this
    · obtain ⟨_, f, hf, hkf, hrun⟩ := hrc.resolve_left (fun q => absurd q.1 (by omega))
      subst hf
      obtain ⟨j, hj, ej, hj0, hjs⟩ := yAll_2 hW h0 hs (x.1 18 e1) 1 hk
      have hq1 : (yZ x e1).2 1 = x.2 1 := (yKe_all 0 x _ _ _).2.1
      have hk1 : yKe e1 x x1 := by rw [hx1]; exact ((yKe_all e1 x _ _ _).tr (yKe_ins e1 _)).tr (yKe_go e1 _)
      have hx1s : ¬ x1.1 7 j = 0 := by
        rw [hx1]
        show ¬ (xPut (yZ x e1) 7 (tn ((yZ x e1).1 14 (tn ((yZ x e1).2 1)))) 1).1 7 j = 0
        rw [hq1, ej, tn_nI (by omega), xPut_at]
        decide
      have hso : xSo (x1.1 17 (e1 + 1)) := by
        have e : x1.1 17 (e1 + 1) = (yZ x e1).1 12 (tn (x.2 1)) := by
          rw [hx1]
          show (xPut (xPut (yIns (yZ x e1)) 17 (e1 + 1) _) 18 (e1 + 1) _).1 17 (e1 + 1) = _
          rw [xPut_un _ _ _ _ (Or.inl (by decide)), xPut_at]
          show (xPut (yZ x e1) 7 _ 1).1 12 (tn ((yZ x e1).2 1)) = _
          rw [xPut_ne _ _ _ (by decide), hq1]
        rw [e]; exact hjs
      have hun := yLp_some (f := f) (n := n) hk hx1
      refine hrun x1 i1 hi1 (yW_ke hk1 hW) hso (fun hz i2 x2 hi2 hx2 => ?_) (fun hz => ?_)
      · have hk2 : yKe e1 x x2 := by rw [hx2]; exact hk1.tr (hkf x1 (yTb_ke hk1 (yT6_tb hW.2.2))).mo
        rw [if_neg (fun z => z hz), ← hx2] at hun
        rw [hun] at kk kr
        refine ih x2 i2 (Nat.lt_of_lt_of_le (yU_lt hk2.2.2.2.1 hj hj0 ?_) (Nat.le_of_lt_succ hu)) hi2 (yW_ke hk2 hW) (by rw [(hk2.2.2.2.2 e1 (Nat.le_refl _)).1]; exact hs) (by rw [hk2.2.1]; exact h0) kk kr
        rw [hx2]
        exact (hkf x1 (yTb_ke hk1 (yT6_tb hW.2.2))).2.2.2.1 j hx1s
      · rw [if_pos hz] at hun
        rw [hun] at kr
        exact kr hz
theorem lp_actg {p : Program} {l : Launch} {e : Env} {R : Room} {s : State} {m : MethodId} {args : Array Value} {below : List Frame} {meth : Method} {c : Code} {D : va_G} {cI cZ cJ : ClassId} {q : Nat → Nat} {w0 w2 : va_W} {r : Int32} (h : kc_C p s m args c cX1_acting 5 RX1 D vwCl (tyL cI cZ cJ) (va_A w0 s.heap.size)) (hr : meth.sig.returnType = some .int) (hlk : meth.locks = false) (hR : 5 ≤ R.frames ∧ 131 ≤ R.locals) : ∀ (n : Nat) (x : xSt) (i : Int32), n ≤ 4 → i = nI (4 - n + 1) → yW x → xSo (x.1 17 (4 - n)) → ((yLev n x).1 = 0 → ∀ (i' : Int32) (x' : xSt), i' = nI (4 - n) → x' = (yLev n x).2 → kc_W p l e R s m args below meth c D vwCl (va_A w0 s.heap.size) 5 (MQ below (kc_Post (some (.int r)) D vwCl w0 w2 s.heap.size) args s 0 0 (va_A w0 s.heap.size)) 2 [(1, .int i'), (0, .ref (q 0))] [] (wY cI cZ q x') (0, 0)) → (¬ (yLev n x).1 = 0 → r = (yLev n x).1 ∧ w2 = wY cI cZ q (yLev n x).2) → kc_W p l e R s m args below meth c D vwCl (va_A w0 s.heap.size) 5 (MQ below (kc_Post (some (.int r)) D vwCl w0 w2 s.heap.size) args s 0 0 (va_A w0 s.heap.size)) 2 [(1, .int i), (0, .ref (q 0))] [] (wY cI cZ q x) (0, 0) := by
  intro n
  induction n with
  | zero =>
    intro x i _ hi hW hs kk kr
    by_cases h0 : 0 ≤ x.2 1
    · rw [yLev, if_pos h0] at kk kr
      exact lp_actg2 h hr hlk hR 4 (by decide) (rc := none) (Or.inl ⟨rfl, rfl⟩) 41 x i (yU_le x) hi hW hs h0 kk kr
    · rw [yLev, if_neg h0] at kk kr
      exact lp_actg1 h hr hlk hR 4 (by decide) x i hi hW hs (fun _ => kk rfl) (fun z => absurd z h0) (fun z => absurd z h0) (fun z => absurd z h0) (fun z => absurd z h0)
  | succ n ih =>
    intro x i hn hi hW hs kk kr
    rw [show 4 - (n + 1) = 3 - n by omega] at hi hs kk
    by_cases h0 : 0 ≤ x.2 1
    · rw [yLev, if_pos h0] at kk kr
      refine lp_actg2 h hr hlk hR (3 - n) (by omega) (rc := some (yLev n)) (Or.inr ⟨by omega, yLev n, rfl, fun x hT => ?_, fun x i hi hW hs kk kr => ?_⟩) 41 x i (yU_le x) hi hW hs h0 kk kr
      · have := yKe_lev n x (by omega) hT
        rw [show 4 - n = 3 - n + 1 by omega] at this
        exact this
      · refine ih x i (by omega) (by rw [hi, show 4 - n + 1 = 3 - n + 2 by omega]) hW (by rw [show 4 - n = 3 - n + 1 by omega]; exact hs) ?_ kr
        rw [show 4 - n = 3 - n + 1 by omega]
        exact kk
    · rw [yLev, if_neg h0] at kk kr
      exact lp_actg1 h hr hlk hR (3 - n) (by omega) x i hi hW hs (fun _ => kk rfl) (fun z => absurd z h0) (fun z => absurd z h0) (fun z => absurd z h0) (fun z => absurd z h0)
set_option maxHeartbeats 4000000 in
set_option maxRecDepth 100000 in
theorem m_acting (l : Launch) (D : va_G) (cI cZ cJ : ClassId) (q : Nat → Nat) (x : xSt) (hW : yW x) (hs : xSo (x.1 17 0)) : kc_M l yX1_acting cX1_acting 5 (some .int) 5 131 0 0 [.ref (q 0)] D vwCl (tyL cI cZ cJ) (wY cI cZ q x) (some (.int ((yLev 4 x).1))) (wY cI cZ q ((yLev 4 x).2)) := by
  refine kc_start RX1 (by decide +kernel) rfl (Nat.le_of_ble_eq_true rfl) ?_
  intro zp ze zs zm zb zt zc h hr hlk hnm
  refine kr_iconst (v := 1) h dX1_acting_0 (by decide) ?_
  refine kr_istore_n (lv' := [(1, .int 1), (0, .ref (q 0))]) h dX1_acting_1 rfl (by decide) rfl ?_
  refine lp_actg h hr hlk ⟨Nat.le_refl _, Nat.le_refl _⟩ 4 x 1 (by decide) rfl hW hs (fun hz i2 x2 hi2 hx2 => ?_) (fun hz => ⟨rfl, rfl⟩)
  subst hx2
  refine kr_iload_n h dX1_acting_2 rfl 0 rfl ?_
  refine kr_if_le h 184 dX1_acting_3 (by decide) (fun c3 => ?_) (fun c3 => ?_)
  · refine kr_iconst (v := 0) h dX1_acting_184 (by decide) ?_
    exact kr_iret h hr hlk dX1_acting_185 (hz.symm) (rfl)
  · exact absurd (by rw [hi2]; decide) c3
