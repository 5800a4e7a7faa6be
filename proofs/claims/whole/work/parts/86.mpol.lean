set_option maxHeartbeats 4000000 in
set_option maxRecDepth 100000 in
theorem m_policy (l : Launch) (D : va_G) (cI cZ cJ : ClassId) (q : Nat → Nat) (x : xSt) (k a b c : Int32) (hN : xN x) : kc_M l yX1_policy cX1_policy 8 (some .int) 2 47 0 0 [.ref (q 0), .int k, .int a, .int b, .int c] D vwCl (tyL cI cZ cJ) (wY cI cZ q x) (some (.int (yPolR x k a b c))) (wY cI cZ q (yPolX x k a b c)) := by
  refine kc_start RX1 (by decide +kernel) rfl (Nat.le_of_ble_eq_true rfl) ?_
  intro zp ze zs zm zb zt zc h hr hlk hnm
  refine kr_aload_n h dX1_policy_0 rfl 0 rfl ?_
  refine kr_iload_n h dX1_policy_1 rfl 1 rfl ?_
  refine kr_iload_n h dX1_policy_2 rfl 2 rfl ?_
  refine kr_iload_n h dX1_policy_3 rfl 3 rfl ?_
  refine kr_iload h dX1_policy_4 4 rfl ?_
  refine kr_iA h (kc_rV h (m_fits l D cI cZ cJ q x k a b c) mlX1_118 yvX1_fits dX1_policy_6 rfl rfl ⟨Nat.le_of_ble_eq_true rfl, Nat.le_of_ble_eq_true rfl⟩ ⟨Nat.le_of_ble_eq_true rfl, Nat.le_of_ble_eq_true rfl⟩ (Nat.le_of_ble_eq_true rfl) [0, 1, 2, 3, 4, 5, 6, 7, 8, 9, 10, 11, 12, 13, 14, 15, 16, 17, 18, 19] rfl rfl 0 rfl rfl rfl) (fun v6 e6 => ?_)
  refine kr_if_ne h 18 dX1_policy_9 (by decide) (fun c9 => ?_) (fun c9 => ?_)
  · refine kr_aload_n h dX1_policy_18 rfl 0 rfl ?_
    refine kr_iload_n h dX1_policy_19 rfl 1 rfl ?_
    refine kr_iA h (kc_rV h (m_namesA l D cI cZ cJ q x k) mlX1_108 yvX1_namesA dX1_policy_20 rfl rfl ⟨Nat.le_of_ble_eq_true rfl, Nat.le_of_ble_eq_true rfl⟩ ⟨Nat.le_of_ble_eq_true rfl, Nat.le_of_ble_eq_true rfl⟩ (Nat.le_of_ble_eq_true rfl) [0, 1, 2, 3, 4, 5, 6, 7, 8, 9, 10, 11, 12, 13, 14, 15, 16, 17, 18, 19] rfl rfl 0 rfl rfl rfl) (fun v20 e20 => ?_)
    refine kr_istore (lv' := [(5, .int v20), (0, .ref (q 0)), (1, .int k), (2, .int a), (3, .int b), (4, .int c)]) h dX1_policy_23 (by decide) rfl ?_
    refine kr_aload_n h dX1_policy_25 rfl 1 rfl ?_
    refine kr_iload_n h dX1_policy_26 rfl 2 rfl ?_
    refine kr_iA h (kc_rV h (m_namesB l D cI cZ cJ q x k) mlX1_115 yvX1_namesB dX1_policy_27 rfl rfl ⟨Nat.le_of_ble_eq_true rfl, Nat.le_of_ble_eq_true rfl⟩ ⟨Nat.le_of_ble_eq_true rfl, Nat.le_of_ble_eq_true rfl⟩ (Nat.le_of_ble_eq_true rfl) [0, 1, 2, 3, 4, 5, 6, 7, 8, 9, 10, 11, 12, 13, 14, 15, 16, 17, 18, 19] rfl rfl 0 rfl rfl rfl) (fun v27 e27 => ?_)
    refine kr_istore (lv' := [(6, .int v27), (5, .int v20), (0, .ref (q 0)), (1, .int k), (2, .int a), (3, .int b), (4, .int c)]) h dX1_policy_30 (by decide) rfl ?_
    refine kr_iload h dX1_policy_32 1 rfl ?_
    refine kr_if_eq h 46 dX1_policy_34 (by decide) (fun c34 => ?_) (fun c34 => ?_)
    · refine kr_iload h dX1_policy_46 0 rfl ?_
      refine kr_if_eq h 60 dX1_policy_48 (by decide) (fun c48 => ?_) (fun c48 => ?_)
      · refine kr_iload h dX1_policy_60 1 rfl ?_
        refine kr_if_eq h 81 dX1_policy_62 (by decide) (fun c62 => ?_) (fun c62 => ?_)
        · refine kr_iload h dX1_policy_81 1 rfl ?_
          refine kr_if_eq h 95 dX1_policy_83 (by decide) (fun c83 => ?_) (fun c83 => ?_)
          · refine kr_iconst (v := 0) h dX1_policy_95 (by decide) ?_
            refine kr_istore (lv' := [(7, .int 0), (6, .int v27), (5, .int v20), (0, .ref (q 0)), (1, .int k), (2, .int a), (3, .int b), (4, .int c)]) h dX1_policy_96 (by decide) rfl ?_
            first | have hl0 : yL0 x k a = v91 := (if_pos (xb_t e20 c83)).trans e91.symm | have hl0 : yL0 x k a = 0 := if_neg (xb_f e20 c83)
            refine kr_iload h dX1_policy_98 1 rfl ?_
            refine kr_if_eq h 122 dX1_policy_100 (by decide) (fun c100 => ?_) (fun c100 => ?_)
            · first | have hl := (show yL x k a b = x.1 4 (tn b) from if_pos ⟨xb_t e27 c100, by rw [hl0, ← e108]; exact c111⟩).trans e119.symm | have hl := (show yL x k a b = yL0 x k a from if_neg (fun z => by first | exact xb_f e27 c100 z.1 | exact z.2 (by rw [hl0, ← e108]; exact c111))).trans hl0
              refine kr_iload h dX1_policy_122 0 rfl ?_
              refine kr_bipush (v := 7) h dX1_policy_124 (by decide) ?_
              refine kr_icmp_ne h 135 dX1_policy_126 (by decide) (fun c126 => ?_) (fun c126 => ?_)
              · refine kr_aload_n h dX1_policy_135 rfl 3 rfl ?_
                refine kr_get h FX1ok 0 0 dX1_policy_136 flX1_7 rfl rfl (by decide) rfl rfl ?_
                refine kr_top h (fun v136 e136 => ?_)
                refine kr_bipush (v := 40) h dX1_policy_139 (by decide) ?_
                refine kr_icmp_ne h 150 dX1_policy_141 (by decide) (fun c141 => ?_) (fun c141 => ?_)
                · have hv0 : vp_in (x.2 0) 40 := xN_ne hN (fun z => c141 (e136.trans z))
                  refine kr_aload_n h dX1_policy_150 rfl 3 rfl ?_
                  refine kr_get h FX1ok 0 9 dX1_policy_151 flX1_38 rfl rfl (by decide) rfl rfl ?_
                  refine kr_aload_n h dX1_policy_154 rfl 3 rfl ?_
                  refine kr_get h FX1ok 0 0 dX1_policy_155 flX1_7 rfl rfl (by decide) rfl rfl ?_
                  refine kr_top h (fun v155 e155 => ?_)
                  refine kr_iload_n h dX1_policy_158 rfl 4 rfl ?_
                  refine kr_iast (ws' := wY cI cZ q (xA x 0 (upd (x.1 0) (tn v155) k))) h 1 0 dX1_policy_159 rfl rfl (by rw [e155]; exact hv0) (wY_r0 cI cZ q x _) ?_
                  generalize ex159 : (xA x 0 (upd (x.1 0) (tn v155) k)) = x159
                  refine kr_aload_n h dX1_policy_160 rfl 3 rfl ?_
                  refine kr_get h FX1ok 0 10 dX1_policy_161 flX1_42 rfl rfl (by decide) rfl rfl ?_
                  refine kr_aload_n h dX1_policy_164 rfl 3 rfl ?_
                  refine kr_get h FX1ok 0 0 dX1_policy_165 flX1_7 rfl rfl (by decide) rfl rfl ?_
                  refine kr_top h (fun v165 e165 => ?_)
                  have h165 : v165 = x.2 0 := e165.trans (by rw [← ex159]; rfl)
                  clear e165
                  refine kr_iload_n h dX1_policy_168 rfl 5 rfl ?_
                  refine kr_iast (ws' := wY cI cZ q (xA x159 1 (upd (x159.1 1) (tn v165) a))) h 2 0 dX1_policy_169 rfl rfl (by rw [h165]; exact hv0) (wY_r1 cI cZ q x159 _) ?_
                  generalize ex169 : (xA x159 1 (upd (x159.1 1) (tn v165) a)) = x169
                  refine kr_aload_n h dX1_policy_170 rfl 3 rfl ?_
                  refine kr_get h FX1ok 0 11 dX1_policy_171 flX1_45 rfl rfl (by decide) rfl rfl ?_
                  refine kr_aload_n h dX1_policy_174 rfl 3 rfl ?_
                  refine kr_get h FX1ok 0 0 dX1_policy_175 flX1_7 rfl rfl (by decide) rfl rfl ?_
                  refine kr_top h (fun v175 e175 => ?_)
                  have h175 : v175 = x.2 0 := e175.trans (by rw [← ex169]; rw [← ex159]; rfl)
                  clear e175
                  refine kr_iload_n h dX1_policy_178 rfl 6 rfl ?_
                  refine kr_iast (ws' := wY cI cZ q (xA x169 2 (upd (x169.1 2) (tn v175) b))) h 3 0 dX1_policy_179 rfl rfl (by rw [h175]; exact hv0) (wY_r2 cI cZ q x169 _) ?_
                  generalize ex179 : (xA x169 2 (upd (x169.1 2) (tn v175) b)) = x179
                  refine kr_aload_n h dX1_policy_180 rfl 3 rfl ?_
                  refine kr_get h FX1ok 0 12 dX1_policy_181 flX1_48 rfl rfl (by decide) rfl rfl ?_
                  refine kr_aload_n h dX1_policy_184 rfl 3 rfl ?_
                  refine kr_get h FX1ok 0 0 dX1_policy_185 flX1_7 rfl rfl (by decide) rfl rfl ?_
                  refine kr_top h (fun v185 e185 => ?_)
                  have h185 : v185 = x.2 0 := e185.trans (by rw [← ex179]; rw [← ex169]; rw [← ex159]; rfl)
                  clear e185
                  refine kr_iload h dX1_policy_188 7 rfl ?_
                  refine kr_iast (ws' := wY cI cZ q (xA x179 3 (upd (x179.1 3) (tn v185) c))) h 4 0 dX1_policy_190 rfl rfl (by rw [h185]; exact hv0) (wY_r3 cI cZ q x179 _) ?_
                  generalize ex190 : (xA x179 3 (upd (x179.1 3) (tn v185) c)) = x190
                  refine kr_aload_n h dX1_policy_191 rfl 3 rfl ?_
                  refine kr_get h FX1ok 0 13 dX1_policy_192 flX1_51 rfl rfl (by decide) rfl rfl ?_
                  refine kr_aload_n h dX1_policy_195 rfl 3 rfl ?_
                  refine kr_get h FX1ok 0 0 dX1_policy_196 flX1_7 rfl rfl (by decide) rfl rfl ?_
                  refine kr_top h (fun v196 e196 => ?_)
                  have h196 : v196 = x.2 0 := e196.trans (by rw [← ex190]; rw [← ex179]; rw [← ex169]; rw [← ex159]; rfl)
                  clear e196
                  refine kr_iload h dX1_policy_199 0 rfl ?_
                  refine kr_iconst (v := 1) h dX1_policy_201 (by decide) ?_
                  refine kr_iadd h dX1_policy_202 (fun v202 e202 => ?_)
                  refine kr_iast (ws' := wY cI cZ q (xA x190 4 (upd (x190.1 4) (tn v196) v202))) h 5 0 dX1_policy_203 rfl rfl (by rw [h196]; exact hv0) (wY_r4 cI cZ q x190 _) ?_
                  generalize ex203 : (xA x190 4 (upd (x190.1 4) (tn v196) v202)) = x203
                  refine kr_iload h dX1_policy_204 2 rfl ?_
                  refine kr_if_eq h 216 dX1_policy_206 (by decide) (fun c206 => ?_) (fun c206 => ?_)
                  · refine kr_iload h dX1_policy_216 1 rfl ?_
                    refine kr_if_eq h 228 dX1_policy_218 (by decide) (fun c218 => ?_) (fun c218 => ?_)
                    · refine kr_aload_n h dX1_policy_228 rfl 3 rfl ?_
                      refine kr_dup h dX1_policy_229 rfl ?_
                      refine kr_get h FX1ok 0 0 dX1_policy_230 flX1_7 rfl rfl (by decide) rfl rfl ?_
                      refine kr_top h (fun v230 e230 => ?_)
                      refine kr_iconst (v := 1) h dX1_policy_233 (by decide) ?_
                      refine kr_iadd h dX1_policy_234 (fun v234 e234 => ?_)
                      refine kr_put (ws' := wY cI cZ q (xI x203 0 v234)) h FX1ok 0 0 dX1_policy_235 flX1_7 rfl rfl (by decide) rfl rfl rfl rfl (Nat.le_of_ble_eq_true rfl) rfl ?_
                      generalize ex235 : (xI x203 0 v234) = x235
                      refine kr_aload_n h dX1_policy_238 rfl 3 rfl ?_
                      refine kr_aload_n h dX1_policy_239 rfl 3 rfl ?_
                      refine kr_get h FX1ok 0 0 dX1_policy_240 flX1_7 rfl rfl (by decide) rfl rfl ?_
                      refine kr_top h (fun v240 e240 => ?_)
                      refine kr_iconst (v := 1) h dX1_policy_243 (by decide) ?_
                      refine kr_isub h dX1_policy_244 (fun v244 e244 => ?_)
                      refine kr_iA h (kc_rV h (m_fine l D cI cZ cJ q x235 v244) mlX1_105 yvX1_fine dX1_policy_245 rfl rfl ⟨Nat.le_of_ble_eq_true rfl, Nat.le_of_ble_eq_true rfl⟩ ⟨Nat.le_of_ble_eq_true rfl, Nat.le_of_ble_eq_true rfl⟩ (Nat.le_of_ble_eq_true rfl) [0, 1, 2, 3, 4, 5, 6, 7, 8, 9, 10, 11, 12, 13, 14, 15, 16, 17, 18, 19] rfl rfl 0 rfl rfl rfl) (fun v245 e245 => ?_)
                      generalize ex245 : (xI x235 6 0) = x245
                      exact kr_iret h hr hlk dX1_policy_248 (by rw [yPolR, if_pos (by rw [yPolC, if_neg (fun z => c9 (e6.trans z)), if_neg (fun z => by rcases z with z | z | z <;> first | exact xb_f e20 c34 z.1 | exact z.2 (e42.symm.trans c43) | exact xb_f e27 c48 z.1 | exact z.2 (e56.symm.trans c57) | exact xb_f e20 c62 z.1 | exact xb_f e27 c67 z.2.1 | exact c72 z.2.2), if_neg (fun z => c126 (hl.symm.trans z)), if_neg (fun z => c141 (e136.trans z))]), e245, e244, e240, ← ex235, e234]; show _ + 1 - 1 = _; rw [e230]; first | (rw [← ex227, ← ex215, ← ex203, ← ex190, ← ex179, ← ex169, ← ex159]; rfl) | (rw [← ex227, ← ex203, ← ex190, ← ex179, ← ex169, ← ex159]; rfl) | (rw [← ex215, ← ex203, ← ex190, ← ex179, ← ex169, ← ex159]; rfl) | (rw [← ex203, ← ex190, ← ex179, ← ex169, ← ex159]; rfl)) (congrArg _ (by rw [yPolX, if_pos (by rw [yPolC, if_neg (fun z => c9 (e6.trans z)), if_neg (fun z => by rcases z with z | z | z <;> first | exact xb_f e20 c34 z.1 | exact z.2 (e42.symm.trans c43) | exact xb_f e27 c48 z.1 | exact z.2 (e56.symm.trans c57) | exact xb_f e20 c62 z.1 | exact xb_f e27 c67 z.2.1 | exact c72 z.2.2), if_neg (fun z => c126 (hl.symm.trans z)), if_neg (fun z => c141 (e136.trans z))])]; first | (have hA := xb_t e20 c206; have hB := xb_t e27 c218; rw [yAdd, yUs, yUs, if_pos hA, if_pos hB, hl]; clear h hr hlk hnm hl hl0 hv0; subst_vars; rfl) | (have hA := xb_t e20 c206; have hB := xb_f e27 c218; rw [yAdd, yUs, yUs, if_pos hA, if_neg hB, hl]; clear h hr hlk hnm hl hl0 hv0; subst_vars; rfl) | (have hA := xb_f e20 c206; have hB := xb_t e27 c218; rw [yAdd, yUs, yUs, if_neg hA, if_pos hB, hl]; clear h hr hlk hnm hl hl0 hv0; subst_vars; rfl) | (have hA := xb_f e20 c206; have hB := xb_f e27 c218; rw [yAdd, yUs, yUs, if_neg hA, if_neg hB, hl]; clear h hr hlk hnm hl hl0 hv0; subst_vars; rfl)))
                    · exact absurd c100 c218
                  · exact absurd c83 c206
                · refine kr_aload_n h dX1_policy_144 rfl 3 rfl ?_
                  refine kr_iconst (v := 4) h dX1_policy_145 (by decide) ?_
                  refine kr_iA h (kc_rV h (m_fail l D cI cZ cJ q x 4) mlX1_101 yvX1_fail dX1_policy_146 rfl rfl ⟨Nat.le_of_ble_eq_true rfl, Nat.le_of_ble_eq_true rfl⟩ ⟨Nat.le_of_ble_eq_true rfl, Nat.le_of_ble_eq_true rfl⟩ (Nat.le_of_ble_eq_true rfl) [0, 1, 2, 3, 4, 5, 6, 7, 8, 9, 10, 11, 12, 13, 14, 15, 16, 17, 18, 19] rfl rfl 0 rfl rfl rfl) (fun v146 e146 => ?_)
                  generalize ex146 : (xI x 6 4) = x146
                  exact kr_iret h hr hlk dX1_policy_149 (e146.trans (yPol_c (by rw [yPolC, if_neg (fun z => c9 (e6.trans z)), if_neg (fun z => by rcases z with z | z | z <;> first | exact xb_f e20 c34 z.1 | exact z.2 (e42.symm.trans c43) | exact xb_f e27 c48 z.1 | exact z.2 (e56.symm.trans c57) | exact xb_f e20 c62 z.1 | exact xb_f e27 c67 z.2.1 | exact c72 z.2.2), if_neg (fun z => c126 (hl.symm.trans z)), if_pos (e136.symm.trans c141)]) (by decide)).1.symm) (by rw [(yPol_c (by rw [yPolC, if_neg (fun z => c9 (e6.trans z)), if_neg (fun z => by rcases z with z | z | z <;> first | exact xb_f e20 c34 z.1 | exact z.2 (e42.symm.trans c43) | exact xb_f e27 c48 z.1 | exact z.2 (e56.symm.trans c57) | exact xb_f e20 c62 z.1 | exact xb_f e27 c67 z.2.1 | exact c72 z.2.2), if_neg (fun z => c126 (hl.symm.trans z)), if_pos (e136.symm.trans c141)]) (by decide)).2, ← ex146])
              · exact absurd c126 (by decide)
            · exact absurd c48 c100
          · exact absurd c62 c83
        · exact absurd c34 c62
      · refine kr_aload_n h dX1_policy_51 rfl 2 rfl ?_
        refine kr_get h FX1ok 0 15 dX1_policy_52 flX1_57 rfl rfl (by decide) rfl rfl ?_
        refine kr_iload_n h dX1_policy_55 rfl 5 rfl ?_
        refine kr_zald h 7 1 dX1_policy_56 rfl rfl (yFits_B hN (fun z => c9 (e6.trans z)) (xb_t e27 c48)) (fun v56 e56 => ?_)
        refine kr_if_ne h 75 dX1_policy_57 (by decide) (fun c57 => ?_) (fun c57 => ?_)
        · refine kr_aload_n h dX1_policy_75 rfl 2 rfl ?_
          refine kr_iconst (v := 2) h dX1_policy_76 (by decide) ?_
          refine kr_iA h (kc_rV h (m_fail l D cI cZ cJ q x 2) mlX1_101 yvX1_fail dX1_policy_77 rfl rfl ⟨Nat.le_of_ble_eq_true rfl, Nat.le_of_ble_eq_true rfl⟩ ⟨Nat.le_of_ble_eq_true rfl, Nat.le_of_ble_eq_true rfl⟩ (Nat.le_of_ble_eq_true rfl) [0, 1, 2, 3, 4, 5, 6, 7, 8, 9, 10, 11, 12, 13, 14, 15, 16, 17, 18, 19] rfl rfl 0 rfl rfl rfl) (fun v77 e77 => ?_)
          generalize ex77 : (xI x 6 2) = x77
          exact kr_iret h hr hlk dX1_policy_80 (e77.trans (yPol_c (by rw [yPolC, if_neg (fun z => c9 (e6.trans z)), if_pos (by first | exact Or.inl ⟨xb_t e20 c34, fun z => c43 (e42.trans z)⟩ | exact Or.inr (Or.inl ⟨xb_t e27 c48, fun z => c57 (e56.trans z)⟩) | exact Or.inr (Or.inr ⟨xb_t e20 c62, xb_t e27 c67, c72⟩))]) (by decide)).1.symm) (by rw [(yPol_c (by rw [yPolC, if_neg (fun z => c9 (e6.trans z)), if_pos (by first | exact Or.inl ⟨xb_t e20 c34, fun z => c43 (e42.trans z)⟩ | exact Or.inr (Or.inl ⟨xb_t e27 c48, fun z => c57 (e56.trans z)⟩) | exact Or.inr (Or.inr ⟨xb_t e20 c62, xb_t e27 c67, c72⟩))]) (by decide)).2, ← ex77])
        · refine kr_iload h dX1_policy_60 1 rfl ?_
          refine kr_if_eq h 81 dX1_policy_62 (by decide) (fun c62 => ?_) (fun c62 => ?_)
          · refine kr_iload h dX1_policy_81 1 rfl ?_
            refine kr_if_eq h 95 dX1_policy_83 (by decide) (fun c83 => ?_) (fun c83 => ?_)
            · refine kr_iconst (v := 0) h dX1_policy_95 (by decide) ?_
              refine kr_istore (lv' := [(7, .int 0), (6, .int v27), (5, .int v20), (0, .ref (q 0)), (1, .int k), (2, .int a), (3, .int b), (4, .int c)]) h dX1_policy_96 (by decide) rfl ?_
              first | have hl0 : yL0 x k a = v91 := (if_pos (xb_t e20 c83)).trans e91.symm | have hl0 : yL0 x k a = 0 := if_neg (xb_f e20 c83)
              refine kr_iload h dX1_policy_98 1 rfl ?_
              refine kr_if_eq h 122 dX1_policy_100 (by decide) (fun c100 => ?_) (fun c100 => ?_)
              · exact absurd c100 c48
              · refine kr_aload_n h dX1_policy_103 rfl 3 rfl ?_
                refine kr_get h FX1ok 0 13 dX1_policy_104 flX1_51 rfl rfl (by decide) rfl rfl ?_
                refine kr_iload_n h dX1_policy_107 rfl 6 rfl ?_
                refine kr_iald h 5 0 dX1_policy_108 rfl rfl (yFits_B hN (fun z => c9 (e6.trans z)) (xb_t e27 c100)) (fun v108 e108 => ?_)
                refine kr_iload h dX1_policy_109 0 rfl ?_
                refine kr_icmp_le h 122 dX1_policy_111 (by decide) (fun c111 => ?_) (fun c111 => ?_)
                · first | have hl := (show yL x k a b = x.1 4 (tn b) from if_pos ⟨xb_t e27 c100, by rw [hl0, ← e108]; exact c111⟩).trans e119.symm | have hl := (show yL x k a b = yL0 x k a from if_neg (fun z => by first | exact xb_f e27 c100 z.1 | exact z.2 (by rw [hl0, ← e108]; exact c111))).trans hl0
                  refine kr_iload h dX1_policy_122 0 rfl ?_
                  refine kr_bipush (v := 7) h dX1_policy_124 (by decide) ?_
                  refine kr_icmp_ne h 135 dX1_policy_126 (by decide) (fun c126 => ?_) (fun c126 => ?_)
                  · refine kr_aload_n h dX1_policy_135 rfl 3 rfl ?_
                    refine kr_get h FX1ok 0 0 dX1_policy_136 flX1_7 rfl rfl (by decide) rfl rfl ?_
                    refine kr_top h (fun v136 e136 => ?_)
                    refine kr_bipush (v := 40) h dX1_policy_139 (by decide) ?_
                    refine kr_icmp_ne h 150 dX1_policy_141 (by decide) (fun c141 => ?_) (fun c141 => ?_)
                    · have hv0 : vp_in (x.2 0) 40 := xN_ne hN (fun z => c141 (e136.trans z))
                      refine kr_aload_n h dX1_policy_150 rfl 3 rfl ?_
                      refine kr_get h FX1ok 0 9 dX1_policy_151 flX1_38 rfl rfl (by decide) rfl rfl ?_
                      refine kr_aload_n h dX1_policy_154 rfl 3 rfl ?_
                      refine kr_get h FX1ok 0 0 dX1_policy_155 flX1_7 rfl rfl (by decide) rfl rfl ?_
                      refine kr_top h (fun v155 e155 => ?_)
                      refine kr_iload_n h dX1_policy_158 rfl 4 rfl ?_
                      refine kr_iast (ws' := wY cI cZ q (xA x 0 (upd (x.1 0) (tn v155) k))) h 1 0 dX1_policy_159 rfl rfl (by rw [e155]; exact hv0) (wY_r0 cI cZ q x _) ?_
                      generalize ex159 : (xA x 0 (upd (x.1 0) (tn v155) k)) = x159
                      refine kr_aload_n h dX1_policy_160 rfl 3 rfl ?_
                      refine kr_get h FX1ok 0 10 dX1_policy_161 flX1_42 rfl rfl (by decide) rfl rfl ?_
                      refine kr_aload_n h dX1_policy_164 rfl 3 rfl ?_
                      refine kr_get h FX1ok 0 0 dX1_policy_165 flX1_7 rfl rfl (by decide) rfl rfl ?_
                      refine kr_top h (fun v165 e165 => ?_)
                      have h165 : v165 = x.2 0 := e165.trans (by rw [← ex159]; rfl)
                      clear e165
                      refine kr_iload_n h dX1_policy_168 rfl 5 rfl ?_
                      refine kr_iast (ws' := wY cI cZ q (xA x159 1 (upd (x159.1 1) (tn v165) a))) h 2 0 dX1_policy_169 rfl rfl (by rw [h165]; exact hv0) (wY_r1 cI cZ q x159 _) ?_
                      generalize ex169 : (xA x159 1 (upd (x159.1 1) (tn v165) a)) = x169
                      refine kr_aload_n h dX1_policy_170 rfl 3 rfl ?_
                      refine kr_get h FX1ok 0 11 dX1_policy_171 flX1_45 rfl rfl (by decide) rfl rfl ?_
                      refine kr_aload_n h dX1_policy_174 rfl 3 rfl ?_
                      refine kr_get h FX1ok 0 0 dX1_policy_175 flX1_7 rfl rfl (by decide) rfl rfl ?_
                      refine kr_top h (fun v175 e175 => ?_)
                      have h175 : v175 = x.2 0 := e175.trans (by rw [← ex169]; rw [← ex159]; rfl)
                      clear e175
                      refine kr_iload_n h dX1_policy_178 rfl 6 rfl ?_
                      refine kr_iast (ws' := wY cI cZ q (xA x169 2 (upd (x169.1 2) (tn v175) b))) h 3 0 dX1_policy_179 rfl rfl (by rw [h175]; exact hv0) (wY_r2 cI cZ q x169 _) ?_
                      generalize ex179 : (xA x169 2 (upd (x169.1 2) (tn v175) b)) = x179
                      refine kr_aload_n h dX1_policy_180 rfl 3 rfl ?_
                      refine kr_get h FX1ok 0 12 dX1_policy_181 flX1_48 rfl rfl (by decide) rfl rfl ?_
                      refine kr_aload_n h dX1_policy_184 rfl 3 rfl ?_
                      refine kr_get h FX1ok 0 0 dX1_policy_185 flX1_7 rfl rfl (by decide) rfl rfl ?_
                      refine kr_top h (fun v185 e185 => ?_)
                      have h185 : v185 = x.2 0 := e185.trans (by rw [← ex179]; rw [← ex169]; rw [← ex159]; rfl)
                      clear e185
                      refine kr_iload h dX1_policy_188 7 rfl ?_
                      refine kr_iast (ws' := wY cI cZ q (xA x179 3 (upd (x179.1 3) (tn v185) c))) h 4 0 dX1_policy_190 rfl rfl (by rw [h185]; exact hv0) (wY_r3 cI cZ q x179 _) ?_
                      generalize ex190 : (xA x179 3 (upd (x179.1 3) (tn v185) c)) = x190
                      refine kr_aload_n h dX1_policy_191 rfl 3 rfl ?_
                      refine kr_get h FX1ok 0 13 dX1_policy_192 flX1_51 rfl rfl (by decide) rfl rfl ?_
                      refine kr_aload_n h dX1_policy_195 rfl 3 rfl ?_
                      refine kr_get h FX1ok 0 0 dX1_policy_196 flX1_7 rfl rfl (by decide) rfl rfl ?_
                      refine kr_top h (fun v196 e196 => ?_)
                      have h196 : v196 = x.2 0 := e196.trans (by rw [← ex190]; rw [← ex179]; rw [← ex169]; rw [← ex159]; rfl)
                      clear e196
                      refine kr_iload h dX1_policy_199 0 rfl ?_
                      refine kr_iconst (v := 1) h dX1_policy_201 (by decide) ?_
                      refine kr_iadd h dX1_policy_202 (fun v202 e202 => ?_)
                      refine kr_iast (ws' := wY cI cZ q (xA x190 4 (upd (x190.1 4) (tn v196) v202))) h 5 0 dX1_policy_203 rfl rfl (by rw [h196]; exact hv0) (wY_r4 cI cZ q x190 _) ?_
                      generalize ex203 : (xA x190 4 (upd (x190.1 4) (tn v196) v202)) = x203
                      refine kr_iload h dX1_policy_204 2 rfl ?_
                      refine kr_if_eq h 216 dX1_policy_206 (by decide) (fun c206 => ?_) (fun c206 => ?_)
                      · refine kr_iload h dX1_policy_216 1 rfl ?_
                        refine kr_if_eq h 228 dX1_policy_218 (by decide) (fun c218 => ?_) (fun c218 => ?_)
                        · exact absurd c218 c100
                        · refine kr_aload_n h dX1_policy_221 rfl 3 rfl ?_
                          refine kr_get h FX1ok 0 15 dX1_policy_222 flX1_57 rfl rfl (by decide) rfl rfl ?_
                          refine kr_iload_n h dX1_policy_225 rfl 6 rfl ?_
                          refine kr_iconst (v := 1) h dX1_policy_226 (by decide) ?_
                          refine kr_zastN (ws' := wY cI cZ q (xA x203 6 (upd (x203.1 6) (tn b) 1))) h 7 1 kc_n1 dX1_policy_227 rfl rfl (yFits_B hN (fun z => c9 (e6.trans z)) (xb_t e27 c218)) (wY_r6 cI cZ q x203 _) ?_
                          generalize ex227 : (xA x203 6 (upd (x203.1 6) (tn b) 1)) = x227
                          refine kr_aload_n h dX1_policy_228 rfl 3 rfl ?_
                          refine kr_dup h dX1_policy_229 rfl ?_
                          refine kr_get h FX1ok 0 0 dX1_policy_230 flX1_7 rfl rfl (by decide) rfl rfl ?_
                          refine kr_top h (fun v230 e230 => ?_)
                          refine kr_iconst (v := 1) h dX1_policy_233 (by decide) ?_
                          refine kr_iadd h dX1_policy_234 (fun v234 e234 => ?_)
                          refine kr_put (ws' := wY cI cZ q (xI x227 0 v234)) h FX1ok 0 0 dX1_policy_235 flX1_7 rfl rfl (by decide) rfl rfl rfl rfl (Nat.le_of_ble_eq_true rfl) rfl ?_
                          generalize ex235 : (xI x227 0 v234) = x235
                          refine kr_aload_n h dX1_policy_238 rfl 3 rfl ?_
                          refine kr_aload_n h dX1_policy_239 rfl 3 rfl ?_
                          refine kr_get h FX1ok 0 0 dX1_policy_240 flX1_7 rfl rfl (by decide) rfl rfl ?_
                          refine kr_top h (fun v240 e240 => ?_)
                          refine kr_iconst (v := 1) h dX1_policy_243 (by decide) ?_
                          refine kr_isub h dX1_policy_244 (fun v244 e244 => ?_)
                          refine kr_iA h (kc_rV h (m_fine l D cI cZ cJ q x235 v244) mlX1_105 yvX1_fine dX1_policy_245 rfl rfl ⟨Nat.le_of_ble_eq_true rfl, Nat.le_of_ble_eq_true rfl⟩ ⟨Nat.le_of_ble_eq_true rfl, Nat.le_of_ble_eq_true rfl⟩ (Nat.le_of_ble_eq_true rfl) [0, 1, 2, 3, 4, 5, 6, 7, 8, 9, 10, 11, 12, 13, 14, 15, 16, 17, 18, 19] rfl rfl 0 rfl rfl rfl) (fun v245 e245 => ?_)
                          generalize ex245 : (xI x235 6 0) = x245
                          exact kr_iret h hr hlk dX1_policy_248 (by rw [yPolR, if_pos (by rw [yPolC, if_neg (fun z => c9 (e6.trans z)), if_neg (fun z => by rcases z with z | z | z <;> first | exact xb_f e20 c34 z.1 | exact z.2 (e42.symm.trans c43) | exact xb_f e27 c48 z.1 | exact z.2 (e56.symm.trans c57) | exact xb_f e20 c62 z.1 | exact xb_f e27 c67 z.2.1 | exact c72 z.2.2), if_neg (fun z => c126 (hl.symm.trans z)), if_neg (fun z => c141 (e136.trans z))]), e245, e244, e240, ← ex235, e234]; show _ + 1 - 1 = _; rw [e230]; first | (rw [← ex227, ← ex215, ← ex203, ← ex190, ← ex179, ← ex169, ← ex159]; rfl) | (rw [← ex227, ← ex203, ← ex190, ← ex179, ← ex169, ← ex159]; rfl) | (rw [← ex215, ← ex203, ← ex190, ← ex179, ← ex169, ← ex159]; rfl) | (rw [← ex203, ← ex190, ← ex179, ← ex169, ← ex159]; rfl)) (congrArg _ (by rw [yPolX, if_pos (by rw [yPolC, if_neg (fun z => c9 (e6.trans z)), if_neg (fun z => by rcases z with z | z | z <;> first | exact xb_f e20 c34 z.1 | exact z.2 (e42.symm.trans c43) | exact xb_f e27 c48 z.1 | exact z.2 (e56.symm.trans c57) | exact xb_f e20 c62 z.1 | exact xb_f e27 c67 z.2.1 | exact c72 z.2.2), if_neg (fun z => c126 (hl.symm.trans z)), if_neg (fun z => c141 (e136.trans z))])]; first | (have hA := xb_t e20 c206; have hB := xb_t e27 c218; rw [yAdd, yUs, yUs, if_pos hA, if_pos hB, hl]; clear h hr hlk hnm hl hl0 hv0; subst_vars; rfl) | (have hA := xb_t e20 c206; have hB := xb_f e27 c218; rw [yAdd, yUs, yUs, if_pos hA, if_neg hB, hl]; clear h hr hlk hnm hl hl0 hv0; subst_vars; rfl) | (have hA := xb_f e20 c206; have hB := xb_t e27 c218; rw [yAdd, yUs, yUs, if_neg hA, if_pos hB, hl]; clear h hr hlk hnm hl hl0 hv0; subst_vars; rfl) | (have hA := xb_f e20 c206; have hB := xb_f e27 c218; rw [yAdd, yUs, yUs, if_neg hA, if_neg hB, hl]; clear h hr hlk hnm hl hl0 hv0; subst_vars; rfl)))
                      · exact absurd c83 c206
                    · refine kr_aload_n h dX1_policy_144 rfl 3 rfl ?_
                      refine kr_iconst (v := 4) h dX1_policy_145 (by decide) ?_
                      refine kr_iA h (kc_rV h (m_fail l D cI cZ cJ q x 4) mlX1_101 yvX1_fail dX1_policy_146 rfl rfl ⟨Nat.le_of_ble_eq_true rfl, Nat.le_of_ble_eq_true rfl⟩ ⟨Nat.le_of_ble_eq_true rfl, Nat.le_of_ble_eq_true rfl⟩ (Nat.le_of_ble_eq_true rfl) [0, 1, 2, 3, 4, 5, 6, 7, 8, 9, 10, 11, 12, 13, 14, 15, 16, 17, 18, 19] rfl rfl 0 rfl rfl rfl) (fun v146 e146 => ?_)
                      generalize ex146 : (xI x 6 4) = x146
                      exact kr_iret h hr hlk dX1_policy_149 (e146.trans (yPol_c (by rw [yPolC, if_neg (fun z => c9 (e6.trans z)), if_neg (fun z => by rcases z with z | z | z <;> first | exact xb_f e20 c34 z.1 | exact z.2 (e42.symm.trans c43) | exact xb_f e27 c48 z.1 | exact z.2 (e56.symm.trans c57) | exact xb_f e20 c62 z.1 | exact xb_f e27 c67 z.2.1 | exact c72 z.2.2), if_neg (fun z => c126 (hl.symm.trans z)), if_pos (e136.symm.trans c141)]) (by decide)).1.symm) (by rw [(yPol_c (by rw [yPolC, if_neg (fun z => c9 (e6.trans z)), if_neg (fun z => by rcases z with z | z | z <;> first | exact xb_f e20 c34 z.1 | exact z.2 (e42.symm.trans c43) | exact xb_f e27 c48 z.1 | exact z.2 (e56.symm.trans c57) | exact xb_f e20 c62 z.1 | exact xb_f e27 c67 z.2.1 | exact c72 z.2.2), if_neg (fun z => c126 (hl.symm.trans z)), if_pos (e136.symm.trans c141)]) (by decide)).2, ← ex146])
                  · exact absurd c126 (by decide)
                · refine kr_aload_n h dX1_policy_114 rfl 3 rfl ?_
                  refine kr_get h FX1ok 0 13 dX1_policy_115 flX1_51 rfl rfl (by decide) rfl rfl ?_
                  refine kr_iload_n h dX1_policy_118 rfl 6 rfl ?_
                  refine kr_iald h 5 0 dX1_policy_119 rfl rfl (yFits_B hN (fun z => c9 (e6.trans z)) (xb_t e27 c100)) (fun v119 e119 => ?_)
                  refine kr_istore (lv' := [(7, .int v119), (6, .int v27), (5, .int v20), (0, .ref (q 0)), (1, .int k), (2, .int a), (3, .int b), (4, .int c)]) h dX1_policy_120 (by decide) rfl ?_
                  first | have hl := (show yL x k a b = x.1 4 (tn b) from if_pos ⟨xb_t e27 c100, by rw [hl0, ← e108]; exact c111⟩).trans e119.symm | have hl := (show yL x k a b = yL0 x k a from if_neg (fun z => by first | exact xb_f e27 c100 z.1 | exact z.2 (by rw [hl0, ← e108]; exact c111))).trans hl0
                  refine kr_iload h dX1_policy_122 0 rfl ?_
                  refine kr_bipush (v := 7) h dX1_policy_124 (by decide) ?_
                  refine kr_icmp_ne h 135 dX1_policy_126 (by decide) (fun c126 => ?_) (fun c126 => ?_)
                  · refine kr_aload_n h dX1_policy_135 rfl 3 rfl ?_
                    refine kr_get h FX1ok 0 0 dX1_policy_136 flX1_7 rfl rfl (by decide) rfl rfl ?_
                    refine kr_top h (fun v136 e136 => ?_)
                    refine kr_bipush (v := 40) h dX1_policy_139 (by decide) ?_
                    refine kr_icmp_ne h 150 dX1_policy_141 (by decide) (fun c141 => ?_) (fun c141 => ?_)
                    · have hv0 : vp_in (x.2 0) 40 := xN_ne hN (fun z => c141 (e136.trans z))
                      refine kr_aload_n h dX1_policy_150 rfl 3 rfl ?_
                      refine kr_get h FX1ok 0 9 dX1_policy_151 flX1_38 rfl rfl (by decide) rfl rfl ?_
                      refine kr_aload_n h dX1_policy_154 rfl 3 rfl ?_
                      refine kr_get h FX1ok 0 0 dX1_policy_155 flX1_7 rfl rfl (by decide) rfl rfl ?_
                      refine kr_top h (fun v155 e155 => ?_)
                      refine kr_iload_n h dX1_policy_158 rfl 4 rfl ?_
                      refine kr_iast (ws' := wY cI cZ q (xA x 0 (upd (x.1 0) (tn v155) k))) h 1 0 dX1_policy_159 rfl rfl (by rw [e155]; exact hv0) (wY_r0 cI cZ q x _) ?_
                      generalize ex159 : (xA x 0 (upd (x.1 0) (tn v155) k)) = x159
                      refine kr_aload_n h dX1_policy_160 rfl 3 rfl ?_
                      refine kr_get h FX1ok 0 10 dX1_policy_161 flX1_42 rfl rfl (by decide) rfl rfl ?_
                      refine kr_aload_n h dX1_policy_164 rfl 3 rfl ?_
                      refine kr_get h FX1ok 0 0 dX1_policy_165 flX1_7 rfl rfl (by decide) rfl rfl ?_
                      refine kr_top h (fun v165 e165 => ?_)
                      have h165 : v165 = x.2 0 := e165.trans (by rw [← ex159]; rfl)
                      clear e165
                      refine kr_iload_n h dX1_policy_168 rfl 5 rfl ?_
                      refine kr_iast (ws' := wY cI cZ q (xA x159 1 (upd (x159.1 1) (tn v165) a))) h 2 0 dX1_policy_169 rfl rfl (by rw [h165]; exact hv0) (wY_r1 cI cZ q x159 _) ?_
                      generalize ex169 : (xA x159 1 (upd (x159.1 1) (tn v165) a)) = x169
                      refine kr_aload_n h dX1_policy_170 rfl 3 rfl ?_
                      refine kr_get h FX1ok 0 11 dX1_policy_171 flX1_45 rfl rfl (by decide) rfl rfl ?_
                      refine kr_aload_n h dX1_policy_174 rfl 3 rfl ?_
                      refine kr_get h FX1ok 0 0 dX1_policy_175 flX1_7 rfl rfl (by decide) rfl rfl ?_
                      refine kr_top h (fun v175 e175 => ?_)
                      have h175 : v175 = x.2 0 := e175.trans (by rw [← ex169]; rw [← ex159]; rfl)
                      clear e175
                      refine kr_iload_n h dX1_policy_178 rfl 6 rfl ?_
                      refine kr_iast (ws' := wY cI cZ q (xA x169 2 (upd (x169.1 2) (tn v175) b))) h 3 0 dX1_policy_179 rfl rfl (by rw [h175]; exact hv0) (wY_r2 cI cZ q x169 _) ?_
                      generalize ex179 : (xA x169 2 (upd (x169.1 2) (tn v175) b)) = x179
                      refine kr_aload_n h dX1_policy_180 rfl 3 rfl ?_
                      refine kr_get h FX1ok 0 12 dX1_policy_181 flX1_48 rfl rfl (by decide) rfl rfl ?_
                      refine kr_aload_n h dX1_policy_184 rfl 3 rfl ?_
                      refine kr_get h FX1ok 0 0 dX1_policy_185 flX1_7 rfl rfl (by decide) rfl rfl ?_
                      refine kr_top h (fun v185 e185 => ?_)
                      have h185 : v185 = x.2 0 := e185.trans (by rw [← ex179]; rw [← ex169]; rw [← ex159]; rfl)
                      clear e185
                      refine kr_iload h dX1_policy_188 7 rfl ?_
                      refine kr_iast (ws' := wY cI cZ q (xA x179 3 (upd (x179.1 3) (tn v185) c))) h 4 0 dX1_policy_190 rfl rfl (by rw [h185]; exact hv0) (wY_r3 cI cZ q x179 _) ?_
                      generalize ex190 : (xA x179 3 (upd (x179.1 3) (tn v185) c)) = x190
                      refine kr_aload_n h dX1_policy_191 rfl 3 rfl ?_
                      refine kr_get h FX1ok 0 13 dX1_policy_192 flX1_51 rfl rfl (by decide) rfl rfl ?_
                      refine kr_aload_n h dX1_policy_195 rfl 3 rfl ?_
                      refine kr_get h FX1ok 0 0 dX1_policy_196 flX1_7 rfl rfl (by decide) rfl rfl ?_
                      refine kr_top h (fun v196 e196 => ?_)
                      have h196 : v196 = x.2 0 := e196.trans (by rw [← ex190]; rw [← ex179]; rw [← ex169]; rw [← ex159]; rfl)
                      clear e196
                      refine kr_iload h dX1_policy_199 0 rfl ?_
                      refine kr_iconst (v := 1) h dX1_policy_201 (by decide) ?_
                      refine kr_iadd h dX1_policy_202 (fun v202 e202 => ?_)
                      refine kr_iast (ws' := wY cI cZ q (xA x190 4 (upd (x190.1 4) (tn v196) v202))) h 5 0 dX1_policy_203 rfl rfl (by rw [h196]; exact hv0) (wY_r4 cI cZ q x190 _) ?_
                      generalize ex203 : (xA x190 4 (upd (x190.1 4) (tn v196) v202)) = x203
                      refine kr_iload h dX1_policy_204 2 rfl ?_
                      refine kr_if_eq h 216 dX1_policy_206 (by decide) (fun c206 => ?_) (fun c206 => ?_)
                      · refine kr_iload h dX1_policy_216 1 rfl ?_
                        refine kr_if_eq h 228 dX1_policy_218 (by decide) (fun c218 => ?_) (fun c218 => ?_)
                        · exact absurd c218 c100
                        · refine kr_aload_n h dX1_policy_221 rfl 3 rfl ?_
                          refine kr_get h FX1ok 0 15 dX1_policy_222 flX1_57 rfl rfl (by decide) rfl rfl ?_
                          refine kr_iload_n h dX1_policy_225 rfl 6 rfl ?_
                          refine kr_iconst (v := 1) h dX1_policy_226 (by decide) ?_
                          refine kr_zastN (ws' := wY cI cZ q (xA x203 6 (upd (x203.1 6) (tn b) 1))) h 7 1 kc_n1 dX1_policy_227 rfl rfl (yFits_B hN (fun z => c9 (e6.trans z)) (xb_t e27 c218)) (wY_r6 cI cZ q x203 _) ?_
                          generalize ex227 : (xA x203 6 (upd (x203.1 6) (tn b) 1)) = x227
                          refine kr_aload_n h dX1_policy_228 rfl 3 rfl ?_
                          refine kr_dup h dX1_policy_229 rfl ?_
                          refine kr_get h FX1ok 0 0 dX1_policy_230 flX1_7 rfl rfl (by decide) rfl rfl ?_
                          refine kr_top h (fun v230 e230 => ?_)
                          refine kr_iconst (v := 1) h dX1_policy_233 (by decide) ?_
                          refine kr_iadd h dX1_policy_234 (fun v234 e234 => ?_)
                          refine kr_put (ws' := wY cI cZ q (xI x227 0 v234)) h FX1ok 0 0 dX1_policy_235 flX1_7 rfl rfl (by decide) rfl rfl rfl rfl (Nat.le_of_ble_eq_true rfl) rfl ?_
                          generalize ex235 : (xI x227 0 v234) = x235
                          refine kr_aload_n h dX1_policy_238 rfl 3 rfl ?_
                          refine kr_aload_n h dX1_policy_239 rfl 3 rfl ?_
                          refine kr_get h FX1ok 0 0 dX1_policy_240 flX1_7 rfl rfl (by decide) rfl rfl ?_
                          refine kr_top h (fun v240 e240 => ?_)
                          refine kr_iconst (v := 1) h dX1_policy_243 (by decide) ?_
                          refine kr_isub h dX1_policy_244 (fun v244 e244 => ?_)
                          refine kr_iA h (kc_rV h (m_fine l D cI cZ cJ q x235 v244) mlX1_105 yvX1_fine dX1_policy_245 rfl rfl ⟨Nat.le_of_ble_eq_true rfl, Nat.le_of_ble_eq_true rfl⟩ ⟨Nat.le_of_ble_eq_true rfl, Nat.le_of_ble_eq_true rfl⟩ (Nat.le_of_ble_eq_true rfl) [0, 1, 2, 3, 4, 5, 6, 7, 8, 9, 10, 11, 12, 13, 14, 15, 16, 17, 18, 19] rfl rfl 0 rfl rfl rfl) (fun v245 e245 => ?_)
                          generalize ex245 : (xI x235 6 0) = x245
                          exact kr_iret h hr hlk dX1_policy_248 (by rw [yPolR, if_pos (by rw [yPolC, if_neg (fun z => c9 (e6.trans z)), if_neg (fun z => by rcases z with z | z | z <;> first | exact xb_f e20 c34 z.1 | exact z.2 (e42.symm.trans c43) | exact xb_f e27 c48 z.1 | exact z.2 (e56.symm.trans c57) | exact xb_f e20 c62 z.1 | exact xb_f e27 c67 z.2.1 | exact c72 z.2.2), if_neg (fun z => c126 (hl.symm.trans z)), if_neg (fun z => c141 (e136.trans z))]), e245, e244, e240, ← ex235, e234]; show _ + 1 - 1 = _; rw [e230]; first | (rw [← ex227, ← ex215, ← ex203, ← ex190, ← ex179, ← ex169, ← ex159]; rfl) | (rw [← ex227, ← ex203, ← ex190, ← ex179, ← ex169, ← ex159]; rfl) | (rw [← ex215, ← ex203, ← ex190, ← ex179, ← ex169, ← ex159]; rfl) | (rw [← ex203, ← ex190, ← ex179, ← ex169, ← ex159]; rfl)) (congrArg _ (by rw [yPolX, if_pos (by rw [yPolC, if_neg (fun z => c9 (e6.trans z)), if_neg (fun z => by rcases z with z | z | z <;> first | exact xb_f e20 c34 z.1 | exact z.2 (e42.symm.trans c43) | exact xb_f e27 c48 z.1 | exact z.2 (e56.symm.trans c57) | exact xb_f e20 c62 z.1 | exact xb_f e27 c67 z.2.1 | exact c72 z.2.2), if_neg (fun z => c126 (hl.symm.trans z)), if_neg (fun z => c141 (e136.trans z))])]; first | (have hA := xb_t e20 c206; have hB := xb_t e27 c218; rw [yAdd, yUs, yUs, if_pos hA, if_pos hB, hl]; clear h hr hlk hnm hl hl0 hv0; subst_vars; rfl) | (have hA := xb_t e20 c206; have hB := xb_f e27 c218; rw [yAdd, yUs, yUs, if_pos hA, if_neg hB, hl]; clear h hr hlk hnm hl hl0 hv0; subst_vars; rfl) | (have hA := xb_f e20 c206; have hB := xb_t e27 c218; rw [yAdd, yUs, yUs, if_neg hA, if_pos hB, hl]; clear h hr hlk hnm hl hl0 hv0; subst_vars; rfl) | (have hA := xb_f e20 c206; have hB := xb_f e27 c218; rw [yAdd, yUs, yUs, if_neg hA, if_neg hB, hl]; clear h hr hlk hnm hl hl0 hv0; subst_vars; rfl)))
                      · exact absurd c83 c206
                    · refine kr_aload_n h dX1_policy_144 rfl 3 rfl ?_
                      refine kr_iconst (v := 4) h dX1_policy_145 (by decide) ?_
                      refine kr_iA h (kc_rV h (m_fail l D cI cZ cJ q x 4) mlX1_101 yvX1_fail dX1_policy_146 rfl rfl ⟨Nat.le_of_ble_eq_true rfl, Nat.le_of_ble_eq_true rfl⟩ ⟨Nat.le_of_ble_eq_true rfl, Nat.le_of_ble_eq_true rfl⟩ (Nat.le_of_ble_eq_true rfl) [0, 1, 2, 3, 4, 5, 6, 7, 8, 9, 10, 11, 12, 13, 14, 15, 16, 17, 18, 19] rfl rfl 0 rfl rfl rfl) (fun v146 e146 => ?_)
                      generalize ex146 : (xI x 6 4) = x146
                      exact kr_iret h hr hlk dX1_policy_149 (e146.trans (yPol_c (by rw [yPolC, if_neg (fun z => c9 (e6.trans z)), if_neg (fun z => by rcases z with z | z | z <;> first | exact xb_f e20 c34 z.1 | exact z.2 (e42.symm.trans c43) | exact xb_f e27 c48 z.1 | exact z.2 (e56.symm.trans c57) | exact xb_f e20 c62 z.1 | exact xb_f e27 c67 z.2.1 | exact c72 z.2.2), if_neg (fun z => c126 (hl.symm.trans z)), if_pos (e136.symm.trans c141)]) (by decide)).1.symm) (by rw [(yPol_c (by rw [yPolC, if_neg (fun z => c9 (e6.trans z)), if_neg (fun z => by rcases z with z | z | z <;> first | exact xb_f e20 c34 z.1 | exact z.2 (e42.symm.trans c43) | exact xb_f e27 c48 z.1 | exact z.2 (e56.symm.trans c57) | exact xb_f e20 c62 z.1 | exact xb_f e27 c67 z.2.1 | exact c72 z.2.2), if_neg (fun z => c126 (hl.symm.trans z)), if_pos (e136.symm.trans c141)]) (by decide)).2, ← ex146])
                  · refine kr_aload_n h dX1_policy_129 rfl 3 rfl ?_
                    refine kr_iconst (v := 3) h dX1_policy_130 (by decide) ?_
                    refine kr_iA h (kc_rV h (m_fail l D cI cZ cJ q x 3) mlX1_101 yvX1_fail dX1_policy_131 rfl rfl ⟨Nat.le_of_ble_eq_true rfl, Nat.le_of_ble_eq_true rfl⟩ ⟨Nat.le_of_ble_eq_true rfl, Nat.le_of_ble_eq_true rfl⟩ (Nat.le_of_ble_eq_true rfl) [0, 1, 2, 3, 4, 5, 6, 7, 8, 9, 10, 11, 12, 13, 14, 15, 16, 17, 18, 19] rfl rfl 0 rfl rfl rfl) (fun v131 e131 => ?_)
                    generalize ex131 : (xI x 6 3) = x131
                    exact kr_iret h hr hlk dX1_policy_134 (e131.trans (yPol_c (by rw [yPolC, if_neg (fun z => c9 (e6.trans z)), if_neg (fun z => by rcases z with z | z | z <;> first | exact xb_f e20 c34 z.1 | exact z.2 (e42.symm.trans c43) | exact xb_f e27 c48 z.1 | exact z.2 (e56.symm.trans c57) | exact xb_f e20 c62 z.1 | exact xb_f e27 c67 z.2.1 | exact c72 z.2.2), if_pos (hl.trans c126)]) (by decide)).1.symm) (by rw [(yPol_c (by rw [yPolC, if_neg (fun z => c9 (e6.trans z)), if_neg (fun z => by rcases z with z | z | z <;> first | exact xb_f e20 c34 z.1 | exact z.2 (e42.symm.trans c43) | exact xb_f e27 c48 z.1 | exact z.2 (e56.symm.trans c57) | exact xb_f e20 c62 z.1 | exact xb_f e27 c67 z.2.1 | exact c72 z.2.2), if_pos (hl.trans c126)]) (by decide)).2, ← ex131])
            · exact absurd c62 c83
          · exact absurd c34 c62
    · refine kr_aload_n h dX1_policy_37 rfl 2 rfl ?_
      refine kr_get h FX1ok 0 15 dX1_policy_38 flX1_57 rfl rfl (by decide) rfl rfl ?_
      refine kr_iload_n h dX1_policy_41 rfl 4 rfl ?_
      refine kr_zald h 7 1 dX1_policy_42 rfl rfl (yFits_A hN (fun z => c9 (e6.trans z)) (xb_t e20 c34)) (fun v42 e42 => ?_)
      refine kr_if_ne h 75 dX1_policy_43 (by decide) (fun c43 => ?_) (fun c43 => ?_)
      · refine kr_aload_n h dX1_policy_75 rfl 2 rfl ?_
        refine kr_iconst (v := 2) h dX1_policy_76 (by decide) ?_
        refine kr_iA h (kc_rV h (m_fail l D cI cZ cJ q x 2) mlX1_101 yvX1_fail dX1_policy_77 rfl rfl ⟨Nat.le_of_ble_eq_true rfl, Nat.le_of_ble_eq_true rfl⟩ ⟨Nat.le_of_ble_eq_true rfl, Nat.le_of_ble_eq_true rfl⟩ (Nat.le_of_ble_eq_true rfl) [0, 1, 2, 3, 4, 5, 6, 7, 8, 9, 10, 11, 12, 13, 14, 15, 16, 17, 18, 19] rfl rfl 0 rfl rfl rfl) (fun v77 e77 => ?_)
        generalize ex77 : (xI x 6 2) = x77
        exact kr_iret h hr hlk dX1_policy_80 (e77.trans (yPol_c (by rw [yPolC, if_neg (fun z => c9 (e6.trans z)), if_pos (by first | exact Or.inl ⟨xb_t e20 c34, fun z => c43 (e42.trans z)⟩ | exact Or.inr (Or.inl ⟨xb_t e27 c48, fun z => c57 (e56.trans z)⟩) | exact Or.inr (Or.inr ⟨xb_t e20 c62, xb_t e27 c67, c72⟩))]) (by decide)).1.symm) (by rw [(yPol_c (by rw [yPolC, if_neg (fun z => c9 (e6.trans z)), if_pos (by first | exact Or.inl ⟨xb_t e20 c34, fun z => c43 (e42.trans z)⟩ | exact Or.inr (Or.inl ⟨xb_t e27 c48, fun z => c57 (e56.trans z)⟩) | exact Or.inr (Or.inr ⟨xb_t e20 c62, xb_t e27 c67, c72⟩))]) (by decide)).2, ← ex77])
      · refine kr_iload h dX1_policy_46 0 rfl ?_
        refine kr_if_eq h 60 dX1_policy_48 (by decide) (fun c48 => ?_) (fun c48 => ?_)
        · refine kr_iload h dX1_policy_60 1 rfl ?_
          refine kr_if_eq h 81 dX1_policy_62 (by decide) (fun c62 => ?_) (fun c62 => ?_)
          · exact absurd c62 c34
          · refine kr_iload h dX1_policy_65 0 rfl ?_
            refine kr_if_eq h 81 dX1_policy_67 (by decide) (fun c67 => ?_) (fun c67 => ?_)
            · refine kr_iload h dX1_policy_81 1 rfl ?_
              refine kr_if_eq h 95 dX1_policy_83 (by decide) (fun c83 => ?_) (fun c83 => ?_)
              · exact absurd c83 c62
              · refine kr_aload_n h dX1_policy_86 rfl 2 rfl ?_
                refine kr_get h FX1ok 0 13 dX1_policy_87 flX1_51 rfl rfl (by decide) rfl rfl ?_
                refine kr_iload_n h dX1_policy_90 rfl 4 rfl ?_
                refine kr_iald h 5 0 dX1_policy_91 rfl rfl (yFits_A hN (fun z => c9 (e6.trans z)) (xb_t e20 c83)) (fun v91 e91 => ?_)
                refine kr_goto h 96 dX1_policy_92 (by decide) ?_
                refine kr_istore (lv' := [(7, .int v91), (6, .int v27), (5, .int v20), (0, .ref (q 0)), (1, .int k), (2, .int a), (3, .int b), (4, .int c)]) h dX1_policy_96 (by decide) rfl ?_
                first | have hl0 : yL0 x k a = v91 := (if_pos (xb_t e20 c83)).trans e91.symm | have hl0 : yL0 x k a = 0 := if_neg (xb_f e20 c83)
                refine kr_iload h dX1_policy_98 1 rfl ?_
                refine kr_if_eq h 122 dX1_policy_100 (by decide) (fun c100 => ?_) (fun c100 => ?_)
                · first | have hl := (show yL x k a b = x.1 4 (tn b) from if_pos ⟨xb_t e27 c100, by rw [hl0, ← e108]; exact c111⟩).trans e119.symm | have hl := (show yL x k a b = yL0 x k a from if_neg (fun z => by first | exact xb_f e27 c100 z.1 | exact z.2 (by rw [hl0, ← e108]; exact c111))).trans hl0
                  refine kr_iload h dX1_policy_122 0 rfl ?_
                  refine kr_bipush (v := 7) h dX1_policy_124 (by decide) ?_
                  refine kr_icmp_ne h 135 dX1_policy_126 (by decide) (fun c126 => ?_) (fun c126 => ?_)
                  · refine kr_aload_n h dX1_policy_135 rfl 3 rfl ?_
                    refine kr_get h FX1ok 0 0 dX1_policy_136 flX1_7 rfl rfl (by decide) rfl rfl ?_
                    refine kr_top h (fun v136 e136 => ?_)
                    refine kr_bipush (v := 40) h dX1_policy_139 (by decide) ?_
                    refine kr_icmp_ne h 150 dX1_policy_141 (by decide) (fun c141 => ?_) (fun c141 => ?_)
                    · have hv0 : vp_in (x.2 0) 40 := xN_ne hN (fun z => c141 (e136.trans z))
                      refine kr_aload_n h dX1_policy_150 rfl 3 rfl ?_
                      refine kr_get h FX1ok 0 9 dX1_policy_151 flX1_38 rfl rfl (by decide) rfl rfl ?_
                      refine kr_aload_n h dX1_policy_154 rfl 3 rfl ?_
                      refine kr_get h FX1ok 0 0 dX1_policy_155 flX1_7 rfl rfl (by decide) rfl rfl ?_
                      refine kr_top h (fun v155 e155 => ?_)
                      refine kr_iload_n h dX1_policy_158 rfl 4 rfl ?_
                      refine kr_iast (ws' := wY cI cZ q (xA x 0 (upd (x.1 0) (tn v155) k))) h 1 0 dX1_policy_159 rfl rfl (by rw [e155]; exact hv0) (wY_r0 cI cZ q x _) ?_
                      generalize ex159 : (xA x 0 (upd (x.1 0) (tn v155) k)) = x159
                      refine kr_aload_n h dX1_policy_160 rfl 3 rfl ?_
                      refine kr_get h FX1ok 0 10 dX1_policy_161 flX1_42 rfl rfl (by decide) rfl rfl ?_
                      refine kr_aload_n h dX1_policy_164 rfl 3 rfl ?_
                      refine kr_get h FX1ok 0 0 dX1_policy_165 flX1_7 rfl rfl (by decide) rfl rfl ?_
                      refine kr_top h (fun v165 e165 => ?_)
                      have h165 : v165 = x.2 0 := e165.trans (by rw [← ex159]; rfl)
                      clear e165
                      refine kr_iload_n h dX1_policy_168 rfl 5 rfl ?_
                      refine kr_iast (ws' := wY cI cZ q (xA x159 1 (upd (x159.1 1) (tn v165) a))) h 2 0 dX1_policy_169 rfl rfl (by rw [h165]; exact hv0) (wY_r1 cI cZ q x159 _) ?_
                      generalize ex169 : (xA x159 1 (upd (x159.1 1) (tn v165) a)) = x169
                      refine kr_aload_n h dX1_policy_170 rfl 3 rfl ?_
                      refine kr_get h FX1ok 0 11 dX1_policy_171 flX1_45 rfl rfl (by decide) rfl rfl ?_
                      refine kr_aload_n h dX1_policy_174 rfl 3 rfl ?_
                      refine kr_get h FX1ok 0 0 dX1_policy_175 flX1_7 rfl rfl (by decide) rfl rfl ?_
                      refine kr_top h (fun v175 e175 => ?_)
                      have h175 : v175 = x.2 0 := e175.trans (by rw [← ex169]; rw [← ex159]; rfl)
                      clear e175
                      refine kr_iload_n h dX1_policy_178 rfl 6 rfl ?_
                      refine kr_iast (ws' := wY cI cZ q (xA x169 2 (upd (x169.1 2) (tn v175) b))) h 3 0 dX1_policy_179 rfl rfl (by rw [h175]; exact hv0) (wY_r2 cI cZ q x169 _) ?_
                      generalize ex179 : (xA x169 2 (upd (x169.1 2) (tn v175) b)) = x179
                      refine kr_aload_n h dX1_policy_180 rfl 3 rfl ?_
                      refine kr_get h FX1ok 0 12 dX1_policy_181 flX1_48 rfl rfl (by decide) rfl rfl ?_
                      refine kr_aload_n h dX1_policy_184 rfl 3 rfl ?_
                      refine kr_get h FX1ok 0 0 dX1_policy_185 flX1_7 rfl rfl (by decide) rfl rfl ?_
                      refine kr_top h (fun v185 e185 => ?_)
                      have h185 : v185 = x.2 0 := e185.trans (by rw [← ex179]; rw [← ex169]; rw [← ex159]; rfl)
                      clear e185
                      refine kr_iload h dX1_policy_188 7 rfl ?_
                      refine kr_iast (ws' := wY cI cZ q (xA x179 3 (upd (x179.1 3) (tn v185) c))) h 4 0 dX1_policy_190 rfl rfl (by rw [h185]; exact hv0) (wY_r3 cI cZ q x179 _) ?_
                      generalize ex190 : (xA x179 3 (upd (x179.1 3) (tn v185) c)) = x190
                      refine kr_aload_n h dX1_policy_191 rfl 3 rfl ?_
                      refine kr_get h FX1ok 0 13 dX1_policy_192 flX1_51 rfl rfl (by decide) rfl rfl ?_
                      refine kr_aload_n h dX1_policy_195 rfl 3 rfl ?_
                      refine kr_get h FX1ok 0 0 dX1_policy_196 flX1_7 rfl rfl (by decide) rfl rfl ?_
                      refine kr_top h (fun v196 e196 => ?_)
                      have h196 : v196 = x.2 0 := e196.trans (by rw [← ex190]; rw [← ex179]; rw [← ex169]; rw [← ex159]; rfl)
                      clear e196
                      refine kr_iload h dX1_policy_199 0 rfl ?_
                      refine kr_iconst (v := 1) h dX1_policy_201 (by decide) ?_
                      refine kr_iadd h dX1_policy_202 (fun v202 e202 => ?_)
                      refine kr_iast (ws' := wY cI cZ q (xA x190 4 (upd (x190.1 4) (tn v196) v202))) h 5 0 dX1_policy_203 rfl rfl (by rw [h196]; exact hv0) (wY_r4 cI cZ q x190 _) ?_
                      generalize ex203 : (xA x190 4 (upd (x190.1 4) (tn v196) v202)) = x203
                      refine kr_iload h dX1_policy_204 2 rfl ?_
                      refine kr_if_eq h 216 dX1_policy_206 (by decide) (fun c206 => ?_) (fun c206 => ?_)
                      · exact absurd c206 c83
                      · refine kr_aload_n h dX1_policy_209 rfl 3 rfl ?_
                        refine kr_get h FX1ok 0 15 dX1_policy_210 flX1_57 rfl rfl (by decide) rfl rfl ?_
                        refine kr_iload_n h dX1_policy_213 rfl 5 rfl ?_
                        refine kr_iconst (v := 1) h dX1_policy_214 (by decide) ?_
                        refine kr_zastN (ws' := wY cI cZ q (xA x203 6 (upd (x203.1 6) (tn a) 1))) h 7 1 kc_n1 dX1_policy_215 rfl rfl (yFits_A hN (fun z => c9 (e6.trans z)) (xb_t e20 c206)) (wY_r6 cI cZ q x203 _) ?_
                        generalize ex215 : (xA x203 6 (upd (x203.1 6) (tn a) 1)) = x215
                        refine kr_iload h dX1_policy_216 1 rfl ?_
                        refine kr_if_eq h 228 dX1_policy_218 (by decide) (fun c218 => ?_) (fun c218 => ?_)
                        · refine kr_aload_n h dX1_policy_228 rfl 3 rfl ?_
                          refine kr_dup h dX1_policy_229 rfl ?_
                          refine kr_get h FX1ok 0 0 dX1_policy_230 flX1_7 rfl rfl (by decide) rfl rfl ?_
                          refine kr_top h (fun v230 e230 => ?_)
                          refine kr_iconst (v := 1) h dX1_policy_233 (by decide) ?_
                          refine kr_iadd h dX1_policy_234 (fun v234 e234 => ?_)
                          refine kr_put (ws' := wY cI cZ q (xI x215 0 v234)) h FX1ok 0 0 dX1_policy_235 flX1_7 rfl rfl (by decide) rfl rfl rfl rfl (Nat.le_of_ble_eq_true rfl) rfl ?_
                          generalize ex235 : (xI x215 0 v234) = x235
                          refine kr_aload_n h dX1_policy_238 rfl 3 rfl ?_
                          refine kr_aload_n h dX1_policy_239 rfl 3 rfl ?_
                          refine kr_get h FX1ok 0 0 dX1_policy_240 flX1_7 rfl rfl (by decide) rfl rfl ?_
                          refine kr_top h (fun v240 e240 => ?_)
                          refine kr_iconst (v := 1) h dX1_policy_243 (by decide) ?_
                          refine kr_isub h dX1_policy_244 (fun v244 e244 => ?_)
                          refine kr_iA h (kc_rV h (m_fine l D cI cZ cJ q x235 v244) mlX1_105 yvX1_fine dX1_policy_245 rfl rfl ⟨Nat.le_of_ble_eq_true rfl, Nat.le_of_ble_eq_true rfl⟩ ⟨Nat.le_of_ble_eq_true rfl, Nat.le_of_ble_eq_true rfl⟩ (Nat.le_of_ble_eq_true rfl) [0, 1, 2, 3, 4, 5, 6, 7, 8, 9, 10, 11, 12, 13, 14, 15, 16, 17, 18, 19] rfl rfl 0 rfl rfl rfl) (fun v245 e245 => ?_)
                          generalize ex245 : (xI x235 6 0) = x245
                          exact kr_iret h hr hlk dX1_policy_248 (by rw [yPolR, if_pos (by rw [yPolC, if_neg (fun z => c9 (e6.trans z)), if_neg (fun z => by rcases z with z | z | z <;> first | exact xb_f e20 c34 z.1 | exact z.2 (e42.symm.trans c43) | exact xb_f e27 c48 z.1 | exact z.2 (e56.symm.trans c57) | exact xb_f e20 c62 z.1 | exact xb_f e27 c67 z.2.1 | exact c72 z.2.2), if_neg (fun z => c126 (hl.symm.trans z)), if_neg (fun z => c141 (e136.trans z))]), e245, e244, e240, ← ex235, e234]; show _ + 1 - 1 = _; rw [e230]; first | (rw [← ex227, ← ex215, ← ex203, ← ex190, ← ex179, ← ex169, ← ex159]; rfl) | (rw [← ex227, ← ex203, ← ex190, ← ex179, ← ex169, ← ex159]; rfl) | (rw [← ex215, ← ex203, ← ex190, ← ex179, ← ex169, ← ex159]; rfl) | (rw [← ex203, ← ex190, ← ex179, ← ex169, ← ex159]; rfl)) (congrArg _ (by rw [yPolX, if_pos (by rw [yPolC, if_neg (fun z => c9 (e6.trans z)), if_neg (fun z => by rcases z with z | z | z <;> first | exact xb_f e20 c34 z.1 | exact z.2 (e42.symm.trans c43) | exact xb_f e27 c48 z.1 | exact z.2 (e56.symm.trans c57) | exact xb_f e20 c62 z.1 | exact xb_f e27 c67 z.2.1 | exact c72 z.2.2), if_neg (fun z => c126 (hl.symm.trans z)), if_neg (fun z => c141 (e136.trans z))])]; first | (have hA := xb_t e20 c206; have hB := xb_t e27 c218; rw [yAdd, yUs, yUs, if_pos hA, if_pos hB, hl]; clear h hr hlk hnm hl hl0 hv0; subst_vars; rfl) | (have hA := xb_t e20 c206; have hB := xb_f e27 c218; rw [yAdd, yUs, yUs, if_pos hA, if_neg hB, hl]; clear h hr hlk hnm hl hl0 hv0; subst_vars; rfl) | (have hA := xb_f e20 c206; have hB := xb_t e27 c218; rw [yAdd, yUs, yUs, if_neg hA, if_pos hB, hl]; clear h hr hlk hnm hl hl0 hv0; subst_vars; rfl) | (have hA := xb_f e20 c206; have hB := xb_f e27 c218; rw [yAdd, yUs, yUs, if_neg hA, if_neg hB, hl]; clear h hr hlk hnm hl hl0 hv0; subst_vars; rfl)))
                        · exact absurd c100 c218
                    · refine kr_aload_n h dX1_policy_144 rfl 3 rfl ?_
                      refine kr_iconst (v := 4) h dX1_policy_145 (by decide) ?_
                      refine kr_iA h (kc_rV h (m_fail l D cI cZ cJ q x 4) mlX1_101 yvX1_fail dX1_policy_146 rfl rfl ⟨Nat.le_of_ble_eq_true rfl, Nat.le_of_ble_eq_true rfl⟩ ⟨Nat.le_of_ble_eq_true rfl, Nat.le_of_ble_eq_true rfl⟩ (Nat.le_of_ble_eq_true rfl) [0, 1, 2, 3, 4, 5, 6, 7, 8, 9, 10, 11, 12, 13, 14, 15, 16, 17, 18, 19] rfl rfl 0 rfl rfl rfl) (fun v146 e146 => ?_)
                      generalize ex146 : (xI x 6 4) = x146
                      exact kr_iret h hr hlk dX1_policy_149 (e146.trans (yPol_c (by rw [yPolC, if_neg (fun z => c9 (e6.trans z)), if_neg (fun z => by rcases z with z | z | z <;> first | exact xb_f e20 c34 z.1 | exact z.2 (e42.symm.trans c43) | exact xb_f e27 c48 z.1 | exact z.2 (e56.symm.trans c57) | exact xb_f e20 c62 z.1 | exact xb_f e27 c67 z.2.1 | exact c72 z.2.2), if_neg (fun z => c126 (hl.symm.trans z)), if_pos (e136.symm.trans c141)]) (by decide)).1.symm) (by rw [(yPol_c (by rw [yPolC, if_neg (fun z => c9 (e6.trans z)), if_neg (fun z => by rcases z with z | z | z <;> first | exact xb_f e20 c34 z.1 | exact z.2 (e42.symm.trans c43) | exact xb_f e27 c48 z.1 | exact z.2 (e56.symm.trans c57) | exact xb_f e20 c62 z.1 | exact xb_f e27 c67 z.2.1 | exact c72 z.2.2), if_neg (fun z => c126 (hl.symm.trans z)), if_pos (e136.symm.trans c141)]) (by decide)).2, ← ex146])
                  · refine kr_aload_n h dX1_policy_129 rfl 3 rfl ?_
                    refine kr_iconst (v := 3) h dX1_policy_130 (by decide) ?_
                    refine kr_iA h (kc_rV h (m_fail l D cI cZ cJ q x 3) mlX1_101 yvX1_fail dX1_policy_131 rfl rfl ⟨Nat.le_of_ble_eq_true rfl, Nat.le_of_ble_eq_true rfl⟩ ⟨Nat.le_of_ble_eq_true rfl, Nat.le_of_ble_eq_true rfl⟩ (Nat.le_of_ble_eq_true rfl) [0, 1, 2, 3, 4, 5, 6, 7, 8, 9, 10, 11, 12, 13, 14, 15, 16, 17, 18, 19] rfl rfl 0 rfl rfl rfl) (fun v131 e131 => ?_)
                    generalize ex131 : (xI x 6 3) = x131
                    exact kr_iret h hr hlk dX1_policy_134 (e131.trans (yPol_c (by rw [yPolC, if_neg (fun z => c9 (e6.trans z)), if_neg (fun z => by rcases z with z | z | z <;> first | exact xb_f e20 c34 z.1 | exact z.2 (e42.symm.trans c43) | exact xb_f e27 c48 z.1 | exact z.2 (e56.symm.trans c57) | exact xb_f e20 c62 z.1 | exact xb_f e27 c67 z.2.1 | exact c72 z.2.2), if_pos (hl.trans c126)]) (by decide)).1.symm) (by rw [(yPol_c (by rw [yPolC, if_neg (fun z => c9 (e6.trans z)), if_neg (fun z => by rcases z with z | z | z <;> first | exact xb_f e20 c34 z.1 | exact z.2 (e42.symm.trans c43) | exact xb_f e27 c48 z.1 | exact z.2 (e56.symm.trans c57) | exact xb_f e20 c62 z.1 | exact xb_f e27 c67 z.2.1 | exact c72 z.2.2), if_pos (hl.trans c126)]) (by decide)).2, ← ex131])
                · exact absurd c67 c100
            · exact absurd c48 c67
        · refine kr_aload_n h dX1_policy_51 rfl 2 rfl ?_
          refine kr_get h FX1ok 0 15 dX1_policy_52 flX1_57 rfl rfl (by decide) rfl rfl ?_
          refine kr_iload_n h dX1_policy_55 rfl 5 rfl ?_
          refine kr_zald h 7 1 dX1_policy_56 rfl rfl (yFits_B hN (fun z => c9 (e6.trans z)) (xb_t e27 c48)) (fun v56 e56 => ?_)
          refine kr_if_ne h 75 dX1_policy_57 (by decide) (fun c57 => ?_) (fun c57 => ?_)
          · refine kr_aload_n h dX1_policy_75 rfl 2 rfl ?_
            refine kr_iconst (v := 2) h dX1_policy_76 (by decide) ?_
            refine kr_iA h (kc_rV h (m_fail l D cI cZ cJ q x 2) mlX1_101 yvX1_fail dX1_policy_77 rfl rfl ⟨Nat.le_of_ble_eq_true rfl, Nat.le_of_ble_eq_true rfl⟩ ⟨Nat.le_of_ble_eq_true rfl, Nat.le_of_ble_eq_true rfl⟩ (Nat.le_of_ble_eq_true rfl) [0, 1, 2, 3, 4, 5, 6, 7, 8, 9, 10, 11, 12, 13, 14, 15, 16, 17, 18, 19] rfl rfl 0 rfl rfl rfl) (fun v77 e77 => ?_)
            generalize ex77 : (xI x 6 2) = x77
            exact kr_iret h hr hlk dX1_policy_80 (e77.trans (yPol_c (by rw [yPolC, if_neg (fun z => c9 (e6.trans z)), if_pos (by first | exact Or.inl ⟨xb_t e20 c34, fun z => c43 (e42.trans z)⟩ | exact Or.inr (Or.inl ⟨xb_t e27 c48, fun z => c57 (e56.trans z)⟩) | exact Or.inr (Or.inr ⟨xb_t e20 c62, xb_t e27 c67, c72⟩))]) (by decide)).1.symm) (by rw [(yPol_c (by rw [yPolC, if_neg (fun z => c9 (e6.trans z)), if_pos (by first | exact Or.inl ⟨xb_t e20 c34, fun z => c43 (e42.trans z)⟩ | exact Or.inr (Or.inl ⟨xb_t e27 c48, fun z => c57 (e56.trans z)⟩) | exact Or.inr (Or.inr ⟨xb_t e20 c62, xb_t e27 c67, c72⟩))]) (by decide)).2, ← ex77])
          · refine kr_iload h dX1_policy_60 1 rfl ?_
            refine kr_if_eq h 81 dX1_policy_62 (by decide) (fun c62 => ?_) (fun c62 => ?_)
            · exact absurd c62 c34
            · refine kr_iload h dX1_policy_65 0 rfl ?_
              refine kr_if_eq h 81 dX1_policy_67 (by decide) (fun c67 => ?_) (fun c67 => ?_)
              · exact absurd c67 c48
              · refine kr_iload_n h dX1_policy_70 rfl 4 rfl ?_
                refine kr_iload_n h dX1_policy_71 rfl 5 rfl ?_
                refine kr_icmp_ne h 81 dX1_policy_72 (by decide) (fun c72 => ?_) (fun c72 => ?_)
                · refine kr_iload h dX1_policy_81 1 rfl ?_
                  refine kr_if_eq h 95 dX1_policy_83 (by decide) (fun c83 => ?_) (fun c83 => ?_)
                  · exact absurd c83 c62
                  · refine kr_aload_n h dX1_policy_86 rfl 2 rfl ?_
                    refine kr_get h FX1ok 0 13 dX1_policy_87 flX1_51 rfl rfl (by decide) rfl rfl ?_
                    refine kr_iload_n h dX1_policy_90 rfl 4 rfl ?_
                    refine kr_iald h 5 0 dX1_policy_91 rfl rfl (yFits_A hN (fun z => c9 (e6.trans z)) (xb_t e20 c83)) (fun v91 e91 => ?_)
                    refine kr_goto h 96 dX1_policy_92 (by decide) ?_
                    refine kr_istore (lv' := [(7, .int v91), (6, .int v27), (5, .int v20), (0, .ref (q 0)), (1, .int k), (2, .int a), (3, .int b), (4, .int c)]) h dX1_policy_96 (by decide) rfl ?_
                    first | have hl0 : yL0 x k a = v91 := (if_pos (xb_t e20 c83)).trans e91.symm | have hl0 : yL0 x k a = 0 := if_neg (xb_f e20 c83)
                    refine kr_iload h dX1_policy_98 1 rfl ?_
                    refine kr_if_eq h 122 dX1_policy_100 (by decide) (fun c100 => ?_) (fun c100 => ?_)
                    · exact absurd c100 c67
                    · refine kr_aload_n h dX1_policy_103 rfl 3 rfl ?_
                      refine kr_get h FX1ok 0 13 dX1_policy_104 flX1_51 rfl rfl (by decide) rfl rfl ?_
                      refine kr_iload_n h dX1_policy_107 rfl 6 rfl ?_
                      refine kr_iald h 5 0 dX1_policy_108 rfl rfl (yFits_B hN (fun z => c9 (e6.trans z)) (xb_t e27 c100)) (fun v108 e108 => ?_)
                      refine kr_iload h dX1_policy_109 0 rfl ?_
                      refine kr_icmp_le h 122 dX1_policy_111 (by decide) (fun c111 => ?_) (fun c111 => ?_)
                      · first | have hl := (show yL x k a b = x.1 4 (tn b) from if_pos ⟨xb_t e27 c100, by rw [hl0, ← e108]; exact c111⟩).trans e119.symm | have hl := (show yL x k a b = yL0 x k a from if_neg (fun z => by first | exact xb_f e27 c100 z.1 | exact z.2 (by rw [hl0, ← e108]; exact c111))).trans hl0
                        refine kr_iload h dX1_policy_122 0 rfl ?_
                        refine kr_bipush (v := 7) h dX1_policy_124 (by decide) ?_
                        refine kr_icmp_ne h 135 dX1_policy_126 (by decide) (fun c126 => ?_) (fun c126 => ?_)
                        · refine kr_aload_n h dX1_policy_135 rfl 3 rfl ?_
                          refine kr_get h FX1ok 0 0 dX1_policy_136 flX1_7 rfl rfl (by decide) rfl rfl ?_
                          refine kr_top h (fun v136 e136 => ?_)
                          refine kr_bipush (v := 40) h dX1_policy_139 (by decide) ?_
                          refine kr_icmp_ne h 150 dX1_policy_141 (by decide) (fun c141 => ?_) (fun c141 => ?_)
                          · have hv0 : vp_in (x.2 0) 40 := xN_ne hN (fun z => c141 (e136.trans z))
                            refine kr_aload_n h dX1_policy_150 rfl 3 rfl ?_
                            refine kr_get h FX1ok 0 9 dX1_policy_151 flX1_38 rfl rfl (by decide) rfl rfl ?_
                            refine kr_aload_n h dX1_policy_154 rfl 3 rfl ?_
                            refine kr_get h FX1ok 0 0 dX1_policy_155 flX1_7 rfl rfl (by decide) rfl rfl ?_
                            refine kr_top h (fun v155 e155 => ?_)
                            refine kr_iload_n h dX1_policy_158 rfl 4 rfl ?_
                            refine kr_iast (ws' := wY cI cZ q (xA x 0 (upd (x.1 0) (tn v155) k))) h 1 0 dX1_policy_159 rfl rfl (by rw [e155]; exact hv0) (wY_r0 cI cZ q x _) ?_
                            generalize ex159 : (xA x 0 (upd (x.1 0) (tn v155) k)) = x159
                            refine kr_aload_n h dX1_policy_160 rfl 3 rfl ?_
                            refine kr_get h FX1ok 0 10 dX1_policy_161 flX1_42 rfl rfl (by decide) rfl rfl ?_
                            refine kr_aload_n h dX1_policy_164 rfl 3 rfl ?_
                            refine kr_get h FX1ok 0 0 dX1_policy_165 flX1_7 rfl rfl (by decide) rfl rfl ?_
                            refine kr_top h (fun v165 e165 => ?_)
                            have h165 : v165 = x.2 0 := e165.trans (by rw [← ex159]; rfl)
                            clear e165
                            refine kr_iload_n h dX1_policy_168 rfl 5 rfl ?_
                            refine kr_iast (ws' := wY cI cZ q (xA x159 1 (upd (x159.1 1) (tn v165) a))) h 2 0 dX1_policy_169 rfl rfl (by rw [h165]; exact hv0) (wY_r1 cI cZ q x159 _) ?_
                            generalize ex169 : (xA x159 1 (upd (x159.1 1) (tn v165) a)) = x169
                            refine kr_aload_n h dX1_policy_170 rfl 3 rfl ?_
                            refine kr_get h FX1ok 0 11 dX1_policy_171 flX1_45 rfl rfl (by decide) rfl rfl ?_
                            refine kr_aload_n h dX1_policy_174 rfl 3 rfl ?_
                            refine kr_get h FX1ok 0 0 dX1_policy_175 flX1_7 rfl rfl (by decide) rfl rfl ?_
                            refine kr_top h (fun v175 e175 => ?_)
                            have h175 : v175 = x.2 0 := e175.trans (by rw [← ex169]; rw [← ex159]; rfl)
                            clear e175
                            refine kr_iload_n h dX1_policy_178 rfl 6 rfl ?_
                            refine kr_iast (ws' := wY cI cZ q (xA x169 2 (upd (x169.1 2) (tn v175) b))) h 3 0 dX1_policy_179 rfl rfl (by rw [h175]; exact hv0) (wY_r2 cI cZ q x169 _) ?_
                            generalize ex179 : (xA x169 2 (upd (x169.1 2) (tn v175) b)) = x179
                            refine kr_aload_n h dX1_policy_180 rfl 3 rfl ?_
                            refine kr_get h FX1ok 0 12 dX1_policy_181 flX1_48 rfl rfl (by decide) rfl rfl ?_
                            refine kr_aload_n h dX1_policy_184 rfl 3 rfl ?_
                            refine kr_get h FX1ok 0 0 dX1_policy_185 flX1_7 rfl rfl (by decide) rfl rfl ?_
                            refine kr_top h (fun v185 e185 => ?_)
                            have h185 : v185 = x.2 0 := e185.trans (by rw [← ex179]; rw [← ex169]; rw [← ex159]; rfl)
                            clear e185
                            refine kr_iload h dX1_policy_188 7 rfl ?_
                            refine kr_iast (ws' := wY cI cZ q (xA x179 3 (upd (x179.1 3) (tn v185) c))) h 4 0 dX1_policy_190 rfl rfl (by rw [h185]; exact hv0) (wY_r3 cI cZ q x179 _) ?_
                            generalize ex190 : (xA x179 3 (upd (x179.1 3) (tn v185) c)) = x190
                            refine kr_aload_n h dX1_policy_191 rfl 3 rfl ?_
                            refine kr_get h FX1ok 0 13 dX1_policy_192 flX1_51 rfl rfl (by decide) rfl rfl ?_
                            refine kr_aload_n h dX1_policy_195 rfl 3 rfl ?_
                            refine kr_get h FX1ok 0 0 dX1_policy_196 flX1_7 rfl rfl (by decide) rfl rfl ?_
                            refine kr_top h (fun v196 e196 => ?_)
                            have h196 : v196 = x.2 0 := e196.trans (by rw [← ex190]; rw [← ex179]; rw [← ex169]; rw [← ex159]; rfl)
                            clear e196
                            refine kr_iload h dX1_policy_199 0 rfl ?_
                            refine kr_iconst (v := 1) h dX1_policy_201 (by decide) ?_
                            refine kr_iadd h dX1_policy_202 (fun v202 e202 => ?_)
                            refine kr_iast (ws' := wY cI cZ q (xA x190 4 (upd (x190.1 4) (tn v196) v202))) h 5 0 dX1_policy_203 rfl rfl (by rw [h196]; exact hv0) (wY_r4 cI cZ q x190 _) ?_
                            generalize ex203 : (xA x190 4 (upd (x190.1 4) (tn v196) v202)) = x203
                            refine kr_iload h dX1_policy_204 2 rfl ?_
                            refine kr_if_eq h 216 dX1_policy_206 (by decide) (fun c206 => ?_) (fun c206 => ?_)
                            · exact absurd c206 c83
                            · refine kr_aload_n h dX1_policy_209 rfl 3 rfl ?_
                              refine kr_get h FX1ok 0 15 dX1_policy_210 flX1_57 rfl rfl (by decide) rfl rfl ?_
                              refine kr_iload_n h dX1_policy_213 rfl 5 rfl ?_
                              refine kr_iconst (v := 1) h dX1_policy_214 (by decide) ?_
                              refine kr_zastN (ws' := wY cI cZ q (xA x203 6 (upd (x203.1 6) (tn a) 1))) h 7 1 kc_n1 dX1_policy_215 rfl rfl (yFits_A hN (fun z => c9 (e6.trans z)) (xb_t e20 c206)) (wY_r6 cI cZ q x203 _) ?_
                              generalize ex215 : (xA x203 6 (upd (x203.1 6) (tn a) 1)) = x215
                              refine kr_iload h dX1_policy_216 1 rfl ?_
                              refine kr_if_eq h 228 dX1_policy_218 (by decide) (fun c218 => ?_) (fun c218 => ?_)
                              · exact absurd c218 c100
                              · refine kr_aload_n h dX1_policy_221 rfl 3 rfl ?_
                                refine kr_get h FX1ok 0 15 dX1_policy_222 flX1_57 rfl rfl (by decide) rfl rfl ?_
                                refine kr_iload_n h dX1_policy_225 rfl 6 rfl ?_
                                refine kr_iconst (v := 1) h dX1_policy_226 (by decide) ?_
                                refine kr_zastN (ws' := wY cI cZ q (xA x215 6 (upd (x215.1 6) (tn b) 1))) h 7 1 kc_n1 dX1_policy_227 rfl rfl (yFits_B hN (fun z => c9 (e6.trans z)) (xb_t e27 c218)) (wY_r6 cI cZ q x215 _) ?_
                                generalize ex227 : (xA x215 6 (upd (x215.1 6) (tn b) 1)) = x227
                                refine kr_aload_n h dX1_policy_228 rfl 3 rfl ?_
                                refine kr_dup h dX1_policy_229 rfl ?_
                                refine kr_get h FX1ok 0 0 dX1_policy_230 flX1_7 rfl rfl (by decide) rfl rfl ?_
                                refine kr_top h (fun v230 e230 => ?_)
                                refine kr_iconst (v := 1) h dX1_policy_233 (by decide) ?_
                                refine kr_iadd h dX1_policy_234 (fun v234 e234 => ?_)
                                refine kr_put (ws' := wY cI cZ q (xI x227 0 v234)) h FX1ok 0 0 dX1_policy_235 flX1_7 rfl rfl (by decide) rfl rfl rfl rfl (Nat.le_of_ble_eq_true rfl) rfl ?_
                                generalize ex235 : (xI x227 0 v234) = x235
                                refine kr_aload_n h dX1_policy_238 rfl 3 rfl ?_
                                refine kr_aload_n h dX1_policy_239 rfl 3 rfl ?_
                                refine kr_get h FX1ok 0 0 dX1_policy_240 flX1_7 rfl rfl (by decide) rfl rfl ?_
                                refine kr_top h (fun v240 e240 => ?_)
                                refine kr_iconst (v := 1) h dX1_policy_243 (by decide) ?_
                                refine kr_isub h dX1_policy_244 (fun v244 e244 => ?_)
                                refine kr_iA h (kc_rV h (m_fine l D cI cZ cJ q x235 v244) mlX1_105 yvX1_fine dX1_policy_245 rfl rfl ⟨Nat.le_of_ble_eq_true rfl, Nat.le_of_ble_eq_true rfl⟩ ⟨Nat.le_of_ble_eq_true rfl, Nat.le_of_ble_eq_true rfl⟩ (Nat.le_of_ble_eq_true rfl) [0, 1, 2, 3, 4, 5, 6, 7, 8, 9, 10, 11, 12, 13, 14, 15, 16, 17, 18, 19] rfl rfl 0 rfl rfl rfl) (fun v245 e245 => ?_)
                                generalize ex245 : (xI x235 6 0) = x245
                                exact kr_iret h hr hlk dX1_policy_248 (by rw [yPolR, if_pos (by rw [yPolC, if_neg (fun z => c9 (e6.trans z)), if_neg (fun z => by rcases z with z | z | z <;> first | exact xb_f e20 c34 z.1 | exact z.2 (e42.symm.trans c43) | exact xb_f e27 c48 z.1 | exact z.2 (e56.symm.trans c57) | exact xb_f e20 c62 z.1 | exact xb_f e27 c67 z.2.1 | exact c72 z.2.2), if_neg (fun z => c126 (hl.symm.trans z)), if_neg (fun z => c141 (e136.trans z))]), e245, e244, e240, ← ex235, e234]; show _ + 1 - 1 = _; rw [e230]; first | (rw [← ex227, ← ex215, ← ex203, ← ex190, ← ex179, ← ex169, ← ex159]; rfl) | (rw [← ex227, ← ex203, ← ex190, ← ex179, ← ex169, ← ex159]; rfl) | (rw [← ex215, ← ex203, ← ex190, ← ex179, ← ex169, ← ex159]; rfl) | (rw [← ex203, ← ex190, ← ex179, ← ex169, ← ex159]; rfl)) (congrArg _ (by rw [yPolX, if_pos (by rw [yPolC, if_neg (fun z => c9 (e6.trans z)), if_neg (fun z => by rcases z with z | z | z <;> first | exact xb_f e20 c34 z.1 | exact z.2 (e42.symm.trans c43) | exact xb_f e27 c48 z.1 | exact z.2 (e56.symm.trans c57) | exact xb_f e20 c62 z.1 | exact xb_f e27 c67 z.2.1 | exact c72 z.2.2), if_neg (fun z => c126 (hl.symm.trans z)), if_neg (fun z => c141 (e136.trans z))])]; first | (have hA := xb_t e20 c206; have hB := xb_t e27 c218; rw [yAdd, yUs, yUs, if_pos hA, if_pos hB, hl]; clear h hr hlk hnm hl hl0 hv0; subst_vars; rfl) | (have hA := xb_t e20 c206; have hB := xb_f e27 c218; rw [yAdd, yUs, yUs, if_pos hA, if_neg hB, hl]; clear h hr hlk hnm hl hl0 hv0; subst_vars; rfl) | (have hA := xb_f e20 c206; have hB := xb_t e27 c218; rw [yAdd, yUs, yUs, if_neg hA, if_pos hB, hl]; clear h hr hlk hnm hl hl0 hv0; subst_vars; rfl) | (have hA := xb_f e20 c206; have hB := xb_f e27 c218; rw [yAdd, yUs, yUs, if_neg hA, if_neg hB, hl]; clear h hr hlk hnm hl hl0 hv0; subst_vars; rfl)))
                          · refine kr_aload_n h dX1_policy_144 rfl 3 rfl ?_
                            refine kr_iconst (v := 4) h dX1_policy_145 (by decide) ?_
                            refine kr_iA h (kc_rV h (m_fail l D cI cZ cJ q x 4) mlX1_101 yvX1_fail dX1_policy_146 rfl rfl ⟨Nat.le_of_ble_eq_true rfl, Nat.le_of_ble_eq_true rfl⟩ ⟨Nat.le_of_ble_eq_true rfl, Nat.le_of_ble_eq_true rfl⟩ (Nat.le_of_ble_eq_true rfl) [0, 1, 2, 3, 4, 5, 6, 7, 8, 9, 10, 11, 12, 13, 14, 15, 16, 17, 18, 19] rfl rfl 0 rfl rfl rfl) (fun v146 e146 => ?_)
                            generalize ex146 : (xI x 6 4) = x146
                            exact kr_iret h hr hlk dX1_policy_149 (e146.trans (yPol_c (by rw [yPolC, if_neg (fun z => c9 (e6.trans z)), if_neg (fun z => by rcases z with z | z | z <;> first | exact xb_f e20 c34 z.1 | exact z.2 (e42.symm.trans c43) | exact xb_f e27 c48 z.1 | exact z.2 (e56.symm.trans c57) | exact xb_f e20 c62 z.1 | exact xb_f e27 c67 z.2.1 | exact c72 z.2.2), if_neg (fun z => c126 (hl.symm.trans z)), if_pos (e136.symm.trans c141)]) (by decide)).1.symm) (by rw [(yPol_c (by rw [yPolC, if_neg (fun z => c9 (e6.trans z)), if_neg (fun z => by rcases z with z | z | z <;> first | exact xb_f e20 c34 z.1 | exact z.2 (e42.symm.trans c43) | exact xb_f e27 c48 z.1 | exact z.2 (e56.symm.trans c57) | exact xb_f e20 c62 z.1 | exact xb_f e27 c67 z.2.1 | exact c72 z.2.2), if_neg (fun z => c126 (hl.symm.trans z)), if_pos (e136.symm.trans c141)]) (by decide)).2, ← ex146])
                        · refine kr_aload_n h dX1_policy_129 rfl 3 rfl ?_
                          refine kr_iconst (v := 3) h dX1_policy_130 (by decide) ?_
                          refine kr_iA h (kc_rV h (m_fail l D cI cZ cJ q x 3) mlX1_101 yvX1_fail dX1_policy_131 rfl rfl ⟨Nat.le_of_ble_eq_true rfl, Nat.le_of_ble_eq_true rfl⟩ ⟨Nat.le_of_ble_eq_true rfl, Nat.le_of_ble_eq_true rfl⟩ (Nat.le_of_ble_eq_true rfl) [0, 1, 2, 3, 4, 5, 6, 7, 8, 9, 10, 11, 12, 13, 14, 15, 16, 17, 18, 19] rfl rfl 0 rfl rfl rfl) (fun v131 e131 => ?_)
                          generalize ex131 : (xI x 6 3) = x131
                          exact kr_iret h hr hlk dX1_policy_134 (e131.trans (yPol_c (by rw [yPolC, if_neg (fun z => c9 (e6.trans z)), if_neg (fun z => by rcases z with z | z | z <;> first | exact xb_f e20 c34 z.1 | exact z.2 (e42.symm.trans c43) | exact xb_f e27 c48 z.1 | exact z.2 (e56.symm.trans c57) | exact xb_f e20 c62 z.1 | exact xb_f e27 c67 z.2.1 | exact c72 z.2.2), if_pos (hl.trans c126)]) (by decide)).1.symm) (by rw [(yPol_c (by rw [yPolC, if_neg (fun z => c9 (e6.trans z)), if_neg (fun z => by rcases z with z | z | z <;> first | exact xb_f e20 c34 z.1 | exact z.2 (e42.symm.trans c43) | exact xb_f e27 c48 z.1 | exact z.2 (e56.symm.trans c57) | exact xb_f e20 c62 z.1 | exact xb_f e27 c67 z.2.1 | exact c72 z.2.2), if_pos (hl.trans c126)]) (by decide)).2, ← ex131])
                      · refine kr_aload_n h dX1_policy_114 rfl 3 rfl ?_
                        refine kr_get h FX1ok 0 13 dX1_policy_115 flX1_51 rfl rfl (by decide) rfl rfl ?_
                        refine kr_iload_n h dX1_policy_118 rfl 6 rfl ?_
                        refine kr_iald h 5 0 dX1_policy_119 rfl rfl (yFits_B hN (fun z => c9 (e6.trans z)) (xb_t e27 c100)) (fun v119 e119 => ?_)
                        refine kr_istore (lv' := [(7, .int v119), (6, .int v27), (5, .int v20), (0, .ref (q 0)), (1, .int k), (2, .int a), (3, .int b), (4, .int c)]) h dX1_policy_120 (by decide) rfl ?_
                        first | have hl := (show yL x k a b = x.1 4 (tn b) from if_pos ⟨xb_t e27 c100, by rw [hl0, ← e108]; exact c111⟩).trans e119.symm | have hl := (show yL x k a b = yL0 x k a from if_neg (fun z => by first | exact xb_f e27 c100 z.1 | exact z.2 (by rw [hl0, ← e108]; exact c111))).trans hl0
                        refine kr_iload h dX1_policy_122 0 rfl ?_
                        refine kr_bipush (v := 7) h dX1_policy_124 (by decide) ?_
                        refine kr_icmp_ne h 135 dX1_policy_126 (by decide) (fun c126 => ?_) (fun c126 => ?_)
                        · refine kr_aload_n h dX1_policy_135 rfl 3 rfl ?_
                          refine kr_get h FX1ok 0 0 dX1_policy_136 flX1_7 rfl rfl (by decide) rfl rfl ?_
                          refine kr_top h (fun v136 e136 => ?_)
                          refine kr_bipush (v := 40) h dX1_policy_139 (by decide) ?_
                          refine kr_icmp_ne h 150 dX1_policy_141 (by decide) (fun c141 => ?_) (fun c141 => ?_)
                          · have hv0 : vp_in (x.2 0) 40 := xN_ne hN (fun z => c141 (e136.trans z))
                            refine kr_aload_n h dX1_policy_150 rfl 3 rfl ?_
                            refine kr_get h FX1ok 0 9 dX1_policy_151 flX1_38 rfl rfl (by decide) rfl rfl ?_
                            refine kr_aload_n h dX1_policy_154 rfl 3 rfl ?_
                            refine kr_get h FX1ok 0 0 dX1_policy_155 flX1_7 rfl rfl (by decide) rfl rfl ?_
                            refine kr_top h (fun v155 e155 => ?_)
                            refine kr_iload_n h dX1_policy_158 rfl 4 rfl ?_
                            refine kr_iast (ws' := wY cI cZ q (xA x 0 (upd (x.1 0) (tn v155) k))) h 1 0 dX1_policy_159 rfl rfl (by rw [e155]; exact hv0) (wY_r0 cI cZ q x _) ?_
                            generalize ex159 : (xA x 0 (upd (x.1 0) (tn v155) k)) = x159
                            refine kr_aload_n h dX1_policy_160 rfl 3 rfl ?_
                            refine kr_get h FX1ok 0 10 dX1_policy_161 flX1_42 rfl rfl (by decide) rfl rfl ?_
                            refine kr_aload_n h dX1_policy_164 rfl 3 rfl ?_
                            refine kr_get h FX1ok 0 0 dX1_policy_165 flX1_7 rfl rfl (by decide) rfl rfl ?_
                            refine kr_top h (fun v165 e165 => ?_)
                            have h165 : v165 = x.2 0 := e165.trans (by rw [← ex159]; rfl)
                            clear e165
                            refine kr_iload_n h dX1_policy_168 rfl 5 rfl ?_
                            refine kr_iast (ws' := wY cI cZ q (xA x159 1 (upd (x159.1 1) (tn v165) a))) h 2 0 dX1_policy_169 rfl rfl (by rw [h165]; exact hv0) (wY_r1 cI cZ q x159 _) ?_
                            generalize ex169 : (xA x159 1 (upd (x159.1 1) (tn v165) a)) = x169
                            refine kr_aload_n h dX1_policy_170 rfl 3 rfl ?_
                            refine kr_get h FX1ok 0 11 dX1_policy_171 flX1_45 rfl rfl (by decide) rfl rfl ?_
                            refine kr_aload_n h dX1_policy_174 rfl 3 rfl ?_
                            refine kr_get h FX1ok 0 0 dX1_policy_175 flX1_7 rfl rfl (by decide) rfl rfl ?_
                            refine kr_top h (fun v175 e175 => ?_)
                            have h175 : v175 = x.2 0 := e175.trans (by rw [← ex169]; rw [← ex159]; rfl)
                            clear e175
                            refine kr_iload_n h dX1_policy_178 rfl 6 rfl ?_
                            refine kr_iast (ws' := wY cI cZ q (xA x169 2 (upd (x169.1 2) (tn v175) b))) h 3 0 dX1_policy_179 rfl rfl (by rw [h175]; exact hv0) (wY_r2 cI cZ q x169 _) ?_
                            generalize ex179 : (xA x169 2 (upd (x169.1 2) (tn v175) b)) = x179
                            refine kr_aload_n h dX1_policy_180 rfl 3 rfl ?_
                            refine kr_get h FX1ok 0 12 dX1_policy_181 flX1_48 rfl rfl (by decide) rfl rfl ?_
                            refine kr_aload_n h dX1_policy_184 rfl 3 rfl ?_
                            refine kr_get h FX1ok 0 0 dX1_policy_185 flX1_7 rfl rfl (by decide) rfl rfl ?_
                            refine kr_top h (fun v185 e185 => ?_)
                            have h185 : v185 = x.2 0 := e185.trans (by rw [← ex179]; rw [← ex169]; rw [← ex159]; rfl)
                            clear e185
                            refine kr_iload h dX1_policy_188 7 rfl ?_
                            refine kr_iast (ws' := wY cI cZ q (xA x179 3 (upd (x179.1 3) (tn v185) c))) h 4 0 dX1_policy_190 rfl rfl (by rw [h185]; exact hv0) (wY_r3 cI cZ q x179 _) ?_
                            generalize ex190 : (xA x179 3 (upd (x179.1 3) (tn v185) c)) = x190
                            refine kr_aload_n h dX1_policy_191 rfl 3 rfl ?_
                            refine kr_get h FX1ok 0 13 dX1_policy_192 flX1_51 rfl rfl (by decide) rfl rfl ?_
                            refine kr_aload_n h dX1_policy_195 rfl 3 rfl ?_
                            refine kr_get h FX1ok 0 0 dX1_policy_196 flX1_7 rfl rfl (by decide) rfl rfl ?_
                            refine kr_top h (fun v196 e196 => ?_)
                            have h196 : v196 = x.2 0 := e196.trans (by rw [← ex190]; rw [← ex179]; rw [← ex169]; rw [← ex159]; rfl)
                            clear e196
                            refine kr_iload h dX1_policy_199 0 rfl ?_
                            refine kr_iconst (v := 1) h dX1_policy_201 (by decide) ?_
                            refine kr_iadd h dX1_policy_202 (fun v202 e202 => ?_)
                            refine kr_iast (ws' := wY cI cZ q (xA x190 4 (upd (x190.1 4) (tn v196) v202))) h 5 0 dX1_policy_203 rfl rfl (by rw [h196]; exact hv0) (wY_r4 cI cZ q x190 _) ?_
                            generalize ex203 : (xA x190 4 (upd (x190.1 4) (tn v196) v202)) = x203
                            refine kr_iload h dX1_policy_204 2 rfl ?_
                            refine kr_if_eq h 216 dX1_policy_206 (by decide) (fun c206 => ?_) (fun c206 => ?_)
                            · exact absurd c206 c83
                            · refine kr_aload_n h dX1_policy_209 rfl 3 rfl ?_
                              refine kr_get h FX1ok 0 15 dX1_policy_210 flX1_57 rfl rfl (by decide) rfl rfl ?_
                              refine kr_iload_n h dX1_policy_213 rfl 5 rfl ?_
                              refine kr_iconst (v := 1) h dX1_policy_214 (by decide) ?_
                              refine kr_zastN (ws' := wY cI cZ q (xA x203 6 (upd (x203.1 6) (tn a) 1))) h 7 1 kc_n1 dX1_policy_215 rfl rfl (yFits_A hN (fun z => c9 (e6.trans z)) (xb_t e20 c206)) (wY_r6 cI cZ q x203 _) ?_
                              generalize ex215 : (xA x203 6 (upd (x203.1 6) (tn a) 1)) = x215
                              refine kr_iload h dX1_policy_216 1 rfl ?_
                              refine kr_if_eq h 228 dX1_policy_218 (by decide) (fun c218 => ?_) (fun c218 => ?_)
                              · exact absurd c218 c100
                              · refine kr_aload_n h dX1_policy_221 rfl 3 rfl ?_
                                refine kr_get h FX1ok 0 15 dX1_policy_222 flX1_57 rfl rfl (by decide) rfl rfl ?_
                                refine kr_iload_n h dX1_policy_225 rfl 6 rfl ?_
                                refine kr_iconst (v := 1) h dX1_policy_226 (by decide) ?_
                                refine kr_zastN (ws' := wY cI cZ q (xA x215 6 (upd (x215.1 6) (tn b) 1))) h 7 1 kc_n1 dX1_policy_227 rfl rfl (yFits_B hN (fun z => c9 (e6.trans z)) (xb_t e27 c218)) (wY_r6 cI cZ q x215 _) ?_
                                generalize ex227 : (xA x215 6 (upd (x215.1 6) (tn b) 1)) = x227
                                refine kr_aload_n h dX1_policy_228 rfl 3 rfl ?_
                                refine kr_dup h dX1_policy_229 rfl ?_
                                refine kr_get h FX1ok 0 0 dX1_policy_230 flX1_7 rfl rfl (by decide) rfl rfl ?_
                                refine kr_top h (fun v230 e230 => ?_)
                                refine kr_iconst (v := 1) h dX1_policy_233 (by decide) ?_
                                refine kr_iadd h dX1_policy_234 (fun v234 e234 => ?_)
                                refine kr_put (ws' := wY cI cZ q (xI x227 0 v234)) h FX1ok 0 0 dX1_policy_235 flX1_7 rfl rfl (by decide) rfl rfl rfl rfl (Nat.le_of_ble_eq_true rfl) rfl ?_
                                generalize ex235 : (xI x227 0 v234) = x235
                                refine kr_aload_n h dX1_policy_238 rfl 3 rfl ?_
                                refine kr_aload_n h dX1_policy_239 rfl 3 rfl ?_
                                refine kr_get h FX1ok 0 0 dX1_policy_240 flX1_7 rfl rfl (by decide) rfl rfl ?_
                                refine kr_top h (fun v240 e240 => ?_)
                                refine kr_iconst (v := 1) h dX1_policy_243 (by decide) ?_
                                refine kr_isub h dX1_policy_244 (fun v244 e244 => ?_)
                                refine kr_iA h (kc_rV h (m_fine l D cI cZ cJ q x235 v244) mlX1_105 yvX1_fine dX1_policy_245 rfl rfl ⟨Nat.le_of_ble_eq_true rfl, Nat.le_of_ble_eq_true rfl⟩ ⟨Nat.le_of_ble_eq_true rfl, Nat.le_of_ble_eq_true rfl⟩ (Nat.le_of_ble_eq_true rfl) [0, 1, 2, 3, 4, 5, 6, 7, 8, 9, 10, 11, 12, 13, 14, 15, 16, 17, 18, 19] rfl rfl 0 rfl rfl rfl) (fun v245 e245 => ?_)
                                generalize ex245 : (xI x235 6 0) = x245
                                exact kr_iret h hr hlk dX1_policy_248 (by rw [yPolR, if_pos (by rw [yPolC, if_neg (fun z => c9 (e6.trans z)), if_neg (fun z => by rcases z with z | z | z <;> first | exact xb_f e20 c34 z.1 | exact z.2 (e42.symm.trans c43) | exact xb_f e27 c48 z.1 | exact z.2 (e56.symm.trans c57) | exact xb_f e20 c62 z.1 | exact xb_f e27 c67 z.2.1 | exact c72 z.2.2), if_neg (fun z => c126 (hl.symm.trans z)), if_neg (fun z => c141 (e136.trans z))]), e245, e244, e240, ← ex235, e234]; show _ + 1 - 1 = _; rw [e230]; first | (rw [← ex227, ← ex215, ← ex203, ← ex190, ← ex179, ← ex169, ← ex159]; rfl) | (rw [← ex227, ← ex203, ← ex190, ← ex179, ← ex169, ← ex159]; rfl) | (rw [← ex215, ← ex203, ← ex190, ← ex179, ← ex169, ← ex159]; rfl) | (rw [← ex203, ← ex190, ← ex179, ← ex169, ← ex159]; rfl)) (congrArg _ (by rw [yPolX, if_pos (by rw [yPolC, if_neg (fun z => c9 (e6.trans z)), if_neg (fun z => by rcases z with z | z | z <;> first | exact xb_f e20 c34 z.1 | exact z.2 (e42.symm.trans c43) | exact xb_f e27 c48 z.1 | exact z.2 (e56.symm.trans c57) | exact xb_f e20 c62 z.1 | exact xb_f e27 c67 z.2.1 | exact c72 z.2.2), if_neg (fun z => c126 (hl.symm.trans z)), if_neg (fun z => c141 (e136.trans z))])]; first | (have hA := xb_t e20 c206; have hB := xb_t e27 c218; rw [yAdd, yUs, yUs, if_pos hA, if_pos hB, hl]; clear h hr hlk hnm hl hl0 hv0; subst_vars; rfl) | (have hA := xb_t e20 c206; have hB := xb_f e27 c218; rw [yAdd, yUs, yUs, if_pos hA, if_neg hB, hl]; clear h hr hlk hnm hl hl0 hv0; subst_vars; rfl) | (have hA := xb_f e20 c206; have hB := xb_t e27 c218; rw [yAdd, yUs, yUs, if_neg hA, if_pos hB, hl]; clear h hr hlk hnm hl hl0 hv0; subst_vars; rfl) | (have hA := xb_f e20 c206; have hB := xb_f e27 c218; rw [yAdd, yUs, yUs, if_neg hA, if_neg hB, hl]; clear h hr hlk hnm hl hl0 hv0; subst_vars; rfl)))
                          · refine kr_aload_n h dX1_policy_144 rfl 3 rfl ?_
                            refine kr_iconst (v := 4) h dX1_policy_145 (by decide) ?_
                            refine kr_iA h (kc_rV h (m_fail l D cI cZ cJ q x 4) mlX1_101 yvX1_fail dX1_policy_146 rfl rfl ⟨Nat.le_of_ble_eq_true rfl, Nat.le_of_ble_eq_true rfl⟩ ⟨Nat.le_of_ble_eq_true rfl, Nat.le_of_ble_eq_true rfl⟩ (Nat.le_of_ble_eq_true rfl) [0, 1, 2, 3, 4, 5, 6, 7, 8, 9, 10, 11, 12, 13, 14, 15, 16, 17, 18, 19] rfl rfl 0 rfl rfl rfl) (fun v146 e146 => ?_)
                            generalize ex146 : (xI x 6 4) = x146
                            exact kr_iret h hr hlk dX1_policy_149 (e146.trans (yPol_c (by rw [yPolC, if_neg (fun z => c9 (e6.trans z)), if_neg (fun z => by rcases z with z | z | z <;> first | exact xb_f e20 c34 z.1 | exact z.2 (e42.symm.trans c43) | exact xb_f e27 c48 z.1 | exact z.2 (e56.symm.trans c57) | exact xb_f e20 c62 z.1 | exact xb_f e27 c67 z.2.1 | exact c72 z.2.2), if_neg (fun z => c126 (hl.symm.trans z)), if_pos (e136.symm.trans c141)]) (by decide)).1.symm) (by rw [(yPol_c (by rw [yPolC, if_neg (fun z => c9 (e6.trans z)), if_neg (fun z => by rcases z with z | z | z <;> first | exact xb_f e20 c34 z.1 | exact z.2 (e42.symm.trans c43) | exact xb_f e27 c48 z.1 | exact z.2 (e56.symm.trans c57) | exact xb_f e20 c62 z.1 | exact xb_f e27 c67 z.2.1 | exact c72 z.2.2), if_neg (fun z => c126 (hl.symm.trans z)), if_pos (e136.symm.trans c141)]) (by decide)).2, ← ex146])
                        · refine kr_aload_n h dX1_policy_129 rfl 3 rfl ?_
                          refine kr_iconst (v := 3) h dX1_policy_130 (by decide) ?_
                          refine kr_iA h (kc_rV h (m_fail l D cI cZ cJ q x 3) mlX1_101 yvX1_fail dX1_policy_131 rfl rfl ⟨Nat.le_of_ble_eq_true rfl, Nat.le_of_ble_eq_true rfl⟩ ⟨Nat.le_of_ble_eq_true rfl, Nat.le_of_ble_eq_true rfl⟩ (Nat.le_of_ble_eq_true rfl) [0, 1, 2, 3, 4, 5, 6, 7, 8, 9, 10, 11, 12, 13, 14, 15, 16, 17, 18, 19] rfl rfl 0 rfl rfl rfl) (fun v131 e131 => ?_)
                          generalize ex131 : (xI x 6 3) = x131
                          exact kr_iret h hr hlk dX1_policy_134 (e131.trans (yPol_c (by rw [yPolC, if_neg (fun z => c9 (e6.trans z)), if_neg (fun z => by rcases z with z | z | z <;> first | exact xb_f e20 c34 z.1 | exact z.2 (e42.symm.trans c43) | exact xb_f e27 c48 z.1 | exact z.2 (e56.symm.trans c57) | exact xb_f e20 c62 z.1 | exact xb_f e27 c67 z.2.1 | exact c72 z.2.2), if_pos (hl.trans c126)]) (by decide)).1.symm) (by rw [(yPol_c (by rw [yPolC, if_neg (fun z => c9 (e6.trans z)), if_neg (fun z => by rcases z with z | z | z <;> first | exact xb_f e20 c34 z.1 | exact z.2 (e42.symm.trans c43) | exact xb_f e27 c48 z.1 | exact z.2 (e56.symm.trans c57) | exact xb_f e20 c62 z.1 | exact xb_f e27 c67 z.2.1 | exact c72 z.2.2), if_pos (hl.trans c126)]) (by decide)).2, ← ex131])
                · refine kr_aload_n h dX1_policy_75 rfl 2 rfl ?_
                  refine kr_iconst (v := 2) h dX1_policy_76 (by decide) ?_
                  refine kr_iA h (kc_rV h (m_fail l D cI cZ cJ q x 2) mlX1_101 yvX1_fail dX1_policy_77 rfl rfl ⟨Nat.le_of_ble_eq_true rfl, Nat.le_of_ble_eq_true rfl⟩ ⟨Nat.le_of_ble_eq_true rfl, Nat.le_of_ble_eq_true rfl⟩ (Nat.le_of_ble_eq_true rfl) [0, 1, 2, 3, 4, 5, 6, 7, 8, 9, 10, 11, 12, 13, 14, 15, 16, 17, 18, 19] rfl rfl 0 rfl rfl rfl) (fun v77 e77 => ?_)
                  generalize ex77 : (xI x 6 2) = x77
                  exact kr_iret h hr hlk dX1_policy_80 (e77.trans (yPol_c (by rw [yPolC, if_neg (fun z => c9 (e6.trans z)), if_pos (by first | exact Or.inl ⟨xb_t e20 c34, fun z => c43 (e42.trans z)⟩ | exact Or.inr (Or.inl ⟨xb_t e27 c48, fun z => c57 (e56.trans z)⟩) | exact Or.inr (Or.inr ⟨xb_t e20 c62, xb_t e27 c67, c72⟩))]) (by decide)).1.symm) (by rw [(yPol_c (by rw [yPolC, if_neg (fun z => c9 (e6.trans z)), if_pos (by first | exact Or.inl ⟨xb_t e20 c34, fun z => c43 (e42.trans z)⟩ | exact Or.inr (Or.inl ⟨xb_t e27 c48, fun z => c57 (e56.trans z)⟩) | exact Or.inr (Or.inr ⟨xb_t e20 c62, xb_t e27 c67, c72⟩))]) (by decide)).2, ← ex77])
  · refine kr_aload_n h dX1_policy_12 rfl 0 rfl ?_
    refine kr_iconst (v := 1) h dX1_policy_13 (by decide) ?_
    refine kr_iA h (kc_rV h (m_fail l D cI cZ cJ q x 1) mlX1_101 yvX1_fail dX1_policy_14 rfl rfl ⟨Nat.le_of_ble_eq_true rfl, Nat.le_of_ble_eq_true rfl⟩ ⟨Nat.le_of_ble_eq_true rfl, Nat.le_of_ble_eq_true rfl⟩ (Nat.le_of_ble_eq_true rfl) [0, 1, 2, 3, 4, 5, 6, 7, 8, 9, 10, 11, 12, 13, 14, 15, 16, 17, 18, 19] rfl rfl 0 rfl rfl rfl) (fun v14 e14 => ?_)
    generalize ex14 : (xI x 6 1) = x14
    exact kr_iret h hr hlk dX1_policy_17 (e14.trans (yPol_c (if_pos (e6.symm.trans c9)) (by decide)).1.symm) (by rw [(yPol_c (if_pos (e6.symm.trans c9)) (by decide)).2, ← ex14])
