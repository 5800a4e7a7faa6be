set_option maxHeartbeats 4000000 in
set_option maxRecDepth 100000 in
theorem lp_acc1 {p : Program} {l : Launch} {e : Env} {R : Room} {s : State} {m : MethodId} {args : Array Value} {below : List Frame} {meth : Method} {c : Code} {Q : State → Prop} {D : va_G} {cI cZ cJ : ClassId} {q : Nat → Nat} {A : Nat → Prop} {s1 v1 : Int32} (h : kc_C p s m args c cX1_accept 8 RX1 D vwCl (tyL cI cZ cJ) A) (hs : xSo s1) (hR : 4 ≤ R.frames ∧ 104 ≤ R.locals) (d j : Nat) (hj : j + 1 < 40) (x : xSt) (i : Int32) (hi : i = nI (j + 1)) (hg : xG (yx x) (d + 1) (x.1 15 j)) (kk : ∀ (i' : Int32) (x' : xSt), (∃ m : Nat, i' = nI (j + m) ∧ yTop x j (x.1 15 j) s1 = (m, x')) → kc_W p l e R s m args below meth c D vwCl A 8 Q 20 [(3, .int i'), (0, .ref (q 0)), (1, .int s1), (2, .int v1)] [] (wY cI cZ q x') (0, 0)) : kc_W p l e R s m args below meth c D vwCl A 8 Q 20 [(3, .int i), (0, .ref (q 0)), (1, .int s1), (2, .int v1)] [] (wY cI cZ q x) (0, 0) := by
  have hRL : (0 : Nat) + 0 ≤ R.cells ∧ (0 : Nat) + 0 ≤ R.slots := ⟨Nat.zero_le _, Nat.zero_le _⟩
  obtain ⟨hp, hk, hgA, hgB, hg6⟩ := id hg
  have hjn : tn (nI j) = j := tn_nI (by omega)
  have hjm : (nI j).toNatClampNeg = j := hjn
  have hj2 : tn (nI (j + 1)) = j + 1 := tn_nI (by omega)
  refine kr_iload_n h dX1_accept_20 rfl 0 rfl ?_
  refine kr_if_le h 259 dX1_accept_21 (by decide) (fun c21 => ?_) (fun c21 => ?_)
  · exact absurd c21 (by rw [hi]; exact nI_ge (show 0 < j + 1 by omega) (by omega))
  · obtain ⟨v24, e24⟩ : ∃ z : Int32, z = i + (-1) := ⟨_, rfl⟩
    refine kr_iinc (lv' := [(3, .int v24), (0, .ref (q 0)), (1, .int s1), (2, .int v1)]) (k := 0) h dX1_accept_24 rfl (by rw [e24]; rfl) (by decide) rfl ?_
    have h24 : v24 = nI j := by rw [e24, hi]; exact nI_m1 j
    refine kr_aload_n h dX1_accept_27 rfl 1 rfl ?_
    refine kr_get h FX1ok 0 24 dX1_accept_28 flX1_85 rfl rfl (by decide) rfl rfl ?_
    refine kr_iload_n h dX1_accept_31 rfl 0 rfl ?_
    refine kr_iald h 16 0 dX1_accept_32 rfl rfl (by rw [h24]; exact vp_in_nI (by omega) (by decide)) (fun v32 e32 => ?_)
    rw [h24, hjm] at e32
    refine kr_istore (lv' := [(4, .int v32), (3, .int v24), (0, .ref (q 0)), (1, .int s1), (2, .int v1)]) h dX1_accept_33 (by decide) rfl ?_
    refine kr_aload_n h dX1_accept_35 rfl 2 rfl ?_
    refine kr_get h FX1ok 0 9 dX1_accept_36 flX1_38 rfl rfl (by decide) rfl rfl ?_
    refine kr_iload h dX1_accept_39 0 rfl ?_
    refine kr_iald h 1 0 dX1_accept_41 rfl rfl (by rw [e32]; exact hp) (fun v41 e41 => ?_)
    refine kr_istore (lv' := [(5, .int v41), (4, .int v32), (3, .int v24), (0, .ref (q 0)), (1, .int s1), (2, .int v1)]) h dX1_accept_42 (by decide) rfl ?_
    refine kr_aload_n h dX1_accept_44 rfl 3 rfl ?_
    refine kr_get h FX1ok 0 10 dX1_accept_45 flX1_42 rfl rfl (by decide) rfl rfl ?_
    refine kr_iload h dX1_accept_48 1 rfl ?_
    refine kr_iald h 2 0 dX1_accept_50 rfl rfl (by rw [e32]; exact hp) (fun v50 e50 => ?_)
    refine kr_istore (lv' := [(6, .int v50), (5, .int v41), (4, .int v32), (3, .int v24), (0, .ref (q 0)), (1, .int s1), (2, .int v1)]) h dX1_accept_51 (by decide) rfl ?_
    refine kr_aload_n h dX1_accept_53 rfl 4 rfl ?_
    refine kr_get h FX1ok 0 11 dX1_accept_54 flX1_45 rfl rfl (by decide) rfl rfl ?_
    refine kr_iload h dX1_accept_57 2 rfl ?_
    refine kr_iald h 3 0 dX1_accept_59 rfl rfl (by rw [e32]; exact hp) (fun v59 e59 => ?_)
    refine kr_istore (lv' := [(7, .int v59), (6, .int v50), (5, .int v41), (4, .int v32), (3, .int v24), (0, .ref (q 0)), (1, .int s1), (2, .int v1)]) h dX1_accept_60 (by decide) rfl ?_
    have hA : pA v41 → vp_in v50 40 := fun z => by rw [e50, e32]; rw [e41, e32] at z; exact xG_in (hgA z)
    have hB : pB v41 → vp_in v59 40 := fun z => by rw [e59, e32]; rw [e41, e32] at z; exact xG_in (hgB z)
    have hk41 : ∃ k : Nat, k < 15 ∧ v41 = nI k := by rw [e41, e32]; exact hk
    refine kr_iload h dX1_accept_62 2 rfl ?_
    refine kr_iconst (v := 3) h dX1_accept_64 (by decide) ?_
    refine kr_icmp_ne h 89 dX1_accept_65 (by decide) (fun c65 => ?_) (fun c65 => ?_)
    · refine kr_iload h dX1_accept_89 2 rfl ?_
      refine kr_bipush (v := 6) h dX1_accept_91 (by decide) ?_
      refine kr_icmp_ne h 153 dX1_accept_93 (by decide) (fun c93 => ?_) (fun c93 => ?_)
      · refine kr_iload h dX1_accept_153 2 rfl ?_
        refine kr_bipush (v := 8) h dX1_accept_155 (by decide) ?_
        refine kr_icmp_eq h 177 dX1_accept_157 (by decide) (fun c157 => ?_) (fun c157 => ?_)
        · refine kr_aload_n h dX1_accept_177 rfl 5 rfl ?_
          refine kr_get h FX1ok 0 24 dX1_accept_178 flX1_85 rfl rfl (by decide) rfl rfl ?_
          refine kr_iload_n h dX1_accept_181 rfl 4 rfl ?_
          refine kr_iload h dX1_accept_182 0 rfl ?_
          refine kr_iast (ws' := wY cI cZ q (xA x 15 (upd (x.1 15) (tn v24) v59))) h 16 0 dX1_accept_184 rfl rfl (by rw [h24]; exact vp_in_nI (by omega) (by decide)) (wY_r15 cI cZ q x _) ?_
          obtain ⟨v185, e185⟩ : ∃ z : Int32, z = v24 + 1 := ⟨_, rfl⟩
          refine kr_iinc (lv' := [(3, .int v185), (7, .int v59), (6, .int v50), (5, .int v41), (4, .int v32), (0, .ref (q 0)), (1, .int s1), (2, .int v1)]) (k := 4) h dX1_accept_185 rfl (by rw [e185]; rfl) (by decide) rfl ?_
          refine kr_iload h dX1_accept_188 3 rfl ?_
          refine kr_bipush (v := 8) h dX1_accept_190 (by decide) ?_
          refine kr_icmp_eq h 202 dX1_accept_192 (by decide) (fun c192 => ?_) (fun c192 => ?_)
          · refine kr_aload_n h dX1_accept_202 rfl 5 rfl ?_
            refine kr_get h FX1ok 0 24 dX1_accept_203 flX1_85 rfl rfl (by decide) rfl rfl ?_
            refine kr_iload_n h dX1_accept_206 rfl 0 rfl ?_
            refine kr_iload h dX1_accept_207 2 rfl ?_
            refine kr_iast (ws' := wY cI cZ q (xA (xA x 15 (upd (x.1 15) (tn v24) v59)) 15 (upd ((xA x 15 (upd (x.1 15) (tn v24) v59)).1 15) (tn v185) v50))) h 16 0 dX1_accept_209 rfl rfl (by first | (rw [e185, h24, nI_1]; exact vp_in_nI (by omega) (by decide)) | (rw [h24]; exact vp_in_nI (by omega) (by decide))) (wY_r15 cI cZ q (xA x 15 (upd (x.1 15) (tn v24) v59)) _) ?_
            obtain ⟨v210, e210⟩ : ∃ z : Int32, z = v185 + 1 := ⟨_, rfl⟩
            refine kr_iinc (lv' := [(3, .int v210), (7, .int v59), (6, .int v50), (5, .int v41), (4, .int v32), (0, .ref (q 0)), (1, .int s1), (2, .int v1)]) (k := 0) h dX1_accept_210 rfl (by rw [e210]; rfl) (by decide) rfl ?_
            refine kr_iload h dX1_accept_213 3 rfl ?_
            refine kr_bipush (v := 8) h dX1_accept_215 (by decide) ?_
            refine kr_icmp_le h 256 dX1_accept_217 (by decide) (fun c217 => ?_) (fun c217 => ?_)
            · refine kr_goto h 20 dX1_accept_256 (by decide) ?_
              refine kr_lv (lv' := [(3, .int v210), (0, .ref (q 0)), (1, .int s1), (2, .int v1)]) [0, 5, 6, 7] rfl ?_
              exact kk _ _ (by first | exact ⟨2, by rw [e210, e185, h24, nI_1, nI_1], by rw [← e32, yTop, ← e41, ← e50, ← e59]; rw [if_pos c157, e185, h24, nI_1, hjn, hj2]; rfl⟩ | exact ⟨1, by rw [e210, h24, nI_1], by rw [← e32, yTop, ← e41, ← e50, ← e59]; rw [if_neg c157, if_neg c164, if_neg c199, h24, hjn]; rfl⟩)
            · exact absurd (k_all hk41) (by revert c157 c217; generalize v41 = zz; intro c157 c217 hz; revert c157 c217; rcases hz with rfl | rfl | rfl | rfl | rfl | rfl | rfl | rfl | rfl | rfl | rfl | rfl | rfl | rfl | rfl <;> decide)
          · exact absurd (k_all hk41) (by revert c157 c192; generalize v41 = zz; intro c157 c192 hz; revert c157 c192; rcases hz with rfl | rfl | rfl | rfl | rfl | rfl | rfl | rfl | rfl | rfl | rfl | rfl | rfl | rfl | rfl <;> decide)
        · refine kr_iload h dX1_accept_160 2 rfl ?_
          refine kr_bipush (v := 12) h dX1_accept_162 (by decide) ?_
          refine kr_icmp_ne h 188 dX1_accept_164 (by decide) (fun c164 => ?_) (fun c164 => ?_)
          · refine kr_iload h dX1_accept_188 2 rfl ?_
            refine kr_bipush (v := 8) h dX1_accept_190 (by decide) ?_
            refine kr_icmp_eq h 202 dX1_accept_192 (by decide) (fun c192 => ?_) (fun c192 => ?_)
            · exact absurd (k_all hk41) (by revert c157 c192; generalize v41 = zz; intro c157 c192 hz; revert c157 c192; rcases hz with rfl | rfl | rfl | rfl | rfl | rfl | rfl | rfl | rfl | rfl | rfl | rfl | rfl | rfl | rfl <;> decide)
            · refine kr_iload h dX1_accept_195 2 rfl ?_
              refine kr_bipush (v := 12) h dX1_accept_197 (by decide) ?_
              refine kr_icmp_le h 213 dX1_accept_199 (by decide) (fun c199 => ?_) (fun c199 => ?_)
              · refine kr_iload h dX1_accept_213 2 rfl ?_
                refine kr_bipush (v := 8) h dX1_accept_215 (by decide) ?_
                refine kr_icmp_le h 256 dX1_accept_217 (by decide) (fun c217 => ?_) (fun c217 => ?_)
                · refine kr_goto h 20 dX1_accept_256 (by decide) ?_
                  refine kr_lv (lv' := [(3, .int v24), (0, .ref (q 0)), (1, .int s1), (2, .int v1)]) [4, 5, 6, 7] rfl ?_
                  exact kk _ _ ⟨0, h24, by rw [← e32, yTop, ← e41, ← e50, ← e59]; first | rw [if_neg c157, if_pos c164, if_neg (xb_f e171 c174)] | (rw [if_neg c157, if_neg c164, if_pos c199, if_pos c217, yLeaf, ← e41, ← e50]; first | rw [if_pos c65, if_neg (xb_f e72 c75)] | (rw [if_pos c65, if_pos (xb_t e72 c75), e87, e85]; rfl) | (rw [if_neg c65, if_pos c93, ← show v118 = yEnt x v32 s1 by rw [e118, e117, e115, e104, e114, e111, e50]; rfl]; first | rw [if_pos c120] | (rw [if_neg c120, show v118 = v151 from (show v118 = yEnt x v32 s1 by rw [e118, e117, e115, e104, e114, e111, e50]; rfl).trans (show v151 = yEnt x v32 s1 by rw [e151, e150, e148, e137, e147, e144, e50]; rfl).symm]; rfl)) | rw [if_neg c65, if_neg c93])⟩
                · refine kr_iload h dX1_accept_220 2 rfl ?_
                  refine kr_bipush (v := 12) h dX1_accept_222 (by decide) ?_
                  refine kr_icmp_ge h 256 dX1_accept_224 (by decide) (fun c224 => ?_) (fun c224 => ?_)
                  · exact absurd (k_all hk41) (by revert c164 c199 c224; generalize v41 = zz; intro c164 c199 c224 hz; revert c164 c199 c224; rcases hz with rfl | rfl | rfl | rfl | rfl | rfl | rfl | rfl | rfl | rfl | rfl | rfl | rfl | rfl | rfl <;> decide)
                  · refine kr_aload_n h dX1_accept_227 rfl 5 rfl ?_
                    refine kr_get h FX1ok 0 24 dX1_accept_228 flX1_85 rfl rfl (by decide) rfl rfl ?_
                    refine kr_iload_n h dX1_accept_231 rfl 4 rfl ?_
                    refine kr_aload_n h dX1_accept_232 rfl 5 rfl ?_
                    refine kr_iload h dX1_accept_233 2 rfl ?_
                    refine kr_iload h dX1_accept_235 1 rfl ?_
                    refine kr_iload h dX1_accept_237 0 rfl ?_
                    refine kr_iA h (kc_rV h (m_takesA l D cI cZ cJ q x v41 v50 v59 (hA (Or.inl (k_pair hk41 (Int32.le_of_lt (Int32.not_le.mp c217)) c224))) (hB (Or.inl (k_pair hk41 (Int32.le_of_lt (Int32.not_le.mp c217)) c224)))) mlX1_130 yvX1_takesA dX1_accept_239 rfl rfl ⟨Nat.le_trans (by decide) hR.1, Nat.le_trans (by decide) hR.2⟩ hRL (Nat.le_of_ble_eq_true rfl) [0, 1, 2, 3, 4, 5, 6, 7, 8, 9, 10, 11, 12, 13, 14, 15, 16, 17, 18, 19] rfl rfl 0 rfl rfl rfl) (fun v239 e239 => ?_)
                    refine kr_if_eq h 250 dX1_accept_242 (by decide) (fun c242 => ?_) (fun c242 => ?_)
                    · refine kr_iload h dX1_accept_250 0 rfl ?_
                      refine kr_iast (ws' := wY cI cZ q (xA x 15 (upd (x.1 15) (tn v24) v59))) h 16 0 dX1_accept_252 rfl rfl (by rw [h24]; exact vp_in_nI (by omega) (by decide)) (wY_r15 cI cZ q x _) ?_
                      obtain ⟨v253, e253⟩ : ∃ z : Int32, z = v24 + 1 := ⟨_, rfl⟩
                      refine kr_iinc (lv' := [(3, .int v253), (7, .int v59), (6, .int v50), (5, .int v41), (4, .int v32), (0, .ref (q 0)), (1, .int s1), (2, .int v1)]) (k := 4) h dX1_accept_253 rfl (by rw [e253]; rfl) (by decide) rfl ?_
                      refine kr_goto h 20 dX1_accept_256 (by decide) ?_
                      refine kr_lv (lv' := [(3, .int v253), (0, .ref (q 0)), (1, .int s1), (2, .int v1)]) [0, 5, 6, 7] rfl ?_
                      exact kk _ _ ⟨1, by rw [e253, h24, nI_1], by rw [← e32, yTop, ← e41, ← e50, ← e59]; rw [if_neg c157, if_neg c164, if_pos c199, if_neg c217, h24, hjn]; first | (rw [if_pos (xb_t e239 c242)]; rfl) | (rw [if_neg (xb_f e239 c242)]; rfl)⟩
                    · refine kr_iload h dX1_accept_245 1 rfl ?_
                      refine kr_goto h 252 dX1_accept_247 (by decide) ?_
                      refine kr_iast (ws' := wY cI cZ q (xA x 15 (upd (x.1 15) (tn v24) v50))) h 16 0 dX1_accept_252 rfl rfl (by rw [h24]; exact vp_in_nI (by omega) (by decide)) (wY_r15 cI cZ q x _) ?_
                      obtain ⟨v253, e253⟩ : ∃ z : Int32, z = v24 + 1 := ⟨_, rfl⟩
                      refine kr_iinc (lv' := [(3, .int v253), (7, .int v59), (6, .int v50), (5, .int v41), (4, .int v32), (0, .ref (q 0)), (1, .int s1), (2, .int v1)]) (k := 4) h dX1_accept_253 rfl (by rw [e253]; rfl) (by decide) rfl ?_
                      refine kr_goto h 20 dX1_accept_256 (by decide) ?_
                      refine kr_lv (lv' := [(3, .int v253), (0, .ref (q 0)), (1, .int s1), (2, .int v1)]) [0, 5, 6, 7] rfl ?_
                      exact kk _ _ ⟨1, by rw [e253, h24, nI_1], by rw [← e32, yTop, ← e41, ← e50, ← e59]; rw [if_neg c157, if_neg c164, if_pos c199, if_neg c217, h24, hjn]; first | (rw [if_pos (xb_t e239 c242)]; rfl) | (rw [if_neg (xb_f e239 c242)]; rfl)⟩
              · refine kr_aload_n h dX1_accept_202 rfl 5 rfl ?_
                refine kr_get h FX1ok 0 24 dX1_accept_203 flX1_85 rfl rfl (by decide) rfl rfl ?_
                refine kr_iload_n h dX1_accept_206 rfl 4 rfl ?_
                refine kr_iload h dX1_accept_207 1 rfl ?_
                refine kr_iast (ws' := wY cI cZ q (xA x 15 (upd (x.1 15) (tn v24) v50))) h 16 0 dX1_accept_209 rfl rfl (by first | (rw [e185, h24, nI_1]; exact vp_in_nI (by omega) (by decide)) | (rw [h24]; exact vp_in_nI (by omega) (by decide))) (wY_r15 cI cZ q x _) ?_
                obtain ⟨v210, e210⟩ : ∃ z : Int32, z = v24 + 1 := ⟨_, rfl⟩
                refine kr_iinc (lv' := [(3, .int v210), (7, .int v59), (6, .int v50), (5, .int v41), (4, .int v32), (0, .ref (q 0)), (1, .int s1), (2, .int v1)]) (k := 4) h dX1_accept_210 rfl (by rw [e210]; rfl) (by decide) rfl ?_
                refine kr_iload h dX1_accept_213 3 rfl ?_
                refine kr_bipush (v := 8) h dX1_accept_215 (by decide) ?_
                refine kr_icmp_le h 256 dX1_accept_217 (by decide) (fun c217 => ?_) (fun c217 => ?_)
                · exact absurd (k_all hk41) (by revert c199 c217; generalize v41 = zz; intro c199 c217 hz; revert c199 c217; rcases hz with rfl | rfl | rfl | rfl | rfl | rfl | rfl | rfl | rfl | rfl | rfl | rfl | rfl | rfl | rfl <;> decide)
                · refine kr_iload h dX1_accept_220 3 rfl ?_
                  refine kr_bipush (v := 12) h dX1_accept_222 (by decide) ?_
                  refine kr_icmp_ge h 256 dX1_accept_224 (by decide) (fun c224 => ?_) (fun c224 => ?_)
                  · refine kr_goto h 20 dX1_accept_256 (by decide) ?_
                    refine kr_lv (lv' := [(3, .int v210), (0, .ref (q 0)), (1, .int s1), (2, .int v1)]) [0, 5, 6, 7] rfl ?_
                    exact kk _ _ (by first | exact ⟨2, by rw [e210, e185, h24, nI_1, nI_1], by rw [← e32, yTop, ← e41, ← e50, ← e59]; rw [if_pos c157, e185, h24, nI_1, hjn, hj2]; rfl⟩ | exact ⟨1, by rw [e210, h24, nI_1], by rw [← e32, yTop, ← e41, ← e50, ← e59]; rw [if_neg c157, if_neg c164, if_neg c199, h24, hjn]; rfl⟩)
                  · exact absurd (k_all hk41) (by revert c199 c224; generalize v41 = zz; intro c199 c224 hz; revert c199 c224; rcases hz with rfl | rfl | rfl | rfl | rfl | rfl | rfl | rfl | rfl | rfl | rfl | rfl | rfl | rfl | rfl <;> decide)
          · refine kr_aload_n h dX1_accept_167 rfl 5 rfl ?_
            refine kr_iload h dX1_accept_168 1 rfl ?_
            refine kr_iload_n h dX1_accept_170 rfl 6 rfl ?_
            refine kr_iA h (kc_rV h (m_in l D cI cZ cJ q x v50 s1) mlX1_126 yvX1_in dX1_accept_171 rfl rfl ⟨Nat.le_trans (by decide) hR.1, Nat.le_trans (by decide) hR.2⟩ hRL (Nat.le_of_ble_eq_true rfl) [0, 1, 2, 3, 4, 5, 6, 7, 8, 9, 10, 11, 12, 13, 14, 15, 16, 17, 18, 19] rfl rfl 0 rfl rfl rfl) (fun v171 e171 => ?_)
            refine kr_if_eq h 188 dX1_accept_174 (by decide) (fun c174 => ?_) (fun c174 => ?_)
            · refine kr_iload h dX1_accept_188 2 rfl ?_
              refine kr_bipush (v := 8) h dX1_accept_190 (by decide) ?_
              refine kr_icmp_eq h 202 dX1_accept_192 (by decide) (fun c192 => ?_) (fun c192 => ?_)
              · exact absurd (k_all hk41) (by revert c157 c192; generalize v41 = zz; intro c157 c192 hz; revert c157 c192; rcases hz with rfl | rfl | rfl | rfl | rfl | rfl | rfl | rfl | rfl | rfl | rfl | rfl | rfl | rfl | rfl <;> decide)
              · refine kr_iload h dX1_accept_195 2 rfl ?_
                refine kr_bipush (v := 12) h dX1_accept_197 (by decide) ?_
                refine kr_icmp_le h 213 dX1_accept_199 (by decide) (fun c199 => ?_) (fun c199 => ?_)
                · refine kr_iload h dX1_accept_213 2 rfl ?_
                  refine kr_bipush (v := 8) h dX1_accept_215 (by decide) ?_
                  refine kr_icmp_le h 256 dX1_accept_217 (by decide) (fun c217 => ?_) (fun c217 => ?_)
                  · exact absurd (k_all hk41) (by revert c164 c217; generalize v41 = zz; intro c164 c217 hz; revert c164 c217; rcases hz with rfl | rfl | rfl | rfl | rfl | rfl | rfl | rfl | rfl | rfl | rfl | rfl | rfl | rfl | rfl <;> decide)
                  · refine kr_iload h dX1_accept_220 2 rfl ?_
                    refine kr_bipush (v := 12) h dX1_accept_222 (by decide) ?_
                    refine kr_icmp_ge h 256 dX1_accept_224 (by decide) (fun c224 => ?_) (fun c224 => ?_)
                    · refine kr_goto h 20 dX1_accept_256 (by decide) ?_
                      refine kr_lv (lv' := [(3, .int v24), (0, .ref (q 0)), (1, .int s1), (2, .int v1)]) [4, 5, 6, 7] rfl ?_
                      exact kk _ _ ⟨0, h24, by rw [← e32, yTop, ← e41, ← e50, ← e59]; first | rw [if_neg c157, if_pos c164, if_neg (xb_f e171 c174)] | (rw [if_neg c157, if_neg c164, if_pos c199, if_pos c217, yLeaf, ← e41, ← e50]; first | rw [if_pos c65, if_neg (xb_f e72 c75)] | (rw [if_pos c65, if_pos (xb_t e72 c75), e87, e85]; rfl) | (rw [if_neg c65, if_pos c93, ← show v118 = yEnt x v32 s1 by rw [e118, e117, e115, e104, e114, e111, e50]; rfl]; first | rw [if_pos c120] | (rw [if_neg c120, show v118 = v151 from (show v118 = yEnt x v32 s1 by rw [e118, e117, e115, e104, e114, e111, e50]; rfl).trans (show v151 = yEnt x v32 s1 by rw [e151, e150, e148, e137, e147, e144, e50]; rfl).symm]; rfl)) | rw [if_neg c65, if_neg c93])⟩
                    · exact absurd (k_all hk41) (by revert c164 c224; generalize v41 = zz; intro c164 c224 hz; revert c164 c224; rcases hz with rfl | rfl | rfl | rfl | rfl | rfl | rfl | rfl | rfl | rfl | rfl | rfl | rfl | rfl | rfl <;> decide)
                · exact absurd (k_all hk41) (by revert c164 c199; generalize v41 = zz; intro c164 c199 hz; revert c164 c199; rcases hz with rfl | rfl | rfl | rfl | rfl | rfl | rfl | rfl | rfl | rfl | rfl | rfl | rfl | rfl | rfl <;> decide)
            · refine kr_aload_n h dX1_accept_177 rfl 5 rfl ?_
              refine kr_get h FX1ok 0 24 dX1_accept_178 flX1_85 rfl rfl (by decide) rfl rfl ?_
              refine kr_iload_n h dX1_accept_181 rfl 4 rfl ?_
              refine kr_iload h dX1_accept_182 0 rfl ?_
              refine kr_iast (ws' := wY cI cZ q (xA x 15 (upd (x.1 15) (tn v24) v59))) h 16 0 dX1_accept_184 rfl rfl (by rw [h24]; exact vp_in_nI (by omega) (by decide)) (wY_r15 cI cZ q x _) ?_
              obtain ⟨v185, e185⟩ : ∃ z : Int32, z = v24 + 1 := ⟨_, rfl⟩
              refine kr_iinc (lv' := [(3, .int v185), (7, .int v59), (6, .int v50), (5, .int v41), (4, .int v32), (0, .ref (q 0)), (1, .int s1), (2, .int v1)]) (k := 4) h dX1_accept_185 rfl (by rw [e185]; rfl) (by decide) rfl ?_
              refine kr_iload h dX1_accept_188 3 rfl ?_
              refine kr_bipush (v := 8) h dX1_accept_190 (by decide) ?_
              refine kr_icmp_eq h 202 dX1_accept_192 (by decide) (fun c192 => ?_) (fun c192 => ?_)
              · exact absurd (k_all hk41) (by revert c157 c192; generalize v41 = zz; intro c157 c192 hz; revert c157 c192; rcases hz with rfl | rfl | rfl | rfl | rfl | rfl | rfl | rfl | rfl | rfl | rfl | rfl | rfl | rfl | rfl <;> decide)
              · refine kr_iload h dX1_accept_195 3 rfl ?_
                refine kr_bipush (v := 12) h dX1_accept_197 (by decide) ?_
                refine kr_icmp_le h 213 dX1_accept_199 (by decide) (fun c199 => ?_) (fun c199 => ?_)
                · refine kr_iload h dX1_accept_213 3 rfl ?_
                  refine kr_bipush (v := 8) h dX1_accept_215 (by decide) ?_
                  refine kr_icmp_le h 256 dX1_accept_217 (by decide) (fun c217 => ?_) (fun c217 => ?_)
                  · exact absurd (k_all hk41) (by revert c164 c217; generalize v41 = zz; intro c164 c217 hz; revert c164 c217; rcases hz with rfl | rfl | rfl | rfl | rfl | rfl | rfl | rfl | rfl | rfl | rfl | rfl | rfl | rfl | rfl <;> decide)
                  · refine kr_iload h dX1_accept_220 3 rfl ?_
                    refine kr_bipush (v := 12) h dX1_accept_222 (by decide) ?_
                    refine kr_icmp_ge h 256 dX1_accept_224 (by decide) (fun c224 => ?_) (fun c224 => ?_)
                    · refine kr_goto h 20 dX1_accept_256 (by decide) ?_
                      refine kr_lv (lv' := [(3, .int v185), (0, .ref (q 0)), (1, .int s1), (2, .int v1)]) [0, 5, 6, 7] rfl ?_
                      exact kk _ _ ⟨1, by rw [e185, h24, nI_1], by rw [← e32, yTop, ← e41, ← e50, ← e59]; rw [if_neg c157, if_pos c164, if_pos (xb_t e171 c174), h24, hjn]; rfl⟩
                    · exact absurd (k_all hk41) (by revert c164 c224; generalize v41 = zz; intro c164 c224 hz; revert c164 c224; rcases hz with rfl | rfl | rfl | rfl | rfl | rfl | rfl | rfl | rfl | rfl | rfl | rfl | rfl | rfl | rfl <;> decide)
                · exact absurd (k_all hk41) (by revert c164 c199; generalize v41 = zz; intro c164 c199 hz; revert c164 c199; rcases hz with rfl | rfl | rfl | rfl | rfl | rfl | rfl | rfl | rfl | rfl | rfl | rfl | rfl | rfl | rfl <;> decide)
      · refine kr_aload_n h dX1_accept_96 rfl 5 rfl ?_
        refine kr_get h FX1ok 0 17 dX1_accept_97 flX1_64 rfl rfl (by decide) rfl rfl ?_
        refine kr_iload h dX1_accept_100 1 rfl ?_
        refine kr_bipush (v := 32) h dX1_accept_102 (by decide) ?_
        refine kr_imul h dX1_accept_104 (fun v104 e104 => ?_)
        refine kr_aload_n h dX1_accept_105 rfl 5 rfl ?_
        refine kr_get h FX1ok 0 14 dX1_accept_106 flX1_54 rfl rfl (by decide) rfl rfl ?_
        refine kr_iload h dX1_accept_109 3 rfl ?_
        refine kr_iald h 6 0 dX1_accept_111 rfl rfl (by rw [e32]; exact hp) (fun v111 e111 => ?_)
        refine kr_bipush (v := 8) h dX1_accept_112 (by decide) ?_
        refine kr_imul h dX1_accept_114 (fun v114 e114 => ?_)
        refine kr_iadd h dX1_accept_115 (fun v115 e115 => ?_)
        refine kr_iload_n h dX1_accept_116 rfl 6 rfl ?_
        refine kr_iadd h dX1_accept_117 (fun v117 e117 => ?_)
        refine kr_iald h 9 0 dX1_accept_118 rfl rfl (by rw [e117, e115, e104, e114, e111, e50, e32]; exact yG_place (hg6 (by rw [← e32]; exact e41.symm.trans c93)) hs) (fun v118 e118 => ?_)
        refine kr_iconst (v := 4) h dX1_accept_119 (by decide) ?_
        refine kr_icmp_ge h 153 dX1_accept_120 (by decide) (fun c120 => ?_) (fun c120 => ?_)
        · refine kr_iload h dX1_accept_153 2 rfl ?_
          refine kr_bipush (v := 8) h dX1_accept_155 (by decide) ?_
          refine kr_icmp_eq h 177 dX1_accept_157 (by decide) (fun c157 => ?_) (fun c157 => ?_)
          · exact absurd (k_all hk41) (by revert c93 c157; generalize v41 = zz; intro c93 c157 hz; revert c93 c157; rcases hz with rfl | rfl | rfl | rfl | rfl | rfl | rfl | rfl | rfl | rfl | rfl | rfl | rfl | rfl | rfl <;> decide)
          · refine kr_iload h dX1_accept_160 2 rfl ?_
            refine kr_bipush (v := 12) h dX1_accept_162 (by decide) ?_
            refine kr_icmp_ne h 188 dX1_accept_164 (by decide) (fun c164 => ?_) (fun c164 => ?_)
            · refine kr_iload h dX1_accept_188 2 rfl ?_
              refine kr_bipush (v := 8) h dX1_accept_190 (by decide) ?_
              refine kr_icmp_eq h 202 dX1_accept_192 (by decide) (fun c192 => ?_) (fun c192 => ?_)
              · exact absurd (k_all hk41) (by revert c93 c192; generalize v41 = zz; intro c93 c192 hz; revert c93 c192; rcases hz with rfl | rfl | rfl | rfl | rfl | rfl | rfl | rfl | rfl | rfl | rfl | rfl | rfl | rfl | rfl <;> decide)
              · refine kr_iload h dX1_accept_195 2 rfl ?_
                refine kr_bipush (v := 12) h dX1_accept_197 (by decide) ?_
                refine kr_icmp_le h 213 dX1_accept_199 (by decide) (fun c199 => ?_) (fun c199 => ?_)
                · refine kr_iload h dX1_accept_213 2 rfl ?_
                  refine kr_bipush (v := 8) h dX1_accept_215 (by decide) ?_
                  refine kr_icmp_le h 256 dX1_accept_217 (by decide) (fun c217 => ?_) (fun c217 => ?_)
                  · refine kr_goto h 20 dX1_accept_256 (by decide) ?_
                    refine kr_lv (lv' := [(3, .int v24), (0, .ref (q 0)), (1, .int s1), (2, .int v1)]) [4, 5, 6, 7] rfl ?_
                    exact kk _ _ ⟨0, h24, by rw [← e32, yTop, ← e41, ← e50, ← e59]; first | rw [if_neg c157, if_pos c164, if_neg (xb_f e171 c174)] | (rw [if_neg c157, if_neg c164, if_pos c199, if_pos c217, yLeaf, ← e41, ← e50]; first | rw [if_pos c65, if_neg (xb_f e72 c75)] | (rw [if_pos c65, if_pos (xb_t e72 c75), e87, e85]; rfl) | (rw [if_neg c65, if_pos c93, ← show v118 = yEnt x v32 s1 by rw [e118, e117, e115, e104, e114, e111, e50]; rfl]; first | rw [if_pos c120] | (rw [if_neg c120, show v118 = v151 from (show v118 = yEnt x v32 s1 by rw [e118, e117, e115, e104, e114, e111, e50]; rfl).trans (show v151 = yEnt x v32 s1 by rw [e151, e150, e148, e137, e147, e144, e50]; rfl).symm]; rfl)) | rw [if_neg c65, if_neg c93])⟩
                  · exact absurd (k_all hk41) (by revert c93 c217; generalize v41 = zz; intro c93 c217 hz; revert c93 c217; rcases hz with rfl | rfl | rfl | rfl | rfl | rfl | rfl | rfl | rfl | rfl | rfl | rfl | rfl | rfl | rfl <;> decide)
                · exact absurd (k_all hk41) (by revert c93 c199; generalize v41 = zz; intro c93 c199 hz; revert c93 c199; rcases hz with rfl | rfl | rfl | rfl | rfl | rfl | rfl | rfl | rfl | rfl | rfl | rfl | rfl | rfl | rfl <;> decide)
            · exact absurd (k_all hk41) (by revert c93 c164; generalize v41 = zz; intro c93 c164 hz; revert c93 c164; rcases hz with rfl | rfl | rfl | rfl | rfl | rfl | rfl | rfl | rfl | rfl | rfl | rfl | rfl | rfl | rfl <;> decide)
        · refine kr_aload_n h dX1_accept_123 rfl 5 rfl ?_
          refine kr_get h FX1ok 0 14 dX1_accept_124 flX1_54 rfl rfl (by decide) rfl rfl ?_
          refine kr_iload h dX1_accept_127 3 rfl ?_
          refine kr_aload_n h dX1_accept_129 rfl 5 rfl ?_
          refine kr_get h FX1ok 0 17 dX1_accept_130 flX1_64 rfl rfl (by decide) rfl rfl ?_
          refine kr_iload h dX1_accept_133 1 rfl ?_
          refine kr_bipush (v := 32) h dX1_accept_135 (by decide) ?_
          refine kr_imul h dX1_accept_137 (fun v137 e137 => ?_)
          refine kr_aload_n h dX1_accept_138 rfl 5 rfl ?_
          refine kr_get h FX1ok 0 14 dX1_accept_139 flX1_54 rfl rfl (by decide) rfl rfl ?_
          refine kr_iload h dX1_accept_142 3 rfl ?_
          refine kr_iald h 6 0 dX1_accept_144 rfl rfl (by rw [e32]; exact hp) (fun v144 e144 => ?_)
          refine kr_bipush (v := 8) h dX1_accept_145 (by decide) ?_
          refine kr_imul h dX1_accept_147 (fun v147 e147 => ?_)
          refine kr_iadd h dX1_accept_148 (fun v148 e148 => ?_)
          refine kr_iload_n h dX1_accept_149 rfl 6 rfl ?_
          refine kr_iadd h dX1_accept_150 (fun v150 e150 => ?_)
          refine kr_iald h 9 0 dX1_accept_151 rfl rfl (by rw [e150, e148, e137, e147, e144, e50, e32]; exact yG_place (hg6 (by rw [← e32]; exact e41.symm.trans c93)) hs) (fun v151 e151 => ?_)
          refine kr_iast (ws' := wY cI cZ q (xA x 5 (upd (x.1 5) (tn v32) v151))) h 6 0 dX1_accept_152 rfl rfl (by rw [e32]; exact hp) (wY_r5 cI cZ q x _) ?_
          refine kr_iload h dX1_accept_153 2 rfl ?_
          refine kr_bipush (v := 8) h dX1_accept_155 (by decide) ?_
          refine kr_icmp_eq h 177 dX1_accept_157 (by decide) (fun c157 => ?_) (fun c157 => ?_)
          · exact absurd (k_all hk41) (by revert c93 c157; generalize v41 = zz; intro c93 c157 hz; revert c93 c157; rcases hz with rfl | rfl | rfl | rfl | rfl | rfl | rfl | rfl | rfl | rfl | rfl | rfl | rfl | rfl | rfl <;> decide)
          · refine kr_iload h dX1_accept_160 2 rfl ?_
            refine kr_bipush (v := 12) h dX1_accept_162 (by decide) ?_
            refine kr_icmp_ne h 188 dX1_accept_164 (by decide) (fun c164 => ?_) (fun c164 => ?_)
            · refine kr_iload h dX1_accept_188 2 rfl ?_
              refine kr_bipush (v := 8) h dX1_accept_190 (by decide) ?_
              refine kr_icmp_eq h 202 dX1_accept_192 (by decide) (fun c192 => ?_) (fun c192 => ?_)
              · exact absurd (k_all hk41) (by revert c93 c192; generalize v41 = zz; intro c93 c192 hz; revert c93 c192; rcases hz with rfl | rfl | rfl | rfl | rfl | rfl | rfl | rfl | rfl | rfl | rfl | rfl | rfl | rfl | rfl <;> decide)
              · refine kr_iload h dX1_accept_195 2 rfl ?_
                refine kr_bipush (v := 12) h dX1_accept_197 (by decide) ?_
                refine kr_icmp_le h 213 dX1_accept_199 (by decide) (fun c199 => ?_) (fun c199 => ?_)
                · refine kr_iload h dX1_accept_213 2 rfl ?_
                  refine kr_bipush (v := 8) h dX1_accept_215 (by decide) ?_
                  refine kr_icmp_le h 256 dX1_accept_217 (by decide) (fun c217 => ?_) (fun c217 => ?_)
                  · refine kr_goto h 20 dX1_accept_256 (by decide) ?_
                    refine kr_lv (lv' := [(3, .int v24), (0, .ref (q 0)), (1, .int s1), (2, .int v1)]) [4, 5, 6, 7] rfl ?_
                    exact kk _ _ ⟨0, h24, by rw [← e32, yTop, ← e41, ← e50, ← e59]; first | rw [if_neg c157, if_pos c164, if_neg (xb_f e171 c174)] | (rw [if_neg c157, if_neg c164, if_pos c199, if_pos c217, yLeaf, ← e41, ← e50]; first | rw [if_pos c65, if_neg (xb_f e72 c75)] | (rw [if_pos c65, if_pos (xb_t e72 c75), e87, e85]; rfl) | (rw [if_neg c65, if_pos c93, ← show v118 = yEnt x v32 s1 by rw [e118, e117, e115, e104, e114, e111, e50]; rfl]; first | rw [if_pos c120] | (rw [if_neg c120, show v118 = v151 from (show v118 = yEnt x v32 s1 by rw [e118, e117, e115, e104, e114, e111, e50]; rfl).trans (show v151 = yEnt x v32 s1 by rw [e151, e150, e148, e137, e147, e144, e50]; rfl).symm]; rfl)) | rw [if_neg c65, if_neg c93])⟩
                  · exact absurd (k_all hk41) (by revert c93 c217; generalize v41 = zz; intro c93 c217 hz; revert c93 c217; rcases hz with rfl | rfl | rfl | rfl | rfl | rfl | rfl | rfl | rfl | rfl | rfl | rfl | rfl | rfl | rfl <;> decide)
                · exact absurd (k_all hk41) (by revert c93 c199; generalize v41 = zz; intro c93 c199 hz; revert c93 c199; rcases hz with rfl | rfl | rfl | rfl | rfl | rfl | rfl | rfl | rfl | rfl | rfl | rfl | rfl | rfl | rfl <;> decide)
            · exact absurd (k_all hk41) (by revert c93 c164; generalize v41 = zz; intro c93 c164 hz; revert c93 c164; rcases hz with rfl | rfl | rfl | rfl | rfl | rfl | rfl | rfl | rfl | rfl | rfl | rfl | rfl | rfl | rfl <;> decide)
    · refine kr_aload_n h dX1_accept_68 rfl 5 rfl ?_
      refine kr_iload h dX1_accept_69 1 rfl ?_
      refine kr_iload_n h dX1_accept_71 rfl 6 rfl ?_
      refine kr_iA h (kc_rV h (m_in l D cI cZ cJ q x v50 s1) mlX1_126 yvX1_in dX1_accept_72 rfl rfl ⟨Nat.le_trans (by decide) hR.1, Nat.le_trans (by decide) hR.2⟩ hRL (Nat.le_of_ble_eq_true rfl) [0, 1, 2, 3, 4, 5, 6, 7, 8, 9, 10, 11, 12, 13, 14, 15, 16, 17, 18, 19] rfl rfl 0 rfl rfl rfl) (fun v72 e72 => ?_)
      refine kr_if_eq h 89 dX1_accept_75 (by decide) (fun c75 => ?_) (fun c75 => ?_)
      · refine kr_iload h dX1_accept_89 2 rfl ?_
        refine kr_bipush (v := 6) h dX1_accept_91 (by decide) ?_
        refine kr_icmp_ne h 153 dX1_accept_93 (by decide) (fun c93 => ?_) (fun c93 => ?_)
        · refine kr_iload h dX1_accept_153 2 rfl ?_
          refine kr_bipush (v := 8) h dX1_accept_155 (by decide) ?_
          refine kr_icmp_eq h 177 dX1_accept_157 (by decide) (fun c157 => ?_) (fun c157 => ?_)
          · exact absurd (k_all hk41) (by revert c65 c157; generalize v41 = zz; intro c65 c157 hz; revert c65 c157; rcases hz with rfl | rfl | rfl | rfl | rfl | rfl | rfl | rfl | rfl | rfl | rfl | rfl | rfl | rfl | rfl <;> decide)
          · refine kr_iload h dX1_accept_160 2 rfl ?_
            refine kr_bipush (v := 12) h dX1_accept_162 (by decide) ?_
            refine kr_icmp_ne h 188 dX1_accept_164 (by decide) (fun c164 => ?_) (fun c164 => ?_)
            · refine kr_iload h dX1_accept_188 2 rfl ?_
              refine kr_bipush (v := 8) h dX1_accept_190 (by decide) ?_
              refine kr_icmp_eq h 202 dX1_accept_192 (by decide) (fun c192 => ?_) (fun c192 => ?_)
              · exact absurd (k_all hk41) (by revert c65 c192; generalize v41 = zz; intro c65 c192 hz; revert c65 c192; rcases hz with rfl | rfl | rfl | rfl | rfl | rfl | rfl | rfl | rfl | rfl | rfl | rfl | rfl | rfl | rfl <;> decide)
              · refine kr_iload h dX1_accept_195 2 rfl ?_
                refine kr_bipush (v := 12) h dX1_accept_197 (by decide) ?_
                refine kr_icmp_le h 213 dX1_accept_199 (by decide) (fun c199 => ?_) (fun c199 => ?_)
                · refine kr_iload h dX1_accept_213 2 rfl ?_
                  refine kr_bipush (v := 8) h dX1_accept_215 (by decide) ?_
                  refine kr_icmp_le h 256 dX1_accept_217 (by decide) (fun c217 => ?_) (fun c217 => ?_)
                  · refine kr_goto h 20 dX1_accept_256 (by decide) ?_
                    refine kr_lv (lv' := [(3, .int v24), (0, .ref (q 0)), (1, .int s1), (2, .int v1)]) [4, 5, 6, 7] rfl ?_
                    exact kk _ _ ⟨0, h24, by rw [← e32, yTop, ← e41, ← e50, ← e59]; first | rw [if_neg c157, if_pos c164, if_neg (xb_f e171 c174)] | (rw [if_neg c157, if_neg c164, if_pos c199, if_pos c217, yLeaf, ← e41, ← e50]; first | rw [if_pos c65, if_neg (xb_f e72 c75)] | (rw [if_pos c65, if_pos (xb_t e72 c75), e87, e85]; rfl) | (rw [if_neg c65, if_pos c93, ← show v118 = yEnt x v32 s1 by rw [e118, e117, e115, e104, e114, e111, e50]; rfl]; first | rw [if_pos c120] | (rw [if_neg c120, show v118 = v151 from (show v118 = yEnt x v32 s1 by rw [e118, e117, e115, e104, e114, e111, e50]; rfl).trans (show v151 = yEnt x v32 s1 by rw [e151, e150, e148, e137, e147, e144, e50]; rfl).symm]; rfl)) | rw [if_neg c65, if_neg c93])⟩
                  · exact absurd (k_all hk41) (by revert c65 c217; generalize v41 = zz; intro c65 c217 hz; revert c65 c217; rcases hz with rfl | rfl | rfl | rfl | rfl | rfl | rfl | rfl | rfl | rfl | rfl | rfl | rfl | rfl | rfl <;> decide)
                · exact absurd (k_all hk41) (by revert c65 c199; generalize v41 = zz; intro c65 c199 hz; revert c65 c199; rcases hz with rfl | rfl | rfl | rfl | rfl | rfl | rfl | rfl | rfl | rfl | rfl | rfl | rfl | rfl | rfl <;> decide)
            · exact absurd (k_all hk41) (by revert c65 c164; generalize v41 = zz; intro c65 c164 hz; revert c65 c164; rcases hz with rfl | rfl | rfl | rfl | rfl | rfl | rfl | rfl | rfl | rfl | rfl | rfl | rfl | rfl | rfl <;> decide)
        · exact absurd (k_all hk41) (by revert c65 c93; generalize v41 = zz; intro c65 c93 hz; revert c65 c93; rcases hz with rfl | rfl | rfl | rfl | rfl | rfl | rfl | rfl | rfl | rfl | rfl | rfl | rfl | rfl | rfl <;> decide)
      · refine kr_aload_n h dX1_accept_78 rfl 5 rfl ?_
        refine kr_get h FX1ok 0 14 dX1_accept_79 flX1_54 rfl rfl (by decide) rfl rfl ?_
        refine kr_iload h dX1_accept_82 3 rfl ?_
        refine kr_dup2 h dX1_accept_84 rfl rfl ?_
        refine kr_iald h 6 0 dX1_accept_85 rfl rfl (by rw [e32]; exact hp) (fun v85 e85 => ?_)
        refine kr_iconst (v := 1) h dX1_accept_86 (by decide) ?_
        refine kr_iadd h dX1_accept_87 (fun v87 e87 => ?_)
        refine kr_iast (ws' := wY cI cZ q (xA x 5 (upd (x.1 5) (tn v32) v87))) h 6 0 dX1_accept_88 rfl rfl (by rw [e32]; exact hp) (wY_r5 cI cZ q x _) ?_
        refine kr_iload h dX1_accept_89 2 rfl ?_
        refine kr_bipush (v := 6) h dX1_accept_91 (by decide) ?_
        refine kr_icmp_ne h 153 dX1_accept_93 (by decide) (fun c93 => ?_) (fun c93 => ?_)
        · refine kr_iload h dX1_accept_153 2 rfl ?_
          refine kr_bipush (v := 8) h dX1_accept_155 (by decide) ?_
          refine kr_icmp_eq h 177 dX1_accept_157 (by decide) (fun c157 => ?_) (fun c157 => ?_)
          · exact absurd (k_all hk41) (by revert c65 c157; generalize v41 = zz; intro c65 c157 hz; revert c65 c157; rcases hz with rfl | rfl | rfl | rfl | rfl | rfl | rfl | rfl | rfl | rfl | rfl | rfl | rfl | rfl | rfl <;> decide)
          · refine kr_iload h dX1_accept_160 2 rfl ?_
            refine kr_bipush (v := 12) h dX1_accept_162 (by decide) ?_
            refine kr_icmp_ne h 188 dX1_accept_164 (by decide) (fun c164 => ?_) (fun c164 => ?_)
            · refine kr_iload h dX1_accept_188 2 rfl ?_
              refine kr_bipush (v := 8) h dX1_accept_190 (by decide) ?_
              refine kr_icmp_eq h 202 dX1_accept_192 (by decide) (fun c192 => ?_) (fun c192 => ?_)
              · exact absurd (k_all hk41) (by revert c65 c192; generalize v41 = zz; intro c65 c192 hz; revert c65 c192; rcases hz with rfl | rfl | rfl | rfl | rfl | rfl | rfl | rfl | rfl | rfl | rfl | rfl | rfl | rfl | rfl <;> decide)
              · refine kr_iload h dX1_accept_195 2 rfl ?_
                refine kr_bipush (v := 12) h dX1_accept_197 (by decide) ?_
                refine kr_icmp_le h 213 dX1_accept_199 (by decide) (fun c199 => ?_) (fun c199 => ?_)
                · refine kr_iload h dX1_accept_213 2 rfl ?_
                  refine kr_bipush (v := 8) h dX1_accept_215 (by decide) ?_
                  refine kr_icmp_le h 256 dX1_accept_217 (by decide) (fun c217 => ?_) (fun c217 => ?_)
                  · refine kr_goto h 20 dX1_accept_256 (by decide) ?_
                    refine kr_lv (lv' := [(3, .int v24), (0, .ref (q 0)), (1, .int s1), (2, .int v1)]) [4, 5, 6, 7] rfl ?_
                    exact kk _ _ ⟨0, h24, by rw [← e32, yTop, ← e41, ← e50, ← e59]; first | rw [if_neg c157, if_pos c164, if_neg (xb_f e171 c174)] | (rw [if_neg c157, if_neg c164, if_pos c199, if_pos c217, yLeaf, ← e41, ← e50]; first | rw [if_pos c65, if_neg (xb_f e72 c75)] | (rw [if_pos c65, if_pos (xb_t e72 c75), e87, e85]; rfl) | (rw [if_neg c65, if_pos c93, ← show v118 = yEnt x v32 s1 by rw [e118, e117, e115, e104, e114, e111, e50]; rfl]; first | rw [if_pos c120] | (rw [if_neg c120, show v118 = v151 from (show v118 = yEnt x v32 s1 by rw [e118, e117, e115, e104, e114, e111, e50]; rfl).trans (show v151 = yEnt x v32 s1 by rw [e151, e150, e148, e137, e147, e144, e50]; rfl).symm]; rfl)) | rw [if_neg c65, if_neg c93])⟩
                  · exact absurd (k_all hk41) (by revert c65 c217; generalize v41 = zz; intro c65 c217 hz; revert c65 c217; rcases hz with rfl | rfl | rfl | rfl | rfl | rfl | rfl | rfl | rfl | rfl | rfl | rfl | rfl | rfl | rfl <;> decide)
                · exact absurd (k_all hk41) (by revert c65 c199; generalize v41 = zz; intro c65 c199 hz; revert c65 c199; rcases hz with rfl | rfl | rfl | rfl | rfl | rfl | rfl | rfl | rfl | rfl | rfl | rfl | rfl | rfl | rfl <;> decide)
            · exact absurd (k_all hk41) (by revert c65 c164; generalize v41 = zz; intro c65 c164 hz; revert c65 c164; rcases hz with rfl | rfl | rfl | rfl | rfl | rfl | rfl | rfl | rfl | rfl | rfl | rfl | rfl | rfl | rfl <;> decide)
        · exact absurd (k_all hk41) (by revert c65 c93; generalize v41 = zz; intro c65 c93 hz; revert c65 c93; rcases hz with rfl | rfl | rfl | rfl | rfl | rfl | rfl | rfl | rfl | rfl | rfl | rfl | rfl | rfl | rfl <;> decide)
theorem lp_acc {p : Program} {l : Launch} {e : Env} {R : Room} {s : State} {m : MethodId} {args : Array Value} {below : List Frame} {meth : Method} {c : Code} {Q : State → Prop} {D : va_G} {cI cZ cJ : ClassId} {q : Nat → Nat} {A : Nat → Prop} {s1 v1 : Int32} (h : kc_C p s m args c cX1_accept 8 RX1 D vwCl (tyL cI cZ cJ) A) (hs : xSo s1) (hR : 4 ≤ R.frames ∧ 104 ≤ R.locals) : ∀ (d j : Nat) (x : xSt) (i p1 : Int32), j + d < 40 → i = nI (j + 1) → xG (yx x) d p1 → yTb x → x.1 15 j = p1 → (∀ (i' : Int32) (x' : xSt), i' = nI j → x' = yAc d x j p1 s1 → kc_W p l e R s m args below meth c D vwCl A 8 Q 20 [(3, .int i'), (0, .ref (q 0)), (1, .int s1), (2, .int v1)] [] (wY cI cZ q x') (0, 0)) → kc_W p l e R s m args below meth c D vwCl A 8 Q 20 [(3, .int i), (0, .ref (q 0)), (1, .int s1), (2, .int v1)] [] (wY cI cZ q x) (0, 0) := by
  intro d
  induction d with
  | zero => intro j x i p1 _ _ hg; exact hg.elim
  | succ d ih =>
    intro j x i p1 hj hi hg hT hu kk
    refine lp_acc1 h hs hR d j (by omega) x i hi (by rw [hu]; exact hg) (fun i1 x1 hx => ?_)
    obtain ⟨m1, hm1, hx1⟩ := hx
    rw [hu] at hx1
    have e1 : (yTop x j p1 s1).1 = m1 := by rw [hx1]
    have e2 : (yTop x j p1 s1).2 = x1 := by rw [hx1]
    have hka := yKa_top j hT p1 s1
    rw [e2] at hka
    by_cases q0 : m1 = 0
    · refine kk i1 x1 (by rw [hm1, q0]; rfl) ?_
      rw [yAc, if_pos (e1.trans q0), e2]
    · by_cases q1 : m1 = 1
      · refine ih j x1 i1 (x1.1 15 j) (by omega) (by rw [hm1, q1]) (yG_ka hka d _ (by rw [← e2]; exact yTop_1 hg (e1.trans q1))) (yKa_tb hka hT) rfl (fun i2 x2 hi2 hx2 => kk i2 x2 hi2 ?_)
        rw [hx2, yAc, if_neg (fun z => q0 (e1.symm.trans z)), if_pos (e1.trans q1), e2]
      · obtain ⟨q2, ga, gb⟩ := yTop_2 (j := j) (s := s1) hg (fun z => q0 (e1.symm.trans z)) (fun z => q1 (e1.symm.trans z))
        rw [e2] at ga gb
        refine ih (j + 1) x1 i1 (x1.1 15 (j + 1)) (by omega) (by rw [hm1, ← e1, q2]) (yG_ka hka d _ ga) (yKa_tb hka hT) rfl (fun i2 x2 hi2 hx2 => ?_)
        have hkb := yKa_ac d x1 (j + 1) (x1.1 15 (j + 1)) s1 (yKa_tb hka hT)
        rw [← hx2] at hkb
        refine ih j x2 i2 (x1.1 15 j) (by omega) hi2 (yG_ka hkb d _ (yG_ka hka d _ gb)) (yKa_tb hkb (yKa_tb hka hT)) (hkb.2.2.1 j (by omega)) (fun i3 x3 hi3 hx3 => kk i3 x3 hi3 ?_)
        rw [hx3, yAc, if_neg (fun z => q0 (e1.symm.trans z)), if_neg (fun z => q1 (e1.symm.trans z)), e2, ← hx2]
set_option maxHeartbeats 4000000 in
set_option maxRecDepth 100000 in
theorem m_accept (l : Launch) (D : va_G) (cI cZ cJ : ClassId) (q : Nat → Nat) (x : xSt) (s v : Int32) (hg : xG (yx x) 7 (x.2 1)) (hs : xSo s) (hT : yTb x) : kc_M l yX1_accept cX1_accept 8 none 4 104 0 0 [.ref (q 0), .int s, .int v] D vwCl (tyL cI cZ cJ) (wY cI cZ q x) none (wY cI cZ q (yAcc x s v)) := by
  refine kc_start RX1 (by decide +kernel) rfl (Nat.le_of_ble_eq_true rfl) ?_
  intro zp ze zs zm zb zt zc h hr hlk hnm
  refine kr_iconst (v := 1) h dX1_accept_0 (by decide) ?_
  refine kr_istore_n (lv' := [(3, .int 1), (0, .ref (q 0)), (1, .int s), (2, .int v)]) h dX1_accept_1 rfl (by decide) rfl ?_
  refine kr_aload_n h dX1_accept_2 rfl 1 rfl ?_
  refine kr_iload_n h dX1_accept_3 rfl 2 rfl ?_
  refine kr_iload_n h dX1_accept_4 rfl 3 rfl ?_
  refine kr_iconst (v := 0) h dX1_accept_5 (by decide) ?_
  refine kr_iA h (kc_rV h (m_askAll l D cI cZ cJ q x s v 0 (hg) (hs)) mlX1_148 yvX1_askAll dX1_accept_6 rfl rfl ⟨Nat.le_of_ble_eq_true rfl, Nat.le_of_ble_eq_true rfl⟩ ⟨Nat.le_of_ble_eq_true rfl, Nat.le_of_ble_eq_true rfl⟩ (Nat.le_of_ble_eq_true rfl) [0, 1, 2, 3, 4, 5, 6, 7, 8, 9, 10, 11, 12, 13, 14, 15, 16, 17, 18, 19] rfl rfl 0 rfl rfl rfl) (fun v6 e6 => ?_)
  refine kr_pop h dX1_accept_9 rfl ?_
  refine kr_aload_n h dX1_accept_10 rfl 1 rfl ?_
  refine kr_get h FX1ok 0 24 dX1_accept_11 flX1_85 rfl rfl (by decide) rfl rfl ?_
  refine kr_iconst (v := 0) h dX1_accept_14 (by decide) ?_
  refine kr_aload_n h dX1_accept_15 rfl 1 rfl ?_
  refine kr_get h FX1ok 0 1 dX1_accept_16 flX1_13 rfl rfl (by decide) rfl rfl ?_
  refine kr_top h (fun v16 e16 => ?_)
  have hka := yKr_run 7 (xPut (xPut x 15 0 (x.2 1)) 16 0 0) 0 (x.2 1) s v 0
  have h16 : v16 = x.2 1 := e16.trans (hka.2.1 1 (by decide))
  have hg2 : xG (yx (yAll x s v 0)) 7 (x.2 1) := (yG_kr hka _ _).mpr hg
  have hT2 : yTb (yAll x s v 0) := fun i => by show ¬ (yRun 7 _ 0 _ s v 0).1 8 i < 0; rw [hka.1 8 (by decide)]; exact hT i
  refine kr_iast (ws' := wY cI cZ q (xA (yAll x s v 0) 15 (upd ((yAll x s v 0).1 15) (tn 0) v16))) h 16 0 dX1_accept_19 rfl rfl (show vp_in (nI 0) 40 from vp_in_nI (by decide) (by decide)) (wY_r15 cI cZ q (yAll x s v 0) _) ?_
  refine kr_lv (lv' := [(3, .int 1), (0, .ref (q 0)), (1, .int s), (2, .int v)]) [0, 1, 2, 3] rfl ?_
  refine lp_acc h hs ⟨Nat.le_refl _, Nat.le_refl _⟩ 7 0 (xA (yAll x s v 0) 15 (upd ((yAll x s v 0).1 15) (tn 0) v16)) 1 v16 (by decide) rfl ((xG_eq4 (x := yx (yAll x s v 0)) (y := yx (xA (yAll x s v 0) 15 (upd ((yAll x s v 0).1 15) (tn 0) v16))) rfl rfl rfl rfl _ _).mpr (by rw [h16]; exact hg2)) hT2 rfl (fun i2 x2 hi2 hx2 => ?_)
  have hx3 : x2 = yAcc x s v := by rw [hx2, h16]; rfl
  subst hx3
  clear hx2
  refine kr_iload_n h dX1_accept_20 rfl 0 rfl ?_
  refine kr_if_le h 259 dX1_accept_21 (by decide) (fun c21 => ?_) (fun c21 => ?_)
  · exact kr_vret h hr hlk dX1_accept_259 (rfl)
  · exact absurd (by rw [hi2]; decide) c21
