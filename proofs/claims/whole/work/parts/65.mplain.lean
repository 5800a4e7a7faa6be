set_option maxHeartbeats 4000000 in
set_option maxRecDepth 100000 in
theorem m_plain (l : Launch) (D : va_G) (cI cZ cJ : ClassId) (q : Nat → Nat) (x : xSt) (p s v : Int32) (hp : vp_in p 40) (h6 : x.1 0 (tn p) = 6 → vp_in (yPlace x p s) 96) : kc_M l yX1_plain cX1_plain 9 none 1 22 0 0 [.ref (q 0), .int p, .int s, .int v] D vwCl (tyL cI cZ cJ) (wY cI cZ q x) none (wY cI cZ q (yPlain x p s v)) := by
  refine kc_start RX1 (by decide +kernel) rfl (Nat.le_of_ble_eq_true rfl) ?_
  intro zp ze zs zm zb zt zc h hr hlk hnm
  refine kr_aload_n h dX1_plain_0 rfl 0 rfl ?_
  refine kr_get h FX1ok 0 9 dX1_plain_1 flX1_38 rfl rfl (by decide) rfl rfl ?_
  refine kr_iload_n h dX1_plain_4 rfl 1 rfl ?_
  refine kr_iald h 1 0 dX1_plain_5 rfl rfl (hp) (fun v5 e5 => ?_)
  refine kr_istore (lv' := [(4, .int v5), (0, .ref (q 0)), (1, .int p), (2, .int s), (3, .int v)]) h dX1_plain_6 (by decide) rfl ?_
  refine kr_aload_n h dX1_plain_8 rfl 1 rfl ?_
  refine kr_get h FX1ok 0 10 dX1_plain_9 flX1_42 rfl rfl (by decide) rfl rfl ?_
  refine kr_iload_n h dX1_plain_12 rfl 2 rfl ?_
  refine kr_iald h 2 0 dX1_plain_13 rfl rfl (hp) (fun v13 e13 => ?_)
  refine kr_istore (lv' := [(5, .int v13), (4, .int v5), (0, .ref (q 0)), (1, .int p), (2, .int s), (3, .int v)]) h dX1_plain_14 (by decide) rfl ?_
  refine kr_aload_n h dX1_plain_16 rfl 2 rfl ?_
  refine kr_get h FX1ok 0 11 dX1_plain_17 flX1_45 rfl rfl (by decide) rfl rfl ?_
  refine kr_iload_n h dX1_plain_20 rfl 3 rfl ?_
  refine kr_iald h 3 0 dX1_plain_21 rfl rfl (hp) (fun v21 e21 => ?_)
  refine kr_istore (lv' := [(6, .int v21), (5, .int v13), (4, .int v5), (0, .ref (q 0)), (1, .int p), (2, .int s), (3, .int v)]) h dX1_plain_22 (by decide) rfl ?_
  refine kr_aload_n h dX1_plain_24 rfl 3 rfl ?_
  refine kr_get h FX1ok 0 12 dX1_plain_25 flX1_48 rfl rfl (by decide) rfl rfl ?_
  refine kr_iload_n h dX1_plain_28 rfl 4 rfl ?_
  refine kr_iald h 4 0 dX1_plain_29 rfl rfl (hp) (fun v29 e29 => ?_)
  refine kr_istore (lv' := [(7, .int v29), (6, .int v21), (5, .int v13), (4, .int v5), (0, .ref (q 0)), (1, .int p), (2, .int s), (3, .int v)]) h dX1_plain_30 (by decide) rfl ?_
  refine kr_iload h dX1_plain_32 3 rfl ?_
  refine kr_bipush (v := 6) h dX1_plain_34 (by decide) ?_
  refine kr_icmp_ne h 90 dX1_plain_36 (by decide) (fun c36 => ?_) (fun c36 => ?_)
  · refine kr_aload_n h dX1_plain_90 rfl 4 rfl ?_
    refine kr_iload h dX1_plain_91 2 rfl ?_
    refine kr_iload_n h dX1_plain_93 rfl 6 rfl ?_
    refine kr_iA h (kc_rV h (m_in l D cI cZ cJ q x v13 s) mlX1_126 yvX1_in dX1_plain_94 rfl rfl ⟨Nat.le_of_ble_eq_true rfl, Nat.le_of_ble_eq_true rfl⟩ ⟨Nat.le_of_ble_eq_true rfl, Nat.le_of_ble_eq_true rfl⟩ (Nat.le_of_ble_eq_true rfl) [0, 1, 2, 3, 4, 5, 6, 7, 8, 9, 10, 11, 12, 13, 14, 15, 16, 17, 18, 19] rfl rfl 0 rfl rfl rfl) (fun v94 e94 => ?_)
    refine kr_istore (lv' := [(8, .int v94), (7, .int v29), (6, .int v21), (5, .int v13), (4, .int v5), (0, .ref (q 0)), (1, .int p), (2, .int s), (3, .int v)]) h dX1_plain_97 (by decide) rfl ?_
    refine kr_iload h dX1_plain_99 0 rfl ?_
    refine kr_if_eq h 119 dX1_plain_101 (by decide) (fun c101 => ?_) (fun c101 => ?_)
    · refine kr_aload_n h dX1_plain_119 rfl 5 rfl ?_
      refine kr_iload_n h dX1_plain_120 rfl 6 rfl ?_
      refine kr_iconst (v := 0) h dX1_plain_121 (by decide) ?_
      refine kr_vA h (kc_rV h (m_suggest l D cI cZ cJ q x p 0 (by assumption)) mlX1_122 yvX1_suggest dX1_plain_122 rfl rfl ⟨Nat.le_of_ble_eq_true rfl, Nat.le_of_ble_eq_true rfl⟩ ⟨Nat.le_of_ble_eq_true rfl, Nat.le_of_ble_eq_true rfl⟩ (Nat.le_of_ble_eq_true rfl) [0, 1, 2, 3, 4, 5, 6, 7, 8, 9, 10, 11, 12, 13, 14, 15, 16, 17, 18, 19] rfl rfl 0 rfl rfl rfl) ?_
      refine kr_goto h 284 dX1_plain_125 (by decide) ?_
      exact kr_vret h hr hlk dX1_plain_284 (congrArg _ (by first | exact absurd c239 c266 | exact absurd c266 c239 | (rw [yPlain, if_neg (fun z => c36 (e5.trans z))]; first | rw [if_neg (fun z => xb_f e94 c101 (by rw [e13]; exact z.1))] | rw [if_neg (fun z => c116 (e115.trans (z.2 (e5.symm.trans c107))))] | (rw [if_pos ⟨by have z := xb_t e94 c101; rw [e13] at z; exact z, fun z => by first | exact absurd (e5.trans z) c107 | exact e115.symm.trans c116⟩, ← e5]; first | rw [if_pos c130] | rw [if_neg c130, if_pos c145] | rw [if_neg c130, if_neg c145, if_pos c160] | (rw [if_neg c130, if_neg c145, if_neg c160, if_pos c175, ← e185, ← e21]; first | rw [if_pos c188] | rw [if_neg c188]) | (rw [if_neg c130, if_neg c145, if_neg c160, if_neg c175, if_pos c206, ← e21, ← e29]; first | rw [if_pos (Or.inl c214)] | rw [if_pos (Or.inr c220)] | rw [if_neg (fun z => z.elim c214 c220)]) | (rw [if_neg c130, if_neg c145, if_neg c160, if_neg c175, if_neg c206, if_pos c239, e21]; rfl) | (rw [if_neg c130, if_neg c145, if_neg c160, if_neg c175, if_neg c206, if_neg c239, e29, e21]; rfl)))))
    · refine kr_iload h dX1_plain_104 4 rfl ?_
      refine kr_iconst (v := 5) h dX1_plain_106 (by decide) ?_
      refine kr_icmp_ne h 128 dX1_plain_107 (by decide) (fun c107 => ?_) (fun c107 => ?_)
      · refine kr_iload h dX1_plain_128 4 rfl ?_
        refine kr_if_ne h 142 dX1_plain_130 (by decide) (fun c130 => ?_) (fun c130 => ?_)
        · refine kr_iload h dX1_plain_142 4 rfl ?_
          refine kr_iconst (v := 1) h dX1_plain_144 (by decide) ?_
          refine kr_icmp_ne h 157 dX1_plain_145 (by decide) (fun c145 => ?_) (fun c145 => ?_)
          · refine kr_iload h dX1_plain_157 4 rfl ?_
            refine kr_iconst (v := 2) h dX1_plain_159 (by decide) ?_
            refine kr_icmp_ne h 172 dX1_plain_160 (by decide) (fun c160 => ?_) (fun c160 => ?_)
            · refine kr_iload h dX1_plain_172 4 rfl ?_
              refine kr_iconst (v := 3) h dX1_plain_174 (by decide) ?_
              refine kr_icmp_ne h 202 dX1_plain_175 (by decide) (fun c175 => ?_) (fun c175 => ?_)
              · refine kr_iload h dX1_plain_202 4 rfl ?_
                refine kr_bipush (v := 7) h dX1_plain_204 (by decide) ?_
                refine kr_icmp_ne h 234 dX1_plain_206 (by decide) (fun c206 => ?_) (fun c206 => ?_)
                · refine kr_aload_n h dX1_plain_234 rfl 5 rfl ?_
                  refine kr_iload_n h dX1_plain_235 rfl 6 rfl ?_
                  refine kr_iload h dX1_plain_236 4 rfl ?_
                  refine kr_iconst (v := 4) h dX1_plain_238 (by decide) ?_
                  refine kr_icmp_ne h 246 dX1_plain_239 (by decide) (fun c239 => ?_) (fun c239 => ?_)
                  · refine kr_iconst (v := 2) h dX1_plain_246 (by decide) ?_
                    refine kr_vA h (kc_rV h (m_suggest l D cI cZ cJ q x p 2 (by assumption)) mlX1_122 yvX1_suggest dX1_plain_247 rfl rfl ⟨Nat.le_of_ble_eq_true rfl, Nat.le_of_ble_eq_true rfl⟩ ⟨Nat.le_of_ble_eq_true rfl, Nat.le_of_ble_eq_true rfl⟩ (Nat.le_of_ble_eq_true rfl) [0, 1, 2, 3, 4, 5, 6, 7, 8, 9, 10, 11, 12, 13, 14, 15, 16, 17, 18, 19] rfl rfl 0 rfl rfl rfl) ?_
                    refine kr_aload_n h dX1_plain_250 rfl 5 rfl ?_
                    refine kr_get h FX1ok 0 21 dX1_plain_251 flX1_76 rfl rfl (by decide) rfl rfl ?_
                    refine kr_iload_n h dX1_plain_254 rfl 6 rfl ?_
                    refine kr_iload h dX1_plain_255 2 rfl ?_
                    refine kr_iast (ws' := wY cI cZ q (xA (ySug x p 2) 12 (upd ((ySug x p 2).1 12) (tn p) v21))) h 13 0 dX1_plain_257 rfl rfl (hp) (wY_r12 cI cZ q (ySug x p 2) _) ?_
                    refine kr_aload_n h dX1_plain_258 rfl 5 rfl ?_
                    refine kr_get h FX1ok 0 22 dX1_plain_259 flX1_79 rfl rfl (by decide) rfl rfl ?_
                    refine kr_iload_n h dX1_plain_262 rfl 6 rfl ?_
                    refine kr_iload h dX1_plain_263 4 rfl ?_
                    refine kr_iconst (v := 4) h dX1_plain_265 (by decide) ?_
                    refine kr_icmp_ne h 274 dX1_plain_266 (by decide) (fun c266 => ?_) (fun c266 => ?_)
                    · refine kr_iload h dX1_plain_274 1 rfl ?_
                      refine kr_iast (ws' := wY cI cZ q (xA (xA (ySug x p 2) 12 (upd ((ySug x p 2).1 12) (tn p) v21)) 13 (upd ((xA (ySug x p 2) 12 (upd ((ySug x p 2).1 12) (tn p) v21)).1 13) (tn p) v29))) h 14 0 dX1_plain_276 rfl rfl (hp) (wY_r13 cI cZ q (xA (ySug x p 2) 12 (upd ((ySug x p 2).1 12) (tn p) v21)) _) ?_
                      refine kr_aload_n h dX1_plain_277 rfl 5 rfl ?_
                      refine kr_get h FX1ok 0 23 dX1_plain_278 flX1_82 rfl rfl (by decide) rfl rfl ?_
                      refine kr_iload_n h dX1_plain_281 rfl 6 rfl ?_
                      refine kr_iload_n h dX1_plain_282 rfl 6 rfl ?_
                      refine kr_iast (ws' := wY cI cZ q (xA (xA (xA (ySug x p 2) 12 (upd ((ySug x p 2).1 12) (tn p) v21)) 13 (upd ((xA (ySug x p 2) 12 (upd ((ySug x p 2).1 12) (tn p) v21)).1 13) (tn p) v29)) 14 (upd ((xA (xA (ySug x p 2) 12 (upd ((ySug x p 2).1 12) (tn p) v21)) 13 (upd ((xA (ySug x p 2) 12 (upd ((ySug x p 2).1 12) (tn p) v21)).1 13) (tn p) v29)).1 14) (tn p) p))) h 15 0 dX1_plain_283 rfl rfl (hp) (wY_r14 cI cZ q (xA (xA (ySug x p 2) 12 (upd ((ySug x p 2).1 12) (tn p) v21)) 13 (upd ((xA (ySug x p 2) 12 (upd ((ySug x p 2).1 12) (tn p) v21)).1 13) (tn p) v29)) _) ?_
                      exact kr_vret h hr hlk dX1_plain_284 (congrArg _ (by first | exact absurd c239 c266 | exact absurd c266 c239 | (rw [yPlain, if_neg (fun z => c36 (e5.trans z))]; first | rw [if_neg (fun z => xb_f e94 c101 (by rw [e13]; exact z.1))] | rw [if_neg (fun z => c116 (e115.trans (z.2 (e5.symm.trans c107))))] | (rw [if_pos ⟨by have z := xb_t e94 c101; rw [e13] at z; exact z, fun z => by first | exact absurd (e5.trans z) c107 | exact e115.symm.trans c116⟩, ← e5]; first | rw [if_pos c130] | rw [if_neg c130, if_pos c145] | rw [if_neg c130, if_neg c145, if_pos c160] | (rw [if_neg c130, if_neg c145, if_neg c160, if_pos c175, ← e185, ← e21]; first | rw [if_pos c188] | rw [if_neg c188]) | (rw [if_neg c130, if_neg c145, if_neg c160, if_neg c175, if_pos c206, ← e21, ← e29]; first | rw [if_pos (Or.inl c214)] | rw [if_pos (Or.inr c220)] | rw [if_neg (fun z => z.elim c214 c220)]) | (rw [if_neg c130, if_neg c145, if_neg c160, if_neg c175, if_neg c206, if_pos c239, e21]; rfl) | (rw [if_neg c130, if_neg c145, if_neg c160, if_neg c175, if_neg c206, if_neg c239, e29, e21]; rfl)))))
                    · refine kr_iload h dX1_plain_269 2 rfl ?_
                      refine kr_goto h 276 dX1_plain_271 (by decide) ?_
                      refine kr_iast (ws' := wY cI cZ q (xA (xA (ySug x p 2) 12 (upd ((ySug x p 2).1 12) (tn p) v21)) 13 (upd ((xA (ySug x p 2) 12 (upd ((ySug x p 2).1 12) (tn p) v21)).1 13) (tn p) v21))) h 14 0 dX1_plain_276 rfl rfl (hp) (wY_r13 cI cZ q (xA (ySug x p 2) 12 (upd ((ySug x p 2).1 12) (tn p) v21)) _) ?_
                      refine kr_aload_n h dX1_plain_277 rfl 5 rfl ?_
                      refine kr_get h FX1ok 0 23 dX1_plain_278 flX1_82 rfl rfl (by decide) rfl rfl ?_
                      refine kr_iload_n h dX1_plain_281 rfl 6 rfl ?_
                      refine kr_iload_n h dX1_plain_282 rfl 6 rfl ?_
                      refine kr_iast (ws' := wY cI cZ q (xA (xA (xA (ySug x p 2) 12 (upd ((ySug x p 2).1 12) (tn p) v21)) 13 (upd ((xA (ySug x p 2) 12 (upd ((ySug x p 2).1 12) (tn p) v21)).1 13) (tn p) v21)) 14 (upd ((xA (xA (ySug x p 2) 12 (upd ((ySug x p 2).1 12) (tn p) v21)) 13 (upd ((xA (ySug x p 2) 12 (upd ((ySug x p 2).1 12) (tn p) v21)).1 13) (tn p) v21)).1 14) (tn p) p))) h 15 0 dX1_plain_283 rfl rfl (hp) (wY_r14 cI cZ q (xA (xA (ySug x p 2) 12 (upd ((ySug x p 2).1 12) (tn p) v21)) 13 (upd ((xA (ySug x p 2) 12 (upd ((ySug x p 2).1 12) (tn p) v21)).1 13) (tn p) v21)) _) ?_
                      exact kr_vret h hr hlk dX1_plain_284 (congrArg _ (by first | exact absurd c239 c266 | exact absurd c266 c239 | (rw [yPlain, if_neg (fun z => c36 (e5.trans z))]; first | rw [if_neg (fun z => xb_f e94 c101 (by rw [e13]; exact z.1))] | rw [if_neg (fun z => c116 (e115.trans (z.2 (e5.symm.trans c107))))] | (rw [if_pos ⟨by have z := xb_t e94 c101; rw [e13] at z; exact z, fun z => by first | exact absurd (e5.trans z) c107 | exact e115.symm.trans c116⟩, ← e5]; first | rw [if_pos c130] | rw [if_neg c130, if_pos c145] | rw [if_neg c130, if_neg c145, if_pos c160] | (rw [if_neg c130, if_neg c145, if_neg c160, if_pos c175, ← e185, ← e21]; first | rw [if_pos c188] | rw [if_neg c188]) | (rw [if_neg c130, if_neg c145, if_neg c160, if_neg c175, if_pos c206, ← e21, ← e29]; first | rw [if_pos (Or.inl c214)] | rw [if_pos (Or.inr c220)] | rw [if_neg (fun z => z.elim c214 c220)]) | (rw [if_neg c130, if_neg c145, if_neg c160, if_neg c175, if_neg c206, if_pos c239, e21]; rfl) | (rw [if_neg c130, if_neg c145, if_neg c160, if_neg c175, if_neg c206, if_neg c239, e29, e21]; rfl)))))
                  · refine kr_iconst (v := 3) h dX1_plain_242 (by decide) ?_
                    refine kr_goto h 247 dX1_plain_243 (by decide) ?_
                    refine kr_vA h (kc_rV h (m_suggest l D cI cZ cJ q x p 3 (by assumption)) mlX1_122 yvX1_suggest dX1_plain_247 rfl rfl ⟨Nat.le_of_ble_eq_true rfl, Nat.le_of_ble_eq_true rfl⟩ ⟨Nat.le_of_ble_eq_true rfl, Nat.le_of_ble_eq_true rfl⟩ (Nat.le_of_ble_eq_true rfl) [0, 1, 2, 3, 4, 5, 6, 7, 8, 9, 10, 11, 12, 13, 14, 15, 16, 17, 18, 19] rfl rfl 0 rfl rfl rfl) ?_
                    refine kr_aload_n h dX1_plain_250 rfl 5 rfl ?_
                    refine kr_get h FX1ok 0 21 dX1_plain_251 flX1_76 rfl rfl (by decide) rfl rfl ?_
                    refine kr_iload_n h dX1_plain_254 rfl 6 rfl ?_
                    refine kr_iload h dX1_plain_255 2 rfl ?_
                    refine kr_iast (ws' := wY cI cZ q (xA (ySug x p 3) 12 (upd ((ySug x p 3).1 12) (tn p) v21))) h 13 0 dX1_plain_257 rfl rfl (hp) (wY_r12 cI cZ q (ySug x p 3) _) ?_
                    refine kr_aload_n h dX1_plain_258 rfl 5 rfl ?_
                    refine kr_get h FX1ok 0 22 dX1_plain_259 flX1_79 rfl rfl (by decide) rfl rfl ?_
                    refine kr_iload_n h dX1_plain_262 rfl 6 rfl ?_
                    refine kr_iload h dX1_plain_263 4 rfl ?_
                    refine kr_iconst (v := 4) h dX1_plain_265 (by decide) ?_
                    refine kr_icmp_ne h 274 dX1_plain_266 (by decide) (fun c266 => ?_) (fun c266 => ?_)
                    · refine kr_iload h dX1_plain_274 1 rfl ?_
                      refine kr_iast (ws' := wY cI cZ q (xA (xA (ySug x p 3) 12 (upd ((ySug x p 3).1 12) (tn p) v21)) 13 (upd ((xA (ySug x p 3) 12 (upd ((ySug x p 3).1 12) (tn p) v21)).1 13) (tn p) v29))) h 14 0 dX1_plain_276 rfl rfl (hp) (wY_r13 cI cZ q (xA (ySug x p 3) 12 (upd ((ySug x p 3).1 12) (tn p) v21)) _) ?_
                      refine kr_aload_n h dX1_plain_277 rfl 5 rfl ?_
                      refine kr_get h FX1ok 0 23 dX1_plain_278 flX1_82 rfl rfl (by decide) rfl rfl ?_
                      refine kr_iload_n h dX1_plain_281 rfl 6 rfl ?_
                      refine kr_iload_n h dX1_plain_282 rfl 6 rfl ?_
                      refine kr_iast (ws' := wY cI cZ q (xA (xA (xA (ySug x p 3) 12 (upd ((ySug x p 3).1 12) (tn p) v21)) 13 (upd ((xA (ySug x p 3) 12 (upd ((ySug x p 3).1 12) (tn p) v21)).1 13) (tn p) v29)) 14 (upd ((xA (xA (ySug x p 3) 12 (upd ((ySug x p 3).1 12) (tn p) v21)) 13 (upd ((xA (ySug x p 3) 12 (upd ((ySug x p 3).1 12) (tn p) v21)).1 13) (tn p) v29)).1 14) (tn p) p))) h 15 0 dX1_plain_283 rfl rfl (hp) (wY_r14 cI cZ q (xA (xA (ySug x p 3) 12 (upd ((ySug x p 3).1 12) (tn p) v21)) 13 (upd ((xA (ySug x p 3) 12 (upd ((ySug x p 3).1 12) (tn p) v21)).1 13) (tn p) v29)) _) ?_
                      exact kr_vret h hr hlk dX1_plain_284 (congrArg _ (by first | exact absurd c239 c266 | exact absurd c266 c239 | (rw [yPlain, if_neg (fun z => c36 (e5.trans z))]; first | rw [if_neg (fun z => xb_f e94 c101 (by rw [e13]; exact z.1))] | rw [if_neg (fun z => c116 (e115.trans (z.2 (e5.symm.trans c107))))] | (rw [if_pos ⟨by have z := xb_t e94 c101; rw [e13] at z; exact z, fun z => by first | exact absurd (e5.trans z) c107 | exact e115.symm.trans c116⟩, ← e5]; first | rw [if_pos c130] | rw [if_neg c130, if_pos c145] | rw [if_neg c130, if_neg c145, if_pos c160] | (rw [if_neg c130, if_neg c145, if_neg c160, if_pos c175, ← e185, ← e21]; first | rw [if_pos c188] | rw [if_neg c188]) | (rw [if_neg c130, if_neg c145, if_neg c160, if_neg c175, if_pos c206, ← e21, ← e29]; first | rw [if_pos (Or.inl c214)] | rw [if_pos (Or.inr c220)] | rw [if_neg (fun z => z.elim c214 c220)]) | (rw [if_neg c130, if_neg c145, if_neg c160, if_neg c175, if_neg c206, if_pos c239, e21]; rfl) | (rw [if_neg c130, if_neg c145, if_neg c160, if_neg c175, if_neg c206, if_neg c239, e29, e21]; rfl)))))
                    · refine kr_iload h dX1_plain_269 2 rfl ?_
                      refine kr_goto h 276 dX1_plain_271 (by decide) ?_
                      refine kr_iast (ws' := wY cI cZ q (xA (xA (ySug x p 3) 12 (upd ((ySug x p 3).1 12) (tn p) v21)) 13 (upd ((xA (ySug x p 3) 12 (upd ((ySug x p 3).1 12) (tn p) v21)).1 13) (tn p) v21))) h 14 0 dX1_plain_276 rfl rfl (hp) (wY_r13 cI cZ q (xA (ySug x p 3) 12 (upd ((ySug x p 3).1 12) (tn p) v21)) _) ?_
                      refine kr_aload_n h dX1_plain_277 rfl 5 rfl ?_
                      refine kr_get h FX1ok 0 23 dX1_plain_278 flX1_82 rfl rfl (by decide) rfl rfl ?_
                      refine kr_iload_n h dX1_plain_281 rfl 6 rfl ?_
                      refine kr_iload_n h dX1_plain_282 rfl 6 rfl ?_
                      refine kr_iast (ws' := wY cI cZ q (xA (xA (xA (ySug x p 3) 12 (upd ((ySug x p 3).1 12) (tn p) v21)) 13 (upd ((xA (ySug x p 3) 12 (upd ((ySug x p 3).1 12) (tn p) v21)).1 13) (tn p) v21)) 14 (upd ((xA (xA (ySug x p 3) 12 (upd ((ySug x p 3).1 12) (tn p) v21)) 13 (upd ((xA (ySug x p 3) 12 (upd ((ySug x p 3).1 12) (tn p) v21)).1 13) (tn p) v21)).1 14) (tn p) p))) h 15 0 dX1_plain_283 rfl rfl (hp) (wY_r14 cI cZ q (xA (xA (ySug x p 3) 12 (upd ((ySug x p 3).1 12) (tn p) v21)) 13 (upd ((xA (ySug x p 3) 12 (upd ((ySug x p 3).1 12) (tn p) v21)).1 13) (tn p) v21)) _) ?_
                      exact kr_vret h hr hlk dX1_plain_284 (congrArg _ (by first | exact absurd c239 c266 | exact absurd c266 c239 | (rw [yPlain, if_neg (fun z => c36 (e5.trans z))]; first | rw [if_neg (fun z => xb_f e94 c101 (by rw [e13]; exact z.1))] | rw [if_neg (fun z => c116 (e115.trans (z.2 (e5.symm.trans c107))))] | (rw [if_pos ⟨by have z := xb_t e94 c101; rw [e13] at z; exact z, fun z => by first | exact absurd (e5.trans z) c107 | exact e115.symm.trans c116⟩, ← e5]; first | rw [if_pos c130] | rw [if_neg c130, if_pos c145] | rw [if_neg c130, if_neg c145, if_pos c160] | (rw [if_neg c130, if_neg c145, if_neg c160, if_pos c175, ← e185, ← e21]; first | rw [if_pos c188] | rw [if_neg c188]) | (rw [if_neg c130, if_neg c145, if_neg c160, if_neg c175, if_pos c206, ← e21, ← e29]; first | rw [if_pos (Or.inl c214)] | rw [if_pos (Or.inr c220)] | rw [if_neg (fun z => z.elim c214 c220)]) | (rw [if_neg c130, if_neg c145, if_neg c160, if_neg c175, if_neg c206, if_pos c239, e21]; rfl) | (rw [if_neg c130, if_neg c145, if_neg c160, if_neg c175, if_neg c206, if_neg c239, e29, e21]; rfl)))))
                · refine kr_aload_n h dX1_plain_209 rfl 5 rfl ?_
                  refine kr_iload_n h dX1_plain_210 rfl 6 rfl ?_
                  refine kr_iload h dX1_plain_211 2 rfl ?_
                  refine kr_iload_n h dX1_plain_213 rfl 8 rfl ?_
                  refine kr_icmp_gt h 227 dX1_plain_214 (by decide) (fun c214 => ?_) (fun c214 => ?_)
                  · refine kr_iconst (v := 4) h dX1_plain_227 (by decide) ?_
                    refine kr_vA h (kc_rV h (m_suggest l D cI cZ cJ q x p 4 (by assumption)) mlX1_122 yvX1_suggest dX1_plain_228 rfl rfl ⟨Nat.le_of_ble_eq_true rfl, Nat.le_of_ble_eq_true rfl⟩ ⟨Nat.le_of_ble_eq_true rfl, Nat.le_of_ble_eq_true rfl⟩ (Nat.le_of_ble_eq_true rfl) [0, 1, 2, 3, 4, 5, 6, 7, 8, 9, 10, 11, 12, 13, 14, 15, 16, 17, 18, 19] rfl rfl 0 rfl rfl rfl) ?_
                    refine kr_goto h 284 dX1_plain_231 (by decide) ?_
                    exact kr_vret h hr hlk dX1_plain_284 (congrArg _ (by first | exact absurd c239 c266 | exact absurd c266 c239 | (rw [yPlain, if_neg (fun z => c36 (e5.trans z))]; first | rw [if_neg (fun z => xb_f e94 c101 (by rw [e13]; exact z.1))] | rw [if_neg (fun z => c116 (e115.trans (z.2 (e5.symm.trans c107))))] | (rw [if_pos ⟨by have z := xb_t e94 c101; rw [e13] at z; exact z, fun z => by first | exact absurd (e5.trans z) c107 | exact e115.symm.trans c116⟩, ← e5]; first | rw [if_pos c130] | rw [if_neg c130, if_pos c145] | rw [if_neg c130, if_neg c145, if_pos c160] | (rw [if_neg c130, if_neg c145, if_neg c160, if_pos c175, ← e185, ← e21]; first | rw [if_pos c188] | rw [if_neg c188]) | (rw [if_neg c130, if_neg c145, if_neg c160, if_neg c175, if_pos c206, ← e21, ← e29]; first | rw [if_pos (Or.inl c214)] | rw [if_pos (Or.inr c220)] | rw [if_neg (fun z => z.elim c214 c220)]) | (rw [if_neg c130, if_neg c145, if_neg c160, if_neg c175, if_neg c206, if_pos c239, e21]; rfl) | (rw [if_neg c130, if_neg c145, if_neg c160, if_neg c175, if_neg c206, if_neg c239, e29, e21]; rfl)))))
                  · refine kr_iload_n h dX1_plain_217 rfl 8 rfl ?_
                    refine kr_iload h dX1_plain_218 1 rfl ?_
                    refine kr_icmp_gt h 227 dX1_plain_220 (by decide) (fun c220 => ?_) (fun c220 => ?_)
                    · refine kr_iconst (v := 4) h dX1_plain_227 (by decide) ?_
                      refine kr_vA h (kc_rV h (m_suggest l D cI cZ cJ q x p 4 (by assumption)) mlX1_122 yvX1_suggest dX1_plain_228 rfl rfl ⟨Nat.le_of_ble_eq_true rfl, Nat.le_of_ble_eq_true rfl⟩ ⟨Nat.le_of_ble_eq_true rfl, Nat.le_of_ble_eq_true rfl⟩ (Nat.le_of_ble_eq_true rfl) [0, 1, 2, 3, 4, 5, 6, 7, 8, 9, 10, 11, 12, 13, 14, 15, 16, 17, 18, 19] rfl rfl 0 rfl rfl rfl) ?_
                      refine kr_goto h 284 dX1_plain_231 (by decide) ?_
                      exact kr_vret h hr hlk dX1_plain_284 (congrArg _ (by first | exact absurd c239 c266 | exact absurd c266 c239 | (rw [yPlain, if_neg (fun z => c36 (e5.trans z))]; first | rw [if_neg (fun z => xb_f e94 c101 (by rw [e13]; exact z.1))] | rw [if_neg (fun z => c116 (e115.trans (z.2 (e5.symm.trans c107))))] | (rw [if_pos ⟨by have z := xb_t e94 c101; rw [e13] at z; exact z, fun z => by first | exact absurd (e5.trans z) c107 | exact e115.symm.trans c116⟩, ← e5]; first | rw [if_pos c130] | rw [if_neg c130, if_pos c145] | rw [if_neg c130, if_neg c145, if_pos c160] | (rw [if_neg c130, if_neg c145, if_neg c160, if_pos c175, ← e185, ← e21]; first | rw [if_pos c188] | rw [if_neg c188]) | (rw [if_neg c130, if_neg c145, if_neg c160, if_neg c175, if_pos c206, ← e21, ← e29]; first | rw [if_pos (Or.inl c214)] | rw [if_pos (Or.inr c220)] | rw [if_neg (fun z => z.elim c214 c220)]) | (rw [if_neg c130, if_neg c145, if_neg c160, if_neg c175, if_neg c206, if_pos c239, e21]; rfl) | (rw [if_neg c130, if_neg c145, if_neg c160, if_neg c175, if_neg c206, if_neg c239, e29, e21]; rfl)))))
                    · refine kr_iconst (v := 1) h dX1_plain_223 (by decide) ?_
                      refine kr_goto h 228 dX1_plain_224 (by decide) ?_
                      refine kr_vA h (kc_rV h (m_suggest l D cI cZ cJ q x p 1 (by assumption)) mlX1_122 yvX1_suggest dX1_plain_228 rfl rfl ⟨Nat.le_of_ble_eq_true rfl, Nat.le_of_ble_eq_true rfl⟩ ⟨Nat.le_of_ble_eq_true rfl, Nat.le_of_ble_eq_true rfl⟩ (Nat.le_of_ble_eq_true rfl) [0, 1, 2, 3, 4, 5, 6, 7, 8, 9, 10, 11, 12, 13, 14, 15, 16, 17, 18, 19] rfl rfl 0 rfl rfl rfl) ?_
                      refine kr_goto h 284 dX1_plain_231 (by decide) ?_
                      exact kr_vret h hr hlk dX1_plain_284 (congrArg _ (by first | exact absurd c239 c266 | exact absurd c266 c239 | (rw [yPlain, if_neg (fun z => c36 (e5.trans z))]; first | rw [if_neg (fun z => xb_f e94 c101 (by rw [e13]; exact z.1))] | rw [if_neg (fun z => c116 (e115.trans (z.2 (e5.symm.trans c107))))] | (rw [if_pos ⟨by have z := xb_t e94 c101; rw [e13] at z; exact z, fun z => by first | exact absurd (e5.trans z) c107 | exact e115.symm.trans c116⟩, ← e5]; first | rw [if_pos c130] | rw [if_neg c130, if_pos c145] | rw [if_neg c130, if_neg c145, if_pos c160] | (rw [if_neg c130, if_neg c145, if_neg c160, if_pos c175, ← e185, ← e21]; first | rw [if_pos c188] | rw [if_neg c188]) | (rw [if_neg c130, if_neg c145, if_neg c160, if_neg c175, if_pos c206, ← e21, ← e29]; first | rw [if_pos (Or.inl c214)] | rw [if_pos (Or.inr c220)] | rw [if_neg (fun z => z.elim c214 c220)]) | (rw [if_neg c130, if_neg c145, if_neg c160, if_neg c175, if_neg c206, if_pos c239, e21]; rfl) | (rw [if_neg c130, if_neg c145, if_neg c160, if_neg c175, if_neg c206, if_neg c239, e29, e21]; rfl)))))
              · refine kr_aload_n h dX1_plain_178 rfl 5 rfl ?_
                refine kr_iload_n h dX1_plain_179 rfl 6 rfl ?_
                refine kr_aload_n h dX1_plain_180 rfl 5 rfl ?_
                refine kr_get h FX1ok 0 14 dX1_plain_181 flX1_54 rfl rfl (by decide) rfl rfl ?_
                refine kr_iload_n h dX1_plain_184 rfl 6 rfl ?_
                refine kr_iald h 6 0 dX1_plain_185 rfl rfl (hp) (fun v185 e185 => ?_)
                refine kr_iload h dX1_plain_186 2 rfl ?_
                refine kr_icmp_ge h 195 dX1_plain_188 (by decide) (fun c188 => ?_) (fun c188 => ?_)
                · refine kr_iconst (v := 4) h dX1_plain_195 (by decide) ?_
                  refine kr_vA h (kc_rV h (m_suggest l D cI cZ cJ q x p 4 (by assumption)) mlX1_122 yvX1_suggest dX1_plain_196 rfl rfl ⟨Nat.le_of_ble_eq_true rfl, Nat.le_of_ble_eq_true rfl⟩ ⟨Nat.le_of_ble_eq_true rfl, Nat.le_of_ble_eq_true rfl⟩ (Nat.le_of_ble_eq_true rfl) [0, 1, 2, 3, 4, 5, 6, 7, 8, 9, 10, 11, 12, 13, 14, 15, 16, 17, 18, 19] rfl rfl 0 rfl rfl rfl) ?_
                  refine kr_goto h 284 dX1_plain_199 (by decide) ?_
                  exact kr_vret h hr hlk dX1_plain_284 (congrArg _ (by first | exact absurd c239 c266 | exact absurd c266 c239 | (rw [yPlain, if_neg (fun z => c36 (e5.trans z))]; first | rw [if_neg (fun z => xb_f e94 c101 (by rw [e13]; exact z.1))] | rw [if_neg (fun z => c116 (e115.trans (z.2 (e5.symm.trans c107))))] | (rw [if_pos ⟨by have z := xb_t e94 c101; rw [e13] at z; exact z, fun z => by first | exact absurd (e5.trans z) c107 | exact e115.symm.trans c116⟩, ← e5]; first | rw [if_pos c130] | rw [if_neg c130, if_pos c145] | rw [if_neg c130, if_neg c145, if_pos c160] | (rw [if_neg c130, if_neg c145, if_neg c160, if_pos c175, ← e185, ← e21]; first | rw [if_pos c188] | rw [if_neg c188]) | (rw [if_neg c130, if_neg c145, if_neg c160, if_neg c175, if_pos c206, ← e21, ← e29]; first | rw [if_pos (Or.inl c214)] | rw [if_pos (Or.inr c220)] | rw [if_neg (fun z => z.elim c214 c220)]) | (rw [if_neg c130, if_neg c145, if_neg c160, if_neg c175, if_neg c206, if_pos c239, e21]; rfl) | (rw [if_neg c130, if_neg c145, if_neg c160, if_neg c175, if_neg c206, if_neg c239, e29, e21]; rfl)))))
                · refine kr_iconst (v := 1) h dX1_plain_191 (by decide) ?_
                  refine kr_goto h 196 dX1_plain_192 (by decide) ?_
                  refine kr_vA h (kc_rV h (m_suggest l D cI cZ cJ q x p 1 (by assumption)) mlX1_122 yvX1_suggest dX1_plain_196 rfl rfl ⟨Nat.le_of_ble_eq_true rfl, Nat.le_of_ble_eq_true rfl⟩ ⟨Nat.le_of_ble_eq_true rfl, Nat.le_of_ble_eq_true rfl⟩ (Nat.le_of_ble_eq_true rfl) [0, 1, 2, 3, 4, 5, 6, 7, 8, 9, 10, 11, 12, 13, 14, 15, 16, 17, 18, 19] rfl rfl 0 rfl rfl rfl) ?_
                  refine kr_goto h 284 dX1_plain_199 (by decide) ?_
                  exact kr_vret h hr hlk dX1_plain_284 (congrArg _ (by first | exact absurd c239 c266 | exact absurd c266 c239 | (rw [yPlain, if_neg (fun z => c36 (e5.trans z))]; first | rw [if_neg (fun z => xb_f e94 c101 (by rw [e13]; exact z.1))] | rw [if_neg (fun z => c116 (e115.trans (z.2 (e5.symm.trans c107))))] | (rw [if_pos ⟨by have z := xb_t e94 c101; rw [e13] at z; exact z, fun z => by first | exact absurd (e5.trans z) c107 | exact e115.symm.trans c116⟩, ← e5]; first | rw [if_pos c130] | rw [if_neg c130, if_pos c145] | rw [if_neg c130, if_neg c145, if_pos c160] | (rw [if_neg c130, if_neg c145, if_neg c160, if_pos c175, ← e185, ← e21]; first | rw [if_pos c188] | rw [if_neg c188]) | (rw [if_neg c130, if_neg c145, if_neg c160, if_neg c175, if_pos c206, ← e21, ← e29]; first | rw [if_pos (Or.inl c214)] | rw [if_pos (Or.inr c220)] | rw [if_neg (fun z => z.elim c214 c220)]) | (rw [if_neg c130, if_neg c145, if_neg c160, if_neg c175, if_neg c206, if_pos c239, e21]; rfl) | (rw [if_neg c130, if_neg c145, if_neg c160, if_neg c175, if_neg c206, if_neg c239, e29, e21]; rfl)))))
            · refine kr_aload_n h dX1_plain_163 rfl 5 rfl ?_
              refine kr_iload_n h dX1_plain_164 rfl 6 rfl ?_
              refine kr_iconst (v := 5) h dX1_plain_165 (by decide) ?_
              refine kr_vA h (kc_rV h (m_suggest l D cI cZ cJ q x p 5 (by assumption)) mlX1_122 yvX1_suggest dX1_plain_166 rfl rfl ⟨Nat.le_of_ble_eq_true rfl, Nat.le_of_ble_eq_true rfl⟩ ⟨Nat.le_of_ble_eq_true rfl, Nat.le_of_ble_eq_true rfl⟩ (Nat.le_of_ble_eq_true rfl) [0, 1, 2, 3, 4, 5, 6, 7, 8, 9, 10, 11, 12, 13, 14, 15, 16, 17, 18, 19] rfl rfl 0 rfl rfl rfl) ?_
              refine kr_goto h 284 dX1_plain_169 (by decide) ?_
              exact kr_vret h hr hlk dX1_plain_284 (congrArg _ (by first | exact absurd c239 c266 | exact absurd c266 c239 | (rw [yPlain, if_neg (fun z => c36 (e5.trans z))]; first | rw [if_neg (fun z => xb_f e94 c101 (by rw [e13]; exact z.1))] | rw [if_neg (fun z => c116 (e115.trans (z.2 (e5.symm.trans c107))))] | (rw [if_pos ⟨by have z := xb_t e94 c101; rw [e13] at z; exact z, fun z => by first | exact absurd (e5.trans z) c107 | exact e115.symm.trans c116⟩, ← e5]; first | rw [if_pos c130] | rw [if_neg c130, if_pos c145] | rw [if_neg c130, if_neg c145, if_pos c160] | (rw [if_neg c130, if_neg c145, if_neg c160, if_pos c175, ← e185, ← e21]; first | rw [if_pos c188] | rw [if_neg c188]) | (rw [if_neg c130, if_neg c145, if_neg c160, if_neg c175, if_pos c206, ← e21, ← e29]; first | rw [if_pos (Or.inl c214)] | rw [if_pos (Or.inr c220)] | rw [if_neg (fun z => z.elim c214 c220)]) | (rw [if_neg c130, if_neg c145, if_neg c160, if_neg c175, if_neg c206, if_pos c239, e21]; rfl) | (rw [if_neg c130, if_neg c145, if_neg c160, if_neg c175, if_neg c206, if_neg c239, e29, e21]; rfl)))))
          · refine kr_aload_n h dX1_plain_148 rfl 5 rfl ?_
            refine kr_iload_n h dX1_plain_149 rfl 6 rfl ?_
            refine kr_iconst (v := 4) h dX1_plain_150 (by decide) ?_
            refine kr_vA h (kc_rV h (m_suggest l D cI cZ cJ q x p 4 (by assumption)) mlX1_122 yvX1_suggest dX1_plain_151 rfl rfl ⟨Nat.le_of_ble_eq_true rfl, Nat.le_of_ble_eq_true rfl⟩ ⟨Nat.le_of_ble_eq_true rfl, Nat.le_of_ble_eq_true rfl⟩ (Nat.le_of_ble_eq_true rfl) [0, 1, 2, 3, 4, 5, 6, 7, 8, 9, 10, 11, 12, 13, 14, 15, 16, 17, 18, 19] rfl rfl 0 rfl rfl rfl) ?_
            refine kr_goto h 284 dX1_plain_154 (by decide) ?_
            exact kr_vret h hr hlk dX1_plain_284 (congrArg _ (by first | exact absurd c239 c266 | exact absurd c266 c239 | (rw [yPlain, if_neg (fun z => c36 (e5.trans z))]; first | rw [if_neg (fun z => xb_f e94 c101 (by rw [e13]; exact z.1))] | rw [if_neg (fun z => c116 (e115.trans (z.2 (e5.symm.trans c107))))] | (rw [if_pos ⟨by have z := xb_t e94 c101; rw [e13] at z; exact z, fun z => by first | exact absurd (e5.trans z) c107 | exact e115.symm.trans c116⟩, ← e5]; first | rw [if_pos c130] | rw [if_neg c130, if_pos c145] | rw [if_neg c130, if_neg c145, if_pos c160] | (rw [if_neg c130, if_neg c145, if_neg c160, if_pos c175, ← e185, ← e21]; first | rw [if_pos c188] | rw [if_neg c188]) | (rw [if_neg c130, if_neg c145, if_neg c160, if_neg c175, if_pos c206, ← e21, ← e29]; first | rw [if_pos (Or.inl c214)] | rw [if_pos (Or.inr c220)] | rw [if_neg (fun z => z.elim c214 c220)]) | (rw [if_neg c130, if_neg c145, if_neg c160, if_neg c175, if_neg c206, if_pos c239, e21]; rfl) | (rw [if_neg c130, if_neg c145, if_neg c160, if_neg c175, if_neg c206, if_neg c239, e29, e21]; rfl)))))
        · refine kr_aload_n h dX1_plain_133 rfl 5 rfl ?_
          refine kr_iload_n h dX1_plain_134 rfl 6 rfl ?_
          refine kr_iconst (v := 1) h dX1_plain_135 (by decide) ?_
          refine kr_vA h (kc_rV h (m_suggest l D cI cZ cJ q x p 1 (by assumption)) mlX1_122 yvX1_suggest dX1_plain_136 rfl rfl ⟨Nat.le_of_ble_eq_true rfl, Nat.le_of_ble_eq_true rfl⟩ ⟨Nat.le_of_ble_eq_true rfl, Nat.le_of_ble_eq_true rfl⟩ (Nat.le_of_ble_eq_true rfl) [0, 1, 2, 3, 4, 5, 6, 7, 8, 9, 10, 11, 12, 13, 14, 15, 16, 17, 18, 19] rfl rfl 0 rfl rfl rfl) ?_
          refine kr_goto h 284 dX1_plain_139 (by decide) ?_
          exact kr_vret h hr hlk dX1_plain_284 (congrArg _ (by first | exact absurd c239 c266 | exact absurd c266 c239 | (rw [yPlain, if_neg (fun z => c36 (e5.trans z))]; first | rw [if_neg (fun z => xb_f e94 c101 (by rw [e13]; exact z.1))] | rw [if_neg (fun z => c116 (e115.trans (z.2 (e5.symm.trans c107))))] | (rw [if_pos ⟨by have z := xb_t e94 c101; rw [e13] at z; exact z, fun z => by first | exact absurd (e5.trans z) c107 | exact e115.symm.trans c116⟩, ← e5]; first | rw [if_pos c130] | rw [if_neg c130, if_pos c145] | rw [if_neg c130, if_neg c145, if_pos c160] | (rw [if_neg c130, if_neg c145, if_neg c160, if_pos c175, ← e185, ← e21]; first | rw [if_pos c188] | rw [if_neg c188]) | (rw [if_neg c130, if_neg c145, if_neg c160, if_neg c175, if_pos c206, ← e21, ← e29]; first | rw [if_pos (Or.inl c214)] | rw [if_pos (Or.inr c220)] | rw [if_neg (fun z => z.elim c214 c220)]) | (rw [if_neg c130, if_neg c145, if_neg c160, if_neg c175, if_neg c206, if_pos c239, e21]; rfl) | (rw [if_neg c130, if_neg c145, if_neg c160, if_neg c175, if_neg c206, if_neg c239, e29, e21]; rfl)))))
      · refine kr_aload_n h dX1_plain_110 rfl 5 rfl ?_
        refine kr_get h FX1ok 0 16 dX1_plain_111 flX1_61 rfl rfl (by decide) rfl rfl ?_
        refine kr_iload_n h dX1_plain_114 rfl 6 rfl ?_
        refine kr_zald h 8 1 dX1_plain_115 rfl rfl (hp) (fun v115 e115 => ?_)
        refine kr_if_eq h 128 dX1_plain_116 (by decide) (fun c116 => ?_) (fun c116 => ?_)
        · refine kr_iload h dX1_plain_128 4 rfl ?_
          refine kr_if_ne h 142 dX1_plain_130 (by decide) (fun c130 => ?_) (fun c130 => ?_)
          · refine kr_iload h dX1_plain_142 4 rfl ?_
            refine kr_iconst (v := 1) h dX1_plain_144 (by decide) ?_
            refine kr_icmp_ne h 157 dX1_plain_145 (by decide) (fun c145 => ?_) (fun c145 => ?_)
            · refine kr_iload h dX1_plain_157 4 rfl ?_
              refine kr_iconst (v := 2) h dX1_plain_159 (by decide) ?_
              refine kr_icmp_ne h 172 dX1_plain_160 (by decide) (fun c160 => ?_) (fun c160 => ?_)
              · refine kr_iload h dX1_plain_172 4 rfl ?_
                refine kr_iconst (v := 3) h dX1_plain_174 (by decide) ?_
                refine kr_icmp_ne h 202 dX1_plain_175 (by decide) (fun c175 => ?_) (fun c175 => ?_)
                · refine kr_iload h dX1_plain_202 4 rfl ?_
                  refine kr_bipush (v := 7) h dX1_plain_204 (by decide) ?_
                  refine kr_icmp_ne h 234 dX1_plain_206 (by decide) (fun c206 => ?_) (fun c206 => ?_)
                  · refine kr_aload_n h dX1_plain_234 rfl 5 rfl ?_
                    refine kr_iload_n h dX1_plain_235 rfl 6 rfl ?_
                    refine kr_iload h dX1_plain_236 4 rfl ?_
                    refine kr_iconst (v := 4) h dX1_plain_238 (by decide) ?_
                    refine kr_icmp_ne h 246 dX1_plain_239 (by decide) (fun c239 => ?_) (fun c239 => ?_)
                    · refine kr_iconst (v := 2) h dX1_plain_246 (by decide) ?_
                      refine kr_vA h (kc_rV h (m_suggest l D cI cZ cJ q x p 2 (by assumption)) mlX1_122 yvX1_suggest dX1_plain_247 rfl rfl ⟨Nat.le_of_ble_eq_true rfl, Nat.le_of_ble_eq_true rfl⟩ ⟨Nat.le_of_ble_eq_true rfl, Nat.le_of_ble_eq_true rfl⟩ (Nat.le_of_ble_eq_true rfl) [0, 1, 2, 3, 4, 5, 6, 7, 8, 9, 10, 11, 12, 13, 14, 15, 16, 17, 18, 19] rfl rfl 0 rfl rfl rfl) ?_
                      refine kr_aload_n h dX1_plain_250 rfl 5 rfl ?_
                      refine kr_get h FX1ok 0 21 dX1_plain_251 flX1_76 rfl rfl (by decide) rfl rfl ?_
                      refine kr_iload_n h dX1_plain_254 rfl 6 rfl ?_
                      refine kr_iload h dX1_plain_255 2 rfl ?_
                      refine kr_iast (ws' := wY cI cZ q (xA (ySug x p 2) 12 (upd ((ySug x p 2).1 12) (tn p) v21))) h 13 0 dX1_plain_257 rfl rfl (hp) (wY_r12 cI cZ q (ySug x p 2) _) ?_
                      refine kr_aload_n h dX1_plain_258 rfl 5 rfl ?_
                      refine kr_get h FX1ok 0 22 dX1_plain_259 flX1_79 rfl rfl (by decide) rfl rfl ?_
                      refine kr_iload_n h dX1_plain_262 rfl 6 rfl ?_
                      refine kr_iload h dX1_plain_263 4 rfl ?_
                      refine kr_iconst (v := 4) h dX1_plain_265 (by decide) ?_
                      refine kr_icmp_ne h 274 dX1_plain_266 (by decide) (fun c266 => ?_) (fun c266 => ?_)
                      · refine kr_iload h dX1_plain_274 1 rfl ?_
                        refine kr_iast (ws' := wY cI cZ q (xA (xA (ySug x p 2) 12 (upd ((ySug x p 2).1 12) (tn p) v21)) 13 (upd ((xA (ySug x p 2) 12 (upd ((ySug x p 2).1 12) (tn p) v21)).1 13) (tn p) v29))) h 14 0 dX1_plain_276 rfl rfl (hp) (wY_r13 cI cZ q (xA (ySug x p 2) 12 (upd ((ySug x p 2).1 12) (tn p) v21)) _) ?_
                        refine kr_aload_n h dX1_plain_277 rfl 5 rfl ?_
                        refine kr_get h FX1ok 0 23 dX1_plain_278 flX1_82 rfl rfl (by decide) rfl rfl ?_
                        refine kr_iload_n h dX1_plain_281 rfl 6 rfl ?_
                        refine kr_iload_n h dX1_plain_282 rfl 6 rfl ?_
                        refine kr_iast (ws' := wY cI cZ q (xA (xA (xA (ySug x p 2) 12 (upd ((ySug x p 2).1 12) (tn p) v21)) 13 (upd ((xA (ySug x p 2) 12 (upd ((ySug x p 2).1 12) (tn p) v21)).1 13) (tn p) v29)) 14 (upd ((xA (xA (ySug x p 2) 12 (upd ((ySug x p 2).1 12) (tn p) v21)) 13 (upd ((xA (ySug x p 2) 12 (upd ((ySug x p 2).1 12) (tn p) v21)).1 13) (tn p) v29)).1 14) (tn p) p))) h 15 0 dX1_plain_283 rfl rfl (hp) (wY_r14 cI cZ q (xA (xA (ySug x p 2) 12 (upd ((ySug x p 2).1 12) (tn p) v21)) 13 (upd ((xA (ySug x p 2) 12 (upd ((ySug x p 2).1 12) (tn p) v21)).1 13) (tn p) v29)) _) ?_
                        exact kr_vret h hr hlk dX1_plain_284 (congrArg _ (by first | exact absurd c239 c266 | exact absurd c266 c239 | (rw [yPlain, if_neg (fun z => c36 (e5.trans z))]; first | rw [if_neg (fun z => xb_f e94 c101 (by rw [e13]; exact z.1))] | rw [if_neg (fun z => c116 (e115.trans (z.2 (e5.symm.trans c107))))] | (rw [if_pos ⟨by have z := xb_t e94 c101; rw [e13] at z; exact z, fun z => by first | exact absurd (e5.trans z) c107 | exact e115.symm.trans c116⟩, ← e5]; first | rw [if_pos c130] | rw [if_neg c130, if_pos c145] | rw [if_neg c130, if_neg c145, if_pos c160] | (rw [if_neg c130, if_neg c145, if_neg c160, if_pos c175, ← e185, ← e21]; first | rw [if_pos c188] | rw [if_neg c188]) | (rw [if_neg c130, if_neg c145, if_neg c160, if_neg c175, if_pos c206, ← e21, ← e29]; first | rw [if_pos (Or.inl c214)] | rw [if_pos (Or.inr c220)] | rw [if_neg (fun z => z.elim c214 c220)]) | (rw [if_neg c130, if_neg c145, if_neg c160, if_neg c175, if_neg c206, if_pos c239, e21]; rfl) | (rw [if_neg c130, if_neg c145, if_neg c160, if_neg c175, if_neg c206, if_neg c239, e29, e21]; rfl)))))
                      · refine kr_iload h dX1_plain_269 2 rfl ?_
                        refine kr_goto h 276 dX1_plain_271 (by decide) ?_
                        refine kr_iast (ws' := wY cI cZ q (xA (xA (ySug x p 2) 12 (upd ((ySug x p 2).1 12) (tn p) v21)) 13 (upd ((xA (ySug x p 2) 12 (upd ((ySug x p 2).1 12) (tn p) v21)).1 13) (tn p) v21))) h 14 0 dX1_plain_276 rfl rfl (hp) (wY_r13 cI cZ q (xA (ySug x p 2) 12 (upd ((ySug x p 2).1 12) (tn p) v21)) _) ?_
                        refine kr_aload_n h dX1_plain_277 rfl 5 rfl ?_
                        refine kr_get h FX1ok 0 23 dX1_plain_278 flX1_82 rfl rfl (by decide) rfl rfl ?_
                        refine kr_iload_n h dX1_plain_281 rfl 6 rfl ?_
                        refine kr_iload_n h dX1_plain_282 rfl 6 rfl ?_
                        refine kr_iast (ws' := wY cI cZ q (xA (xA (xA (ySug x p 2) 12 (upd ((ySug x p 2).1 12) (tn p) v21)) 13 (upd ((xA (ySug x p 2) 12 (upd ((ySug x p 2).1 12) (tn p) v21)).1 13) (tn p) v21)) 14 (upd ((xA (xA (ySug x p 2) 12 (upd ((ySug x p 2).1 12) (tn p) v21)) 13 (upd ((xA (ySug x p 2) 12 (upd ((ySug x p 2).1 12) (tn p) v21)).1 13) (tn p) v21)).1 14) (tn p) p))) h 15 0 dX1_plain_283 rfl rfl (hp) (wY_r14 cI cZ q (xA (xA (ySug x p 2) 12 (upd ((ySug x p 2).1 12) (tn p) v21)) 13 (upd ((xA (ySug x p 2) 12 (upd ((ySug x p 2).1 12) (tn p) v21)).1 13) (tn p) v21)) _) ?_
                        exact kr_vret h hr hlk dX1_plain_284 (congrArg _ (by first | exact absurd c239 c266 | exact absurd c266 c239 | (rw [yPlain, if_neg (fun z => c36 (e5.trans z))]; first | rw [if_neg (fun z => xb_f e94 c101 (by rw [e13]; exact z.1))] | rw [if_neg (fun z => c116 (e115.trans (z.2 (e5.symm.trans c107))))] | (rw [if_pos ⟨by have z := xb_t e94 c101; rw [e13] at z; exact z, fun z => by first | exact absurd (e5.trans z) c107 | exact e115.symm.trans c116⟩, ← e5]; first | rw [if_pos c130] | rw [if_neg c130, if_pos c145] | rw [if_neg c130, if_neg c145, if_pos c160] | (rw [if_neg c130, if_neg c145, if_neg c160, if_pos c175, ← e185, ← e21]; first | rw [if_pos c188] | rw [if_neg c188]) | (rw [if_neg c130, if_neg c145, if_neg c160, if_neg c175, if_pos c206, ← e21, ← e29]; first | rw [if_pos (Or.inl c214)] | rw [if_pos (Or.inr c220)] | rw [if_neg (fun z => z.elim c214 c220)]) | (rw [if_neg c130, if_neg c145, if_neg c160, if_neg c175, if_neg c206, if_pos c239, e21]; rfl) | (rw [if_neg c130, if_neg c145, if_neg c160, if_neg c175, if_neg c206, if_neg c239, e29, e21]; rfl)))))
                    · refine kr_iconst (v := 3) h dX1_plain_242 (by decide) ?_
                      refine kr_goto h 247 dX1_plain_243 (by decide) ?_
                      refine kr_vA h (kc_rV h (m_suggest l D cI cZ cJ q x p 3 (by assumption)) mlX1_122 yvX1_suggest dX1_plain_247 rfl rfl ⟨Nat.le_of_ble_eq_true rfl, Nat.le_of_ble_eq_true rfl⟩ ⟨Nat.le_of_ble_eq_true rfl, Nat.le_of_ble_eq_true rfl⟩ (Nat.le_of_ble_eq_true rfl) [0, 1, 2, 3, 4, 5, 6, 7, 8, 9, 10, 11, 12, 13, 14, 15, 16, 17, 18, 19] rfl rfl 0 rfl rfl rfl) ?_
                      refine kr_aload_n h dX1_plain_250 rfl 5 rfl ?_
                      refine kr_get h FX1ok 0 21 dX1_plain_251 flX1_76 rfl rfl (by decide) rfl rfl ?_
                      refine kr_iload_n h dX1_plain_254 rfl 6 rfl ?_
                      refine kr_iload h dX1_plain_255 2 rfl ?_
                      refine kr_iast (ws' := wY cI cZ q (xA (ySug x p 3) 12 (upd ((ySug x p 3).1 12) (tn p) v21))) h 13 0 dX1_plain_257 rfl rfl (hp) (wY_r12 cI cZ q (ySug x p 3) _) ?_
                      refine kr_aload_n h dX1_plain_258 rfl 5 rfl ?_
                      refine kr_get h FX1ok 0 22 dX1_plain_259 flX1_79 rfl rfl (by decide) rfl rfl ?_
                      refine kr_iload_n h dX1_plain_262 rfl 6 rfl ?_
                      refine kr_iload h dX1_plain_263 4 rfl ?_
                      refine kr_iconst (v := 4) h dX1_plain_265 (by decide) ?_
                      refine kr_icmp_ne h 274 dX1_plain_266 (by decide) (fun c266 => ?_) (fun c266 => ?_)
                      · refine kr_iload h dX1_plain_274 1 rfl ?_
                        refine kr_iast (ws' := wY cI cZ q (xA (xA (ySug x p 3) 12 (upd ((ySug x p 3).1 12) (tn p) v21)) 13 (upd ((xA (ySug x p 3) 12 (upd ((ySug x p 3).1 12) (tn p) v21)).1 13) (tn p) v29))) h 14 0 dX1_plain_276 rfl rfl (hp) (wY_r13 cI cZ q (xA (ySug x p 3) 12 (upd ((ySug x p 3).1 12) (tn p) v21)) _) ?_
                        refine kr_aload_n h dX1_plain_277 rfl 5 rfl ?_
                        refine kr_get h FX1ok 0 23 dX1_plain_278 flX1_82 rfl rfl (by decide) rfl rfl ?_
                        refine kr_iload_n h dX1_plain_281 rfl 6 rfl ?_
                        refine kr_iload_n h dX1_plain_282 rfl 6 rfl ?_
                        refine kr_iast (ws' := wY cI cZ q (xA (xA (xA (ySug x p 3) 12 (upd ((ySug x p 3).1 12) (tn p) v21)) 13 (upd ((xA (ySug x p 3) 12 (upd ((ySug x p 3).1 12) (tn p) v21)).1 13) (tn p) v29)) 14 (upd ((xA (xA (ySug x p 3) 12 (upd ((ySug x p 3).1 12) (tn p) v21)) 13 (upd ((xA (ySug x p 3) 12 (upd ((ySug x p 3).1 12) (tn p) v21)).1 13) (tn p) v29)).1 14) (tn p) p))) h 15 0 dX1_plain_283 rfl rfl (hp) (wY_r14 cI cZ q (xA (xA (ySug x p 3) 12 (upd ((ySug x p 3).1 12) (tn p) v21)) 13 (upd ((xA (ySug x p 3) 12 (upd ((ySug x p 3).1 12) (tn p) v21)).1 13) (tn p) v29)) _) ?_
                        exact kr_vret h hr hlk dX1_plain_284 (congrArg _ (by first | exact absurd c239 c266 | exact absurd c266 c239 | (rw [yPlain, if_neg (fun z => c36 (e5.trans z))]; first | rw [if_neg (fun z => xb_f e94 c101 (by rw [e13]; exact z.1))] | rw [if_neg (fun z => c116 (e115.trans (z.2 (e5.symm.trans c107))))] | (rw [if_pos ⟨by have z := xb_t e94 c101; rw [e13] at z; exact z, fun z => by first | exact absurd (e5.trans z) c107 | exact e115.symm.trans c116⟩, ← e5]; first | rw [if_pos c130] | rw [if_neg c130, if_pos c145] | rw [if_neg c130, if_neg c145, if_pos c160] | (rw [if_neg c130, if_neg c145, if_neg c160, if_pos c175, ← e185, ← e21]; first | rw [if_pos c188] | rw [if_neg c188]) | (rw [if_neg c130, if_neg c145, if_neg c160, if_neg c175, if_pos c206, ← e21, ← e29]; first | rw [if_pos (Or.inl c214)] | rw [if_pos (Or.inr c220)] | rw [if_neg (fun z => z.elim c214 c220)]) | (rw [if_neg c130, if_neg c145, if_neg c160, if_neg c175, if_neg c206, if_pos c239, e21]; rfl) | (rw [if_neg c130, if_neg c145, if_neg c160, if_neg c175, if_neg c206, if_neg c239, e29, e21]; rfl)))))
                      · refine kr_iload h dX1_plain_269 2 rfl ?_
                        refine kr_goto h 276 dX1_plain_271 (by decide) ?_
                        refine kr_iast (ws' := wY cI cZ q (xA (xA (ySug x p 3) 12 (upd ((ySug x p 3).1 12) (tn p) v21)) 13 (upd ((xA (ySug x p 3) 12 (upd ((ySug x p 3).1 12) (tn p) v21)).1 13) (tn p) v21))) h 14 0 dX1_plain_276 rfl rfl (hp) (wY_r13 cI cZ q (xA (ySug x p 3) 12 (upd ((ySug x p 3).1 12) (tn p) v21)) _) ?_
                        refine kr_aload_n h dX1_plain_277 rfl 5 rfl ?_
                        refine kr_get h FX1ok 0 23 dX1_plain_278 flX1_82 rfl rfl (by decide) rfl rfl ?_
                        refine kr_iload_n h dX1_plain_281 rfl 6 rfl ?_
                        refine kr_iload_n h dX1_plain_282 rfl 6 rfl ?_
                        refine kr_iast (ws' := wY cI cZ q (xA (xA (xA (ySug x p 3) 12 (upd ((ySug x p 3).1 12) (tn p) v21)) 13 (upd ((xA (ySug x p 3) 12 (upd ((ySug x p 3).1 12) (tn p) v21)).1 13) (tn p) v21)) 14 (upd ((xA (xA (ySug x p 3) 12 (upd ((ySug x p 3).1 12) (tn p) v21)) 13 (upd ((xA (ySug x p 3) 12 (upd ((ySug x p 3).1 12) (tn p) v21)).1 13) (tn p) v21)).1 14) (tn p) p))) h 15 0 dX1_plain_283 rfl rfl (hp) (wY_r14 cI cZ q (xA (xA (ySug x p 3) 12 (upd ((ySug x p 3).1 12) (tn p) v21)) 13 (upd ((xA (ySug x p 3) 12 (upd ((ySug x p 3).1 12) (tn p) v21)).1 13) (tn p) v21)) _) ?_
                        exact kr_vret h hr hlk dX1_plain_284 (congrArg _ (by first | exact absurd c239 c266 | exact absurd c266 c239 | (rw [yPlain, if_neg (fun z => c36 (e5.trans z))]; first | rw [if_neg (fun z => xb_f e94 c101 (by rw [e13]; exact z.1))] | rw [if_neg (fun z => c116 (e115.trans (z.2 (e5.symm.trans c107))))] | (rw [if_pos ⟨by have z := xb_t e94 c101; rw [e13] at z; exact z, fun z => by first | exact absurd (e5.trans z) c107 | exact e115.symm.trans c116⟩, ← e5]; first | rw [if_pos c130] | rw [if_neg c130, if_pos c145] | rw [if_neg c130, if_neg c145, if_pos c160] | (rw [if_neg c130, if_neg c145, if_neg c160, if_pos c175, ← e185, ← e21]; first | rw [if_pos c188] | rw [if_neg c188]) | (rw [if_neg c130, if_neg c145, if_neg c160, if_neg c175, if_pos c206, ← e21, ← e29]; first | rw [if_pos (Or.inl c214)] | rw [if_pos (Or.inr c220)] | rw [if_neg (fun z => z.elim c214 c220)]) | (rw [if_neg c130, if_neg c145, if_neg c160, if_neg c175, if_neg c206, if_pos c239, e21]; rfl) | (rw [if_neg c130, if_neg c145, if_neg c160, if_neg c175, if_neg c206, if_neg c239, e29, e21]; rfl)))))
                  · refine kr_aload_n h dX1_plain_209 rfl 5 rfl ?_
                    refine kr_iload_n h dX1_plain_210 rfl 6 rfl ?_
                    refine kr_iload h dX1_plain_211 2 rfl ?_
                    refine kr_iload_n h dX1_plain_213 rfl 8 rfl ?_
                    refine kr_icmp_gt h 227 dX1_plain_214 (by decide) (fun c214 => ?_) (fun c214 => ?_)
                    · refine kr_iconst (v := 4) h dX1_plain_227 (by decide) ?_
                      refine kr_vA h (kc_rV h (m_suggest l D cI cZ cJ q x p 4 (by assumption)) mlX1_122 yvX1_suggest dX1_plain_228 rfl rfl ⟨Nat.le_of_ble_eq_true rfl, Nat.le_of_ble_eq_true rfl⟩ ⟨Nat.le_of_ble_eq_true rfl, Nat.le_of_ble_eq_true rfl⟩ (Nat.le_of_ble_eq_true rfl) [0, 1, 2, 3, 4, 5, 6, 7, 8, 9, 10, 11, 12, 13, 14, 15, 16, 17, 18, 19] rfl rfl 0 rfl rfl rfl) ?_
                      refine kr_goto h 284 dX1_plain_231 (by decide) ?_
                      exact kr_vret h hr hlk dX1_plain_284 (congrArg _ (by first | exact absurd c239 c266 | exact absurd c266 c239 | (rw [yPlain, if_neg (fun z => c36 (e5.trans z))]; first | rw [if_neg (fun z => xb_f e94 c101 (by rw [e13]; exact z.1))] | rw [if_neg (fun z => c116 (e115.trans (z.2 (e5.symm.trans c107))))] | (rw [if_pos ⟨by have z := xb_t e94 c101; rw [e13] at z; exact z, fun z => by first | exact absurd (e5.trans z) c107 | exact e115.symm.trans c116⟩, ← e5]; first | rw [if_pos c130] | rw [if_neg c130, if_pos c145] | rw [if_neg c130, if_neg c145, if_pos c160] | (rw [if_neg c130, if_neg c145, if_neg c160, if_pos c175, ← e185, ← e21]; first | rw [if_pos c188] | rw [if_neg c188]) | (rw [if_neg c130, if_neg c145, if_neg c160, if_neg c175, if_pos c206, ← e21, ← e29]; first | rw [if_pos (Or.inl c214)] | rw [if_pos (Or.inr c220)] | rw [if_neg (fun z => z.elim c214 c220)]) | (rw [if_neg c130, if_neg c145, if_neg c160, if_neg c175, if_neg c206, if_pos c239, e21]; rfl) | (rw [if_neg c130, if_neg c145, if_neg c160, if_neg c175, if_neg c206, if_neg c239, e29, e21]; rfl)))))
                    · refine kr_iload_n h dX1_plain_217 rfl 8 rfl ?_
                      refine kr_iload h dX1_plain_218 1 rfl ?_
                      refine kr_icmp_gt h 227 dX1_plain_220 (by decide) (fun c220 => ?_) (fun c220 => ?_)
                      · refine kr_iconst (v := 4) h dX1_plain_227 (by decide) ?_
                        refine kr_vA h (kc_rV h (m_suggest l D cI cZ cJ q x p 4 (by assumption)) mlX1_122 yvX1_suggest dX1_plain_228 rfl rfl ⟨Nat.le_of_ble_eq_true rfl, Nat.le_of_ble_eq_true rfl⟩ ⟨Nat.le_of_ble_eq_true rfl, Nat.le_of_ble_eq_true rfl⟩ (Nat.le_of_ble_eq_true rfl) [0, 1, 2, 3, 4, 5, 6, 7, 8, 9, 10, 11, 12, 13, 14, 15, 16, 17, 18, 19] rfl rfl 0 rfl rfl rfl) ?_
                        refine kr_goto h 284 dX1_plain_231 (by decide) ?_
                        exact kr_vret h hr hlk dX1_plain_284 (congrArg _ (by first | exact absurd c239 c266 | exact absurd c266 c239 | (rw [yPlain, if_neg (fun z => c36 (e5.trans z))]; first | rw [if_neg (fun z => xb_f e94 c101 (by rw [e13]; exact z.1))] | rw [if_neg (fun z => c116 (e115.trans (z.2 (e5.symm.trans c107))))] | (rw [if_pos ⟨by have z := xb_t e94 c101; rw [e13] at z; exact z, fun z => by first | exact absurd (e5.trans z) c107 | exact e115.symm.trans c116⟩, ← e5]; first | rw [if_pos c130] | rw [if_neg c130, if_pos c145] | rw [if_neg c130, if_neg c145, if_pos c160] | (rw [if_neg c130, if_neg c145, if_neg c160, if_pos c175, ← e185, ← e21]; first | rw [if_pos c188] | rw [if_neg c188]) | (rw [if_neg c130, if_neg c145, if_neg c160, if_neg c175, if_pos c206, ← e21, ← e29]; first | rw [if_pos (Or.inl c214)] | rw [if_pos (Or.inr c220)] | rw [if_neg (fun z => z.elim c214 c220)]) | (rw [if_neg c130, if_neg c145, if_neg c160, if_neg c175, if_neg c206, if_pos c239, e21]; rfl) | (rw [if_neg c130, if_neg c145, if_neg c160, if_neg c175, if_neg c206, if_neg c239, e29, e21]; rfl)))))
                      · refine kr_iconst (v := 1) h dX1_plain_223 (by decide) ?_
                        refine kr_goto h 228 dX1_plain_224 (by decide) ?_
                        refine kr_vA h (kc_rV h (m_suggest l D cI cZ cJ q x p 1 (by assumption)) mlX1_122 yvX1_suggest dX1_plain_228 rfl rfl ⟨Nat.le_of_ble_eq_true rfl, Nat.le_of_ble_eq_true rfl⟩ ⟨Nat.le_of_ble_eq_true rfl, Nat.le_of_ble_eq_true rfl⟩ (Nat.le_of_ble_eq_true rfl) [0, 1, 2, 3, 4, 5, 6, 7, 8, 9, 10, 11, 12, 13, 14, 15, 16, 17, 18, 19] rfl rfl 0 rfl rfl rfl) ?_
                        refine kr_goto h 284 dX1_plain_231 (by decide) ?_
                        exact kr_vret h hr hlk dX1_plain_284 (congrArg _ (by first | exact absurd c239 c266 | exact absurd c266 c239 | (rw [yPlain, if_neg (fun z => c36 (e5.trans z))]; first | rw [if_neg (fun z => xb_f e94 c101 (by rw [e13]; exact z.1))] | rw [if_neg (fun z => c116 (e115.trans (z.2 (e5.symm.trans c107))))] | (rw [if_pos ⟨by have z := xb_t e94 c101; rw [e13] at z; exact z, fun z => by first | exact absurd (e5.trans z) c107 | exact e115.symm.trans c116⟩, ← e5]; first | rw [if_pos c130] | rw [if_neg c130, if_pos c145] | rw [if_neg c130, if_neg c145, if_pos c160] | (rw [if_neg c130, if_neg c145, if_neg c160, if_pos c175, ← e185, ← e21]; first | rw [if_pos c188] | rw [if_neg c188]) | (rw [if_neg c130, if_neg c145, if_neg c160, if_neg c175, if_pos c206, ← e21, ← e29]; first | rw [if_pos (Or.inl c214)] | rw [if_pos (Or.inr c220)] | rw [if_neg (fun z => z.elim c214 c220)]) | (rw [if_neg c130, if_neg c145, if_neg c160, if_neg c175, if_neg c206, if_pos c239, e21]; rfl) | (rw [if_neg c130, if_neg c145, if_neg c160, if_neg c175, if_neg c206, if_neg c239, e29, e21]; rfl)))))
                · refine kr_aload_n h dX1_plain_178 rfl 5 rfl ?_
                  refine kr_iload_n h dX1_plain_179 rfl 6 rfl ?_
                  refine kr_aload_n h dX1_plain_180 rfl 5 rfl ?_
                  refine kr_get h FX1ok 0 14 dX1_plain_181 flX1_54 rfl rfl (by decide) rfl rfl ?_
                  refine kr_iload_n h dX1_plain_184 rfl 6 rfl ?_
                  refine kr_iald h 6 0 dX1_plain_185 rfl rfl (hp) (fun v185 e185 => ?_)
                  refine kr_iload h dX1_plain_186 2 rfl ?_
                  refine kr_icmp_ge h 195 dX1_plain_188 (by decide) (fun c188 => ?_) (fun c188 => ?_)
                  · refine kr_iconst (v := 4) h dX1_plain_195 (by decide) ?_
                    refine kr_vA h (kc_rV h (m_suggest l D cI cZ cJ q x p 4 (by assumption)) mlX1_122 yvX1_suggest dX1_plain_196 rfl rfl ⟨Nat.le_of_ble_eq_true rfl, Nat.le_of_ble_eq_true rfl⟩ ⟨Nat.le_of_ble_eq_true rfl, Nat.le_of_ble_eq_true rfl⟩ (Nat.le_of_ble_eq_true rfl) [0, 1, 2, 3, 4, 5, 6, 7, 8, 9, 10, 11, 12, 13, 14, 15, 16, 17, 18, 19] rfl rfl 0 rfl rfl rfl) ?_
                    refine kr_goto h 284 dX1_plain_199 (by decide) ?_
                    exact kr_vret h hr hlk dX1_plain_284 (congrArg _ (by first | exact absurd c239 c266 | exact absurd c266 c239 | (rw [yPlain, if_neg (fun z => c36 (e5.trans z))]; first | rw [if_neg (fun z => xb_f e94 c101 (by rw [e13]; exact z.1))] | rw [if_neg (fun z => c116 (e115.trans (z.2 (e5.symm.trans c107))))] | (rw [if_pos ⟨by have z := xb_t e94 c101; rw [e13] at z; exact z, fun z => by first | exact absurd (e5.trans z) c107 | exact e115.symm.trans c116⟩, ← e5]; first | rw [if_pos c130] | rw [if_neg c130, if_pos c145] | rw [if_neg c130, if_neg c145, if_pos c160] | (rw [if_neg c130, if_neg c145, if_neg c160, if_pos c175, ← e185, ← e21]; first | rw [if_pos c188] | rw [if_neg c188]) | (rw [if_neg c130, if_neg c145, if_neg c160, if_neg c175, if_pos c206, ← e21, ← e29]; first | rw [if_pos (Or.inl c214)] | rw [if_pos (Or.inr c220)] | rw [if_neg (fun z => z.elim c214 c220)]) | (rw [if_neg c130, if_neg c145, if_neg c160, if_neg c175, if_neg c206, if_pos c239, e21]; rfl) | (rw [if_neg c130, if_neg c145, if_neg c160, if_neg c175, if_neg c206, if_neg c239, e29, e21]; rfl)))))
                  · refine kr_iconst (v := 1) h dX1_plain_191 (by decide) ?_
                    refine kr_goto h 196 dX1_plain_192 (by decide) ?_
                    refine kr_vA h (kc_rV h (m_suggest l D cI cZ cJ q x p 1 (by assumption)) mlX1_122 yvX1_suggest dX1_plain_196 rfl rfl ⟨Nat.le_of_ble_eq_true rfl, Nat.le_of_ble_eq_true rfl⟩ ⟨Nat.le_of_ble_eq_true rfl, Nat.le_of_ble_eq_true rfl⟩ (Nat.le_of_ble_eq_true rfl) [0, 1, 2, 3, 4, 5, 6, 7, 8, 9, 10, 11, 12, 13, 14, 15, 16, 17, 18, 19] rfl rfl 0 rfl rfl rfl) ?_
                    refine kr_goto h 284 dX1_plain_199 (by decide) ?_
                    exact kr_vret h hr hlk dX1_plain_284 (congrArg _ (by first | exact absurd c239 c266 | exact absurd c266 c239 | (rw [yPlain, if_neg (fun z => c36 (e5.trans z))]; first | rw [if_neg (fun z => xb_f e94 c101 (by rw [e13]; exact z.1))] | rw [if_neg (fun z => c116 (e115.trans (z.2 (e5.symm.trans c107))))] | (rw [if_pos ⟨by have z := xb_t e94 c101; rw [e13] at z; exact z, fun z => by first | exact absurd (e5.trans z) c107 | exact e115.symm.trans c116⟩, ← e5]; first | rw [if_pos c130] | rw [if_neg c130, if_pos c145] | rw [if_neg c130, if_neg c145, if_pos c160] | (rw [if_neg c130, if_neg c145, if_neg c160, if_pos c175, ← e185, ← e21]; first | rw [if_pos c188] | rw [if_neg c188]) | (rw [if_neg c130, if_neg c145, if_neg c160, if_neg c175, if_pos c206, ← e21, ← e29]; first | rw [if_pos (Or.inl c214)] | rw [if_pos (Or.inr c220)] | rw [if_neg (fun z => z.elim c214 c220)]) | (rw [if_neg c130, if_neg c145, if_neg c160, if_neg c175, if_neg c206, if_pos c239, e21]; rfl) | (rw [if_neg c130, if_neg c145, if_neg c160, if_neg c175, if_neg c206, if_neg c239, e29, e21]; rfl)))))
              · refine kr_aload_n h dX1_plain_163 rfl 5 rfl ?_
                refine kr_iload_n h dX1_plain_164 rfl 6 rfl ?_
                refine kr_iconst (v := 5) h dX1_plain_165 (by decide) ?_
                refine kr_vA h (kc_rV h (m_suggest l D cI cZ cJ q x p 5 (by assumption)) mlX1_122 yvX1_suggest dX1_plain_166 rfl rfl ⟨Nat.le_of_ble_eq_true rfl, Nat.le_of_ble_eq_true rfl⟩ ⟨Nat.le_of_ble_eq_true rfl, Nat.le_of_ble_eq_true rfl⟩ (Nat.le_of_ble_eq_true rfl) [0, 1, 2, 3, 4, 5, 6, 7, 8, 9, 10, 11, 12, 13, 14, 15, 16, 17, 18, 19] rfl rfl 0 rfl rfl rfl) ?_
                refine kr_goto h 284 dX1_plain_169 (by decide) ?_
                exact kr_vret h hr hlk dX1_plain_284 (congrArg _ (by first | exact absurd c239 c266 | exact absurd c266 c239 | (rw [yPlain, if_neg (fun z => c36 (e5.trans z))]; first | rw [if_neg (fun z => xb_f e94 c101 (by rw [e13]; exact z.1))] | rw [if_neg (fun z => c116 (e115.trans (z.2 (e5.symm.trans c107))))] | (rw [if_pos ⟨by have z := xb_t e94 c101; rw [e13] at z; exact z, fun z => by first | exact absurd (e5.trans z) c107 | exact e115.symm.trans c116⟩, ← e5]; first | rw [if_pos c130] | rw [if_neg c130, if_pos c145] | rw [if_neg c130, if_neg c145, if_pos c160] | (rw [if_neg c130, if_neg c145, if_neg c160, if_pos c175, ← e185, ← e21]; first | rw [if_pos c188] | rw [if_neg c188]) | (rw [if_neg c130, if_neg c145, if_neg c160, if_neg c175, if_pos c206, ← e21, ← e29]; first | rw [if_pos (Or.inl c214)] | rw [if_pos (Or.inr c220)] | rw [if_neg (fun z => z.elim c214 c220)]) | (rw [if_neg c130, if_neg c145, if_neg c160, if_neg c175, if_neg c206, if_pos c239, e21]; rfl) | (rw [if_neg c130, if_neg c145, if_neg c160, if_neg c175, if_neg c206, if_neg c239, e29, e21]; rfl)))))
            · refine kr_aload_n h dX1_plain_148 rfl 5 rfl ?_
              refine kr_iload_n h dX1_plain_149 rfl 6 rfl ?_
              refine kr_iconst (v := 4) h dX1_plain_150 (by decide) ?_
              refine kr_vA h (kc_rV h (m_suggest l D cI cZ cJ q x p 4 (by assumption)) mlX1_122 yvX1_suggest dX1_plain_151 rfl rfl ⟨Nat.le_of_ble_eq_true rfl, Nat.le_of_ble_eq_true rfl⟩ ⟨Nat.le_of_ble_eq_true rfl, Nat.le_of_ble_eq_true rfl⟩ (Nat.le_of_ble_eq_true rfl) [0, 1, 2, 3, 4, 5, 6, 7, 8, 9, 10, 11, 12, 13, 14, 15, 16, 17, 18, 19] rfl rfl 0 rfl rfl rfl) ?_
              refine kr_goto h 284 dX1_plain_154 (by decide) ?_
              exact kr_vret h hr hlk dX1_plain_284 (congrArg _ (by first | exact absurd c239 c266 | exact absurd c266 c239 | (rw [yPlain, if_neg (fun z => c36 (e5.trans z))]; first | rw [if_neg (fun z => xb_f e94 c101 (by rw [e13]; exact z.1))] | rw [if_neg (fun z => c116 (e115.trans (z.2 (e5.symm.trans c107))))] | (rw [if_pos ⟨by have z := xb_t e94 c101; rw [e13] at z; exact z, fun z => by first | exact absurd (e5.trans z) c107 | exact e115.symm.trans c116⟩, ← e5]; first | rw [if_pos c130] | rw [if_neg c130, if_pos c145] | rw [if_neg c130, if_neg c145, if_pos c160] | (rw [if_neg c130, if_neg c145, if_neg c160, if_pos c175, ← e185, ← e21]; first | rw [if_pos c188] | rw [if_neg c188]) | (rw [if_neg c130, if_neg c145, if_neg c160, if_neg c175, if_pos c206, ← e21, ← e29]; first | rw [if_pos (Or.inl c214)] | rw [if_pos (Or.inr c220)] | rw [if_neg (fun z => z.elim c214 c220)]) | (rw [if_neg c130, if_neg c145, if_neg c160, if_neg c175, if_neg c206, if_pos c239, e21]; rfl) | (rw [if_neg c130, if_neg c145, if_neg c160, if_neg c175, if_neg c206, if_neg c239, e29, e21]; rfl)))))
          · refine kr_aload_n h dX1_plain_133 rfl 5 rfl ?_
            refine kr_iload_n h dX1_plain_134 rfl 6 rfl ?_
            refine kr_iconst (v := 1) h dX1_plain_135 (by decide) ?_
            refine kr_vA h (kc_rV h (m_suggest l D cI cZ cJ q x p 1 (by assumption)) mlX1_122 yvX1_suggest dX1_plain_136 rfl rfl ⟨Nat.le_of_ble_eq_true rfl, Nat.le_of_ble_eq_true rfl⟩ ⟨Nat.le_of_ble_eq_true rfl, Nat.le_of_ble_eq_true rfl⟩ (Nat.le_of_ble_eq_true rfl) [0, 1, 2, 3, 4, 5, 6, 7, 8, 9, 10, 11, 12, 13, 14, 15, 16, 17, 18, 19] rfl rfl 0 rfl rfl rfl) ?_
            refine kr_goto h 284 dX1_plain_139 (by decide) ?_
            exact kr_vret h hr hlk dX1_plain_284 (congrArg _ (by first | exact absurd c239 c266 | exact absurd c266 c239 | (rw [yPlain, if_neg (fun z => c36 (e5.trans z))]; first | rw [if_neg (fun z => xb_f e94 c101 (by rw [e13]; exact z.1))] | rw [if_neg (fun z => c116 (e115.trans (z.2 (e5.symm.trans c107))))] | (rw [if_pos ⟨by have z := xb_t e94 c101; rw [e13] at z; exact z, fun z => by first | exact absurd (e5.trans z) c107 | exact e115.symm.trans c116⟩, ← e5]; first | rw [if_pos c130] | rw [if_neg c130, if_pos c145] | rw [if_neg c130, if_neg c145, if_pos c160] | (rw [if_neg c130, if_neg c145, if_neg c160, if_pos c175, ← e185, ← e21]; first | rw [if_pos c188] | rw [if_neg c188]) | (rw [if_neg c130, if_neg c145, if_neg c160, if_neg c175, if_pos c206, ← e21, ← e29]; first | rw [if_pos (Or.inl c214)] | rw [if_pos (Or.inr c220)] | rw [if_neg (fun z => z.elim c214 c220)]) | (rw [if_neg c130, if_neg c145, if_neg c160, if_neg c175, if_neg c206, if_pos c239, e21]; rfl) | (rw [if_neg c130, if_neg c145, if_neg c160, if_neg c175, if_neg c206, if_neg c239, e29, e21]; rfl)))))
        · refine kr_aload_n h dX1_plain_119 rfl 5 rfl ?_
          refine kr_iload_n h dX1_plain_120 rfl 6 rfl ?_
          refine kr_iconst (v := 0) h dX1_plain_121 (by decide) ?_
          refine kr_vA h (kc_rV h (m_suggest l D cI cZ cJ q x p 0 (by assumption)) mlX1_122 yvX1_suggest dX1_plain_122 rfl rfl ⟨Nat.le_of_ble_eq_true rfl, Nat.le_of_ble_eq_true rfl⟩ ⟨Nat.le_of_ble_eq_true rfl, Nat.le_of_ble_eq_true rfl⟩ (Nat.le_of_ble_eq_true rfl) [0, 1, 2, 3, 4, 5, 6, 7, 8, 9, 10, 11, 12, 13, 14, 15, 16, 17, 18, 19] rfl rfl 0 rfl rfl rfl) ?_
          refine kr_goto h 284 dX1_plain_125 (by decide) ?_
          exact kr_vret h hr hlk dX1_plain_284 (congrArg _ (by first | exact absurd c239 c266 | exact absurd c266 c239 | (rw [yPlain, if_neg (fun z => c36 (e5.trans z))]; first | rw [if_neg (fun z => xb_f e94 c101 (by rw [e13]; exact z.1))] | rw [if_neg (fun z => c116 (e115.trans (z.2 (e5.symm.trans c107))))] | (rw [if_pos ⟨by have z := xb_t e94 c101; rw [e13] at z; exact z, fun z => by first | exact absurd (e5.trans z) c107 | exact e115.symm.trans c116⟩, ← e5]; first | rw [if_pos c130] | rw [if_neg c130, if_pos c145] | rw [if_neg c130, if_neg c145, if_pos c160] | (rw [if_neg c130, if_neg c145, if_neg c160, if_pos c175, ← e185, ← e21]; first | rw [if_pos c188] | rw [if_neg c188]) | (rw [if_neg c130, if_neg c145, if_neg c160, if_neg c175, if_pos c206, ← e21, ← e29]; first | rw [if_pos (Or.inl c214)] | rw [if_pos (Or.inr c220)] | rw [if_neg (fun z => z.elim c214 c220)]) | (rw [if_neg c130, if_neg c145, if_neg c160, if_neg c175, if_neg c206, if_pos c239, e21]; rfl) | (rw [if_neg c130, if_neg c145, if_neg c160, if_neg c175, if_neg c206, if_neg c239, e29, e21]; rfl)))))
  · refine kr_aload_n h dX1_plain_39 rfl 4 rfl ?_
    refine kr_get h FX1ok 0 17 dX1_plain_40 flX1_64 rfl rfl (by decide) rfl rfl ?_
    refine kr_iload h dX1_plain_43 2 rfl ?_
    refine kr_bipush (v := 32) h dX1_plain_45 (by decide) ?_
    refine kr_imul h dX1_plain_47 (fun v47 e47 => ?_)
    refine kr_aload_n h dX1_plain_48 rfl 4 rfl ?_
    refine kr_get h FX1ok 0 14 dX1_plain_49 flX1_54 rfl rfl (by decide) rfl rfl ?_
    refine kr_iload_n h dX1_plain_52 rfl 5 rfl ?_
    refine kr_iald h 6 0 dX1_plain_53 rfl rfl (hp) (fun v53 e53 => ?_)
    refine kr_bipush (v := 8) h dX1_plain_54 (by decide) ?_
    refine kr_imul h dX1_plain_56 (fun v56 e56 => ?_)
    refine kr_iadd h dX1_plain_57 (fun v57 e57 => ?_)
    refine kr_iload_n h dX1_plain_58 rfl 6 rfl ?_
    refine kr_iadd h dX1_plain_59 (fun v59 e59 => ?_)
    refine kr_iald h 9 0 dX1_plain_60 rfl rfl (by rw [e59, e57, e47, e56, e53, e13]; exact h6 (e5.symm.trans c36)) (fun v60 e60 => ?_)
    refine kr_istore (lv' := [(8, .int v60), (7, .int v29), (6, .int v21), (5, .int v13), (4, .int v5), (0, .ref (q 0)), (1, .int p), (2, .int s), (3, .int v)]) h dX1_plain_61 (by decide) rfl ?_
    refine kr_aload_n h dX1_plain_63 rfl 5 rfl ?_
    refine kr_iload_n h dX1_plain_64 rfl 6 rfl ?_
    refine kr_iload h dX1_plain_65 0 rfl ?_
    refine kr_iconst (v := 4) h dX1_plain_67 (by decide) ?_
    refine kr_icmp_ge h 75 dX1_plain_68 (by decide) (fun c68 => ?_) (fun c68 => ?_)
    · refine kr_iload h dX1_plain_75 0 rfl ?_
      refine kr_iconst (v := 4) h dX1_plain_77 (by decide) ?_
      refine kr_icmp_ne h 85 dX1_plain_78 (by decide) (fun c78 => ?_) (fun c78 => ?_)
      · refine kr_iconst (v := 0) h dX1_plain_85 (by decide) ?_
        refine kr_vA h (kc_rV h (m_suggest l D cI cZ cJ q x p 0 (by assumption)) mlX1_122 yvX1_suggest dX1_plain_86 rfl rfl ⟨Nat.le_of_ble_eq_true rfl, Nat.le_of_ble_eq_true rfl⟩ ⟨Nat.le_of_ble_eq_true rfl, Nat.le_of_ble_eq_true rfl⟩ (Nat.le_of_ble_eq_true rfl) [0, 1, 2, 3, 4, 5, 6, 7, 8, 9, 10, 11, 12, 13, 14, 15, 16, 17, 18, 19] rfl rfl 0 rfl rfl rfl) ?_
        exact kr_vret h hr hlk dX1_plain_89 (congrArg _ (by rw [yPlain, if_pos (e5.symm.trans c36), ← show v60 = yEnt x p s by rw [e60, e59, e57, e47, e56, e53, e13]; rfl]; first | rw [if_neg c68] | rw [if_pos c68, if_pos c78] | rw [if_pos c68, if_neg c78]))
      · refine kr_iconst (v := 4) h dX1_plain_81 (by decide) ?_
        refine kr_goto h 86 dX1_plain_82 (by decide) ?_
        refine kr_vA h (kc_rV h (m_suggest l D cI cZ cJ q x p 4 (by assumption)) mlX1_122 yvX1_suggest dX1_plain_86 rfl rfl ⟨Nat.le_of_ble_eq_true rfl, Nat.le_of_ble_eq_true rfl⟩ ⟨Nat.le_of_ble_eq_true rfl, Nat.le_of_ble_eq_true rfl⟩ (Nat.le_of_ble_eq_true rfl) [0, 1, 2, 3, 4, 5, 6, 7, 8, 9, 10, 11, 12, 13, 14, 15, 16, 17, 18, 19] rfl rfl 0 rfl rfl rfl) ?_
        exact kr_vret h hr hlk dX1_plain_89 (congrArg _ (by rw [yPlain, if_pos (e5.symm.trans c36), ← show v60 = yEnt x p s by rw [e60, e59, e57, e47, e56, e53, e13]; rfl]; first | rw [if_neg c68] | rw [if_pos c68, if_pos c78] | rw [if_pos c68, if_neg c78]))
    · refine kr_iconst (v := 1) h dX1_plain_71 (by decide) ?_
      refine kr_goto h 86 dX1_plain_72 (by decide) ?_
      refine kr_vA h (kc_rV h (m_suggest l D cI cZ cJ q x p 1 (by assumption)) mlX1_122 yvX1_suggest dX1_plain_86 rfl rfl ⟨Nat.le_of_ble_eq_true rfl, Nat.le_of_ble_eq_true rfl⟩ ⟨Nat.le_of_ble_eq_true rfl, Nat.le_of_ble_eq_true rfl⟩ (Nat.le_of_ble_eq_true rfl) [0, 1, 2, 3, 4, 5, 6, 7, 8, 9, 10, 11, 12, 13, 14, 15, 16, 17, 18, 19] rfl rfl 0 rfl rfl rfl) ?_
      exact kr_vret h hr hlk dX1_plain_89 (congrArg _ (by rw [yPlain, if_pos (e5.symm.trans c36), ← show v60 = yEnt x p s by rw [e60, e59, e57, e47, e56, e53, e13]; rfl]; first | rw [if_neg c68] | rw [if_pos c68, if_pos c78] | rw [if_pos c68, if_neg c78]))
