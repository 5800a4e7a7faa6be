set_option maxHeartbeats 4000000 in
set_option maxRecDepth 100000 in
theorem lp_act {p : Program} {l : Launch} {e : Env} {R : Room} {s : State} {m : MethodId} {args : Array Value} {below : List Frame} {meth : Method} {c : Code} {D : va_G} {cI cZ cJ : ClassId} {q : Nat → Nat} {w0 w2 : va_W} {r s1 v1 dp : Int32} {fr lo : Nat} {rc : Option (xSt → Int32 → Int32 → Int32 × xSt)} (h : kc_C p s m args c cX0_actAtDepth 8 RX0 D vwCl (tyL cI cZ cJ) (va_A w0 s.heap.size)) (hr : meth.sig.returnType = some .int) (hlk : meth.locks = false) (hRc : R.cells = 0 ∧ R.slots = 0) (hR0 : 19 ≤ R.frames ∧ 509 ≤ R.locals) (hR1 : rc = none ∨ (fr + 1 ≤ R.frames ∧ 27 + lo ≤ R.locals)) (hs : xSo s1)
    (hrc : (¬ dp < 5 ∧ rc = none) ∨ (dp < 5 ∧ ∃ f, rc = some f ∧ (∀ x s v, xKeep x (f x s v).2) ∧ (∀ (x : xSt) (s2 v2 dq : Int32), dq = dp + 1 → xInst x → xV x → xSo s2 → kc_M l yX0_actAtDepth cX0_actAtDepth 8 (some .int) fr lo 0 0 [.ref (q 0), .int s2, .int v2, .int dq] D vwCl (tyL cI cZ cJ) (wX cI cZ q x) (some (.int (f x s2 v2).1)) (wX cI cZ q (f x s2 v2).2)))) : ∀ (n k : Nat) (i : Int32) (x : xSt), i = nI k → k + n = 41 → ¬ x.2 5 = -1 → xInst x → xV x → r = (xLoop rc n x s1 v1).1 → w2 = wX cI cZ q (xLoop rc n x s1 v1).2 → kc_W p l e R s m args below meth c D vwCl (va_A w0 s.heap.size) 8 (MQ below (kc_Post (some (.int r)) D vwCl w0 w2 s.heap.size) args s 0 0 (va_A w0 s.heap.size)) 19 [(4, .int i), (0, .ref (q 0)), (1, .int s1), (2, .int v1), (3, .int dp)] [] (wX cI cZ q x) (0, 0) := by
  intro n
  induction n with
  | zero =>
    intro k i x hi hk hne hin hV hq hw
    refine kr_iload h dX0_actAtDepth_19 0 rfl ?_
    refine kr_bipush (v := 40) h dX0_actAtDepth_21 (by decide) ?_
    refine kr_icmp_gt h 116 dX0_actAtDepth_23 (by decide) (fun c23 => ?_) (fun c23 => ?_)
    · refine kr_iconst (v := 3) h dX0_actAtDepth_116 (by decide) ?_
      exact kr_iret h hr hlk dX0_actAtDepth_117 (by rw [hq]; rfl) (by rw [hw]; rfl)
    · exact absurd (by rw [hi, show k = 41 by omega]; decide) c23
  | succ n ih =>
    intro k i x hi hk hne hin hV hq hw
    have hg7 : xG x 7 (x.2 5) := hin.resolve_left hne
    have hRL : (0 : Nat) + 0 ≤ R.cells ∧ (0 : Nat) + 0 ≤ R.slots := ⟨Nat.zero_le _, Nat.zero_le _⟩
    refine kr_iload h dX0_actAtDepth_19 0 rfl ?_
    refine kr_bipush (v := 40) h dX0_actAtDepth_21 (by decide) ?_
    refine kr_icmp_gt h 116 dX0_actAtDepth_23 (by decide) (fun c23 => ?_) (fun c23 => ?_)
    · exact absurd c23 (by rw [hi]; exact nI_nlt (show k ≤ 40 by omega) (by decide))
    · refine kr_aload_n h dX0_actAtDepth_26 rfl 1 rfl ?_
      refine kr_aload_n h dX0_actAtDepth_27 rfl 1 rfl ?_
      refine kr_get h FX0ok 0 16 dX0_actAtDepth_28 flX0_44 rfl rfl (by decide) rfl rfl ?_
      refine kr_top h (fun v28 e28 => ?_)
      refine kr_iload_n h dX0_actAtDepth_31 rfl 2 rfl ?_
      refine kr_iload_n h dX0_actAtDepth_32 rfl 3 rfl ?_
      refine kr_iconst (v := 1) h dX0_actAtDepth_33 (by decide) ?_
      refine kr_iA h (kc_rV h (c_suggest l D cI cZ cJ q 7 x v28 s1 v1 1 (by rw [e28]; exact hg7) hs) mlX0_180 yvX0_suggest dX0_actAtDepth_34 rfl rfl ⟨Nat.le_trans (by decide) hR0.1, Nat.le_trans (by decide) hR0.2⟩ hRL (Nat.le_of_ble_eq_true rfl) [0, 1, 2, 3, 4, 5, 6, 7, 8, 9, 10, 11] rfl rfl 0 rfl rfl rfl) (fun v34 e34 => ?_)
      have hIs : xIs x v34 := by rw [e34, e28]; exact xSug_is hV s1 v1 7 _ hg7
      refine kr_istore (lv' := [(5, .int v34), (4, .int i), (0, .ref (q 0)), (1, .int s1), (2, .int v1), (3, .int dp)]) h dX0_actAtDepth_37 (by decide) rfl ?_
      refine kr_iload h dX0_actAtDepth_39 0 rfl ?_
      refine kr_i0 h (kc_rS h (c_kindOf l D cI cZ cJ v34) mlX0_137 ysX0_kindOf dX0_actAtDepth_41 rfl rfl ⟨Nat.le_trans (by decide) hR0.1, Nat.le_trans (by decide) hR0.2⟩ hRL (Nat.le_of_ble_eq_true rfl) [] rfl rfl) (fun v41 e41 => ?_)
      refine kr_iconst (v := 2) h dX0_actAtDepth_44 (by decide) ?_
      refine kr_icmp_eq h 57 dX0_actAtDepth_45 (by decide) (fun c45 => ?_) (fun c45 => ?_)
      · refine kr_iload_n h dX0_actAtDepth_57 rfl 5 rfl ?_
        refine kr_iconst (v := 5) h dX0_actAtDepth_58 (by decide) ?_
        refine kr_icmp_lt h 64 dX0_actAtDepth_59 (by decide) (fun c59 => ?_) (fun c59 => ?_)
        · obtain ⟨hdp, f, hrs, hkf, hrec⟩ := hrc.resolve_left (fun z => z.1 c59)
          obtain ⟨j, hj, ej, hjj⟩ := xIs_src hIs (Or.inl (e41.symm.trans c45))
          refine kr_iload h dX0_actAtDepth_64 0 rfl ?_
          refine kr_i0 h (kc_rS h (c_sourceOf l D cI cZ cJ v34) mlX0_145 ysX0_sourceOf dX0_actAtDepth_66 rfl rfl ⟨Nat.le_trans (by decide) hR0.1, Nat.le_trans (by decide) hR0.2⟩ hRL (Nat.le_of_ble_eq_true rfl) [] rfl rfl) (fun v66 e66 => ?_)
          have h66 : vp_in v66 40 := by rw [e66, ej]; exact vp_in_nI hj (by decide)
          refine kr_istore (lv' := [(6, .int v66), (5, .int v34), (4, .int i), (0, .ref (q 0)), (1, .int s1), (2, .int v1), (3, .int dp)]) h dX0_actAtDepth_69 (by decide) rfl ?_
          refine kr_aload_n h dX0_actAtDepth_71 rfl 3 rfl ?_
          refine kr_get h FX0ok 0 7 dX0_actAtDepth_72 flX0_32 rfl rfl (by decide) rfl rfl ?_
          refine kr_iload h dX0_actAtDepth_75 0 rfl ?_
          refine kr_iconst (v := 1) h dX0_actAtDepth_77 (by decide) ?_
          refine kr_zastN (ws' := wX cI cZ q (xA (xAsk x 7 v28 s1 v1 1) 7 (upd ((xAsk x 7 v28 s1 v1 1).1 7) (tn v66) 1))) h 8 1 kc_n1 dX0_actAtDepth_78 rfl rfl (h66) (wX_r7 cI cZ q (xAsk x 7 v28 s1 v1 1) _) ?_
          refine kr_aload_n h dX0_actAtDepth_79 rfl 3 rfl ?_
          refine kr_aload_n h dX0_actAtDepth_80 rfl 3 rfl ?_
          refine kr_get h FX0ok 0 2 dX0_actAtDepth_81 flX0_16 rfl rfl (by decide) rfl rfl ?_
          refine kr_iload h dX0_actAtDepth_84 0 rfl ?_
          refine kr_iald h 3 0 dX0_actAtDepth_86 rfl rfl (h66) (fun v86 e86 => ?_)
          refine kr_aload_n h dX0_actAtDepth_87 rfl 3 rfl ?_
          refine kr_get h FX0ok 0 3 dX0_actAtDepth_88 flX0_19 rfl rfl (by decide) rfl rfl ?_
          refine kr_iload h dX0_actAtDepth_91 0 rfl ?_
          refine kr_iald h 4 0 dX0_actAtDepth_93 rfl rfl (h66) (fun v93 e93 => ?_)
          refine kr_iload_n h dX0_actAtDepth_94 rfl 6 rfl ?_
          refine kr_iconst (v := 1) h dX0_actAtDepth_95 (by decide) ?_
          refine kr_iadd h dX0_actAtDepth_96 (fun v96 e96 => ?_)
          have hkX0 : xKeep x (xA (xAsk x 7 v28 s1 v1 1) 7 (upd ((xAsk x 7 v28 s1 v1 1).1 7) (tn v66) 1)) := (xKeep_ask _ _ _ _ _ _).tr (by rw [e66]; exact xKeep_sp _ _)
          have hb86 : v86 = x.1 2 j := by rw [e86, hkX0.1 2 (by decide) (by decide) (by decide) (by decide), e66, ej]; exact congrArg _ (nI_clamp (by omega))
          have hso : xSo v86 := by
            rw [hb86]
            rcases hjj with ⟨-, -, z, -⟩ | ⟨z, -⟩
            · exact (hV j hj).1 z
            · rw [← e41, c45] at z; exact absurd z (by decide)
          have hkX : xKeep x (f (xA (xAsk x 7 v28 s1 v1 1) 7 (upd ((xAsk x 7 v28 s1 v1 1).1 7) (tn v66) 1)) v86 v93).2 := hkX0.tr (hkf _ _ _)
          have hun : xLoop rc (n + 1) x s1 v1 = if ¬ (f (xA (xAsk x 7 v28 s1 v1 1) 7 (upd ((xAsk x 7 v28 s1 v1 1).1 7) (tn v66) 1)) v86 v93).1 = 0 then f (xA (xAsk x 7 v28 s1 v1 1) 7 (upd ((xAsk x 7 v28 s1 v1 1).1 7) (tn v66) 1)) v86 v93 else xLoop rc n (f (xA (xAsk x 7 v28 s1 v1 1) 7 (upd ((xAsk x 7 v28 s1 v1 1).1 7) (tn v66) 1)) v86 v93).2 s1 v1 := by
            rw [hrs]
            exact xLoop_some e28 e34 (e41.symm.trans c45) e66 rfl e86 e93
          refine kr_iA h (kc_rV h (hrec (xA (xAsk x 7 v28 s1 v1 1) 7 (upd ((xAsk x 7 v28 s1 v1 1).1 7) (tn v66) 1)) v86 v93 v96 e96 (xKeep_i hkX0 hin) (xKeep_v hkX0 hV) hso) mlX0_116 yvX0_actAtDepth dX0_actAtDepth_97 rfl rfl ⟨(hR1.resolve_left (by rw [hrs]; exact fun z => nomatch z)).1, by have := (hR1.resolve_left (by rw [hrs]; exact fun z => nomatch z)).2; omega⟩ hRL (Nat.le_of_ble_eq_true rfl) [0, 1, 2, 3, 4, 5, 6, 7, 8, 9, 10, 11] rfl rfl 0 rfl rfl rfl) (fun v97 e97 => ?_)
          refine kr_istore (lv' := [(7, .int v97), (6, .int v66), (5, .int v34), (4, .int i), (0, .ref (q 0)), (1, .int s1), (2, .int v1), (3, .int dp)]) h dX0_actAtDepth_100 (by decide) rfl ?_
          refine kr_iload h dX0_actAtDepth_102 0 rfl ?_
          refine kr_if_eq h 110 dX0_actAtDepth_104 (by decide) (fun c104 => ?_) (fun c104 => ?_)
          · obtain ⟨v110, e110⟩ : ∃ z : Int32, z = i + 1 := ⟨_, rfl⟩
            refine kr_iinc (lv' := [(4, .int v110), (7, .int v97), (6, .int v66), (5, .int v34), (0, .ref (q 0)), (1, .int s1), (2, .int v1), (3, .int dp)]) (k := 3) h dX0_actAtDepth_110 rfl (by rw [e110]; rfl) (by decide) rfl ?_
            refine kr_goto h 19 dX0_actAtDepth_113 (by decide) ?_
            refine kr_lv (lv' := [(4, .int v110), (0, .ref (q 0)), (1, .int s1), (2, .int v1), (3, .int dp)]) [0, 4, 5, 6, 7] rfl ?_
            refine ih (k + 1) v110 _ (by rw [e110, hi]; exact nI_1 k) (by omega) (by rw [hkX.2.1]; exact hne) (xKeep_i hkX hin) (xKeep_v hkX hV) ?_ ?_
            · rw [hq, hun, if_neg (fun z => z (e97.symm.trans c104))]
            · rw [hw, hun, if_neg (fun z => z (e97.symm.trans c104))]
          · refine kr_iload h dX0_actAtDepth_107 0 rfl ?_
            exact kr_iret h hr hlk dX0_actAtDepth_109 (by rw [hq, hun, if_pos (fun z => c104 (e97.trans z))]; exact e97) (by rw [hw, hun, if_pos (fun z => c104 (e97.trans z))])
        · refine kr_iconst (v := 3) h dX0_actAtDepth_62 (by decide) ?_
          exact kr_iret h hr hlk dX0_actAtDepth_63 (by rw [hq, (hrc.resolve_right (fun z => c59 z.1)).2, xLoop_none e28 e34 (e41.symm.trans c45)]) (by rw [hw, (hrc.resolve_right (fun z => c59 z.1)).2, xLoop_none e28 e34 (e41.symm.trans c45)])
      · refine kr_aload_n h dX0_actAtDepth_48 rfl 2 rfl ?_
        refine kr_iload h dX0_actAtDepth_49 0 rfl ?_
        refine kr_iload_n h dX0_actAtDepth_51 rfl 3 rfl ?_
        refine kr_iload_n h dX0_actAtDepth_52 rfl 4 rfl ?_
        refine kr_iA h (kc_rV h (c_follow l D cI cZ cJ q (xAsk x 7 v28 s1 v1 1) v34 s1 v1 (Or.inr (by rw [xAsk_int _ _ _ _ _ _ _ (by decide)]; exact (xG_eq (fun k hk => xAsk_row _ _ _ _ _ _ _ hk) _ _).mpr hg7)) (fun z => by obtain ⟨i, hi, e, -⟩ := xIs_src hIs (Or.inr z); rw [e]; exact vp_in_nI hi (by decide)) hs) mlX0_224 yvX0_follow dX0_actAtDepth_53 rfl rfl ⟨Nat.le_trans (by decide) hR0.1, Nat.le_trans (by decide) hR0.2⟩ hRL (Nat.le_of_ble_eq_true rfl) [0, 1, 2, 3, 4, 5, 6, 7, 8, 9, 10, 11] rfl rfl 0 rfl rfl rfl) (fun v53 e53 => ?_)
        exact kr_iret h hr hlk dX0_actAtDepth_56 (by rw [hq, xLoop_fol e28 e34 (fun z => c45 (e41.trans z))]; exact e53) (by rw [hw, xLoop_fol e28 e34 (fun z => c45 (e41.trans z))])
