set_option maxHeartbeats 4000000 in
set_option maxRecDepth 100000 in
theorem lp_ask1 {p : Program} {l : Launch} {e : Env} {R : Room} {s : State} {m : MethodId} {args : Array Value} {below : List Frame} {meth : Method} {c : Code} {Q : State → Prop} {D : va_G} {cI cZ cJ : ClassId} {q : Nat → Nat} {A : Nat → Prop} {s1 v1 n1 : Int32} (h : kc_C p s m args c cX1_askAll 7 RX1 D vwCl (tyL cI cZ cJ) A) (hs : xSo s1) (hR : 3 ≤ R.frames ∧ 78 ≤ R.locals) (d j : Nat) (hj : j + 1 < 40) (x : xSt) (i : Int32) (hi : i = nI (j + 1)) (hg : xG (yx x) (d + 1) (x.1 15 j)) (kt : 0 ≤ yNext x (x.1 15 j) (x.1 16 j) s1 → ∀ (i' : Int32) (x' : xSt), i' = nI (j + 2) → x' = yDown x j (yNext x (x.1 15 j) (x.1 16 j) s1) → kc_W p l e R s m args below meth c D vwCl A 7 Q 20 [(4, .int i'), (0, .ref (q 0)), (1, .int s1), (2, .int v1), (3, .int n1)] [] (wY cI cZ q x') (0, 0)) (kf : ¬ 0 ≤ yNext x (x.1 15 j) (x.1 16 j) s1 → ∀ (i' : Int32) (x' : xSt), i' = nI j → x' = yComb x (x.1 15 j) s1 v1 n1 → kc_W p l e R s m args below meth c D vwCl A 7 Q 20 [(4, .int i'), (0, .ref (q 0)), (1, .int s1), (2, .int v1), (3, .int n1)] [] (wY cI cZ q x') (0, 0)) : kc_W p l e R s m args below meth c D vwCl A 7 Q 20 [(4, .int i), (0, .ref (q 0)), (1, .int s1), (2, .int v1), (3, .int n1)] [] (wY cI cZ q x) (0, 0) := by
  have hRL : (0 : Nat) + 0 ≤ R.cells ∧ (0 : Nat) + 0 ≤ R.slots := ⟨Nat.zero_le _, Nat.zero_le _⟩
  obtain ⟨hp, hk, hgA, hgB, hg6⟩ := id hg
  have hj1 : i - 1 = nI j := by rw [hi]; exact pk_sub (a := j + 1) (b := 1) (by omega)
  have hjn : tn (nI j) = j := tn_nI (by omega)
  have hjm : (nI j).toNatClampNeg = j := hjn
  have hin : tn i = j + 1 := by rw [hi]; exact tn_nI (by omega)
  refine kr_iload h dX1_askAll_20 0 rfl ?_
  refine kr_if_le h 110 dX1_askAll_22 (by decide) (fun c22 => ?_) (fun c22 => ?_)
  · exact absurd c22 (by rw [hi]; exact nI_ge (show 0 < j + 1 by omega) (by omega))
  · refine kr_aload_n h dX1_askAll_25 rfl 1 rfl ?_
    refine kr_get h FX1ok 0 24 dX1_askAll_26 flX1_85 rfl rfl (by decide) rfl rfl ?_
    refine kr_iload h dX1_askAll_29 0 rfl ?_
    refine kr_iconst (v := 1) h dX1_askAll_31 (by decide) ?_
    refine kr_isub h dX1_askAll_32 (fun v32 e32 => ?_)
    refine kr_iald h 16 0 dX1_askAll_33 rfl rfl (by rw [e32, hj1]; exact vp_in_nI (by omega) (by decide)) (fun v33 e33 => ?_)
    rw [e32, hj1, hjm] at e33
    refine kr_istore (lv' := [(5, .int v33), (4, .int i), (0, .ref (q 0)), (1, .int s1), (2, .int v1), (3, .int n1)]) h dX1_askAll_34 (by decide) rfl ?_
    refine kr_aload_n h dX1_askAll_36 rfl 2 rfl ?_
    refine kr_iload h dX1_askAll_37 0 rfl ?_
    refine kr_aload_n h dX1_askAll_39 rfl 2 rfl ?_
    refine kr_get h FX1ok 0 25 dX1_askAll_40 flX1_88 rfl rfl (by decide) rfl rfl ?_
    refine kr_iload h dX1_askAll_43 1 rfl ?_
    refine kr_iconst (v := 1) h dX1_askAll_45 (by decide) ?_
    refine kr_isub h dX1_askAll_46 (fun v46 e46 => ?_)
    refine kr_iald h 17 0 dX1_askAll_47 rfl rfl (by rw [e46, hj1]; exact vp_in_nI (by omega) (by decide)) (fun v47 e47 => ?_)
    rw [e46, hj1, hjm] at e47
    refine kr_iload_n h dX1_askAll_48 rfl 3 rfl ?_
    refine kr_iA h (kc_rV h (m_next l D cI cZ cJ q x v33 v47 s1 (by rw [e33]; exact hp) (by rw [e33]; exact fun z1 z2 z3 => xG_in (hgA (Or.inl (k_pair hk (Int32.not_lt.mp z1) (fun z => z2 (Int32.le_antisymm z3 z))))))) mlX1_140 yvX1_next dX1_askAll_49 rfl rfl ⟨Nat.le_trans (by decide) hR.1, Nat.le_trans (by decide) hR.2⟩ hRL (Nat.le_of_ble_eq_true rfl) [0, 1, 2, 3, 4, 5, 6, 7, 8, 9, 10, 11, 12, 13, 14, 15, 16, 17, 18, 19] rfl rfl 0 rfl rfl rfl) (fun v49 e49 => ?_)
    refine kr_istore (lv' := [(6, .int v49), (5, .int v33), (4, .int i), (0, .ref (q 0)), (1, .int s1), (2, .int v1), (3, .int n1)]) h dX1_askAll_52 (by decide) rfl ?_
    refine kr_iload h dX1_askAll_54 0 rfl ?_
    refine kr_if_ge h 74 dX1_askAll_56 (by decide) (fun c56 => ?_) (fun c56 => ?_)
    · refine kr_aload_n h dX1_askAll_74 rfl 3 rfl ?_
      refine kr_get h FX1ok 0 25 dX1_askAll_75 flX1_88 rfl rfl (by decide) rfl rfl ?_
      refine kr_iload h dX1_askAll_78 2 rfl ?_
      refine kr_iconst (v := 1) h dX1_askAll_80 (by decide) ?_
      refine kr_isub h dX1_askAll_81 (fun v81 e81 => ?_)
      refine kr_dup2 h dX1_askAll_82 rfl rfl ?_
      refine kr_iald h 17 0 dX1_askAll_83 rfl rfl (by rw [e81, hj1]; exact vp_in_nI (by omega) (by decide)) (fun v83 e83 => ?_)
      rw [e81, hj1, hjm] at e83
      refine kr_iconst (v := 1) h dX1_askAll_84 (by decide) ?_
      refine kr_iadd h dX1_askAll_85 (fun v85 e85 => ?_)
      refine kr_iast (ws' := wY cI cZ q (xA x 16 (upd (x.1 16) (tn v81) v85))) h 17 0 dX1_askAll_86 rfl rfl (by rw [e81, hj1]; exact vp_in_nI (by omega) (by decide)) (wY_r16 cI cZ q x _) ?_
      refine kr_aload_n h dX1_askAll_87 rfl 3 rfl ?_
      refine kr_get h FX1ok 0 24 dX1_askAll_88 flX1_85 rfl rfl (by decide) rfl rfl ?_
      refine kr_iload h dX1_askAll_91 2 rfl ?_
      refine kr_iload h dX1_askAll_93 0 rfl ?_
      refine kr_iast (ws' := wY cI cZ q (xA (xA x 16 (upd (x.1 16) (tn v81) v85)) 15 (upd ((xA x 16 (upd (x.1 16) (tn v81) v85)).1 15) (tn i) v49))) h 16 0 dX1_askAll_95 rfl rfl (by rw [hi]; exact vp_in_nI (by omega) (by decide)) (wY_r15 cI cZ q (xA x 16 (upd (x.1 16) (tn v81) v85)) _) ?_
      refine kr_aload_n h dX1_askAll_96 rfl 3 rfl ?_
      refine kr_get h FX1ok 0 25 dX1_askAll_97 flX1_88 rfl rfl (by decide) rfl rfl ?_
      refine kr_iload h dX1_askAll_100 2 rfl ?_
      refine kr_iconst (v := 0) h dX1_askAll_102 (by decide) ?_
      refine kr_iast (ws' := wY cI cZ q (xA (xA (xA x 16 (upd (x.1 16) (tn v81) v85)) 15 (upd ((xA x 16 (upd (x.1 16) (tn v81) v85)).1 15) (tn i) v49)) 16 (upd ((xA (xA x 16 (upd (x.1 16) (tn v81) v85)) 15 (upd ((xA x 16 (upd (x.1 16) (tn v81) v85)).1 15) (tn i) v49)).1 16) (tn i) 0))) h 17 0 dX1_askAll_103 rfl rfl (by rw [hi]; exact vp_in_nI (by omega) (by decide)) (wY_r16 cI cZ q (xA (xA x 16 (upd (x.1 16) (tn v81) v85)) 15 (upd ((xA x 16 (upd (x.1 16) (tn v81) v85)).1 15) (tn i) v49)) _) ?_
      obtain ⟨v104, e104⟩ : ∃ z : Int32, z = i + 1 := ⟨_, rfl⟩
      refine kr_iinc (lv' := [(4, .int v104), (6, .int v49), (5, .int v33), (0, .ref (q 0)), (1, .int s1), (2, .int v1), (3, .int n1)]) (k := 2) h dX1_askAll_104 rfl (by rw [e104]; rfl) (by decide) rfl ?_
      refine kr_goto h 20 dX1_askAll_107 (by decide) ?_
      refine kr_lv (lv' := [(4, .int v104), (0, .ref (q 0)), (1, .int s1), (2, .int v1), (3, .int n1)]) [0, 3, 4, 5, 6] rfl ?_
      refine kt (by rw [← e33, ← e47, ← e49]; exact c56) _ _ (by rw [e104, hi]; exact nI_1 (j + 1)) ?_
      rw [hin, e81, hj1, hjn, e85, e83, e49, e47, e33]
      rfl
    · refine kr_aload_n h dX1_askAll_59 rfl 3 rfl ?_
      refine kr_iload h dX1_askAll_60 1 rfl ?_
      refine kr_iload_n h dX1_askAll_62 rfl 4 rfl ?_
      refine kr_iload_n h dX1_askAll_63 rfl 5 rfl ?_
      refine kr_iload_n h dX1_askAll_64 rfl 6 rfl ?_
      refine kr_vA h (kc_rV h (m_combine l D cI cZ cJ q d x v33 s1 v1 n1 (by rw [e33]; exact hg) hs) mlX1_144 yvX1_combine dX1_askAll_65 rfl rfl ⟨Nat.le_trans (by decide) hR.1, Nat.le_trans (by decide) hR.2⟩ hRL (Nat.le_of_ble_eq_true rfl) [0, 1, 2, 3, 4, 5, 6, 7, 8, 9, 10, 11, 12, 13, 14, 15, 16, 17, 18, 19] rfl rfl 0 rfl rfl rfl) ?_
      obtain ⟨v68, e68⟩ : ∃ z : Int32, z = i + (-1) := ⟨_, rfl⟩
      refine kr_iinc (lv' := [(4, .int v68), (6, .int v49), (5, .int v33), (0, .ref (q 0)), (1, .int s1), (2, .int v1), (3, .int n1)]) (k := 2) h dX1_askAll_68 rfl (by rw [e68]; rfl) (by decide) rfl ?_
      refine kr_goto h 20 dX1_askAll_71 (by decide) ?_
      refine kr_lv (lv' := [(4, .int v68), (0, .ref (q 0)), (1, .int s1), (2, .int v1), (3, .int n1)]) [0, 3, 4, 5, 6] rfl ?_
      exact kf (by rw [← e33, ← e47, ← e49]; exact c56) _ _ (by rw [e68, hi]; exact nI_m1 j) (by rw [e33])
theorem lp_ask {p : Program} {l : Launch} {e : Env} {R : Room} {s : State} {m : MethodId} {args : Array Value} {below : List Frame} {meth : Method} {c : Code} {Q : State → Prop} {D : va_G} {cI cZ cJ : ClassId} {q : Nat → Nat} {A : Nat → Prop} {s1 v1 n1 : Int32} (h : kc_C p s m args c cX1_askAll 7 RX1 D vwCl (tyL cI cZ cJ) A) (hs : xSo s1) (hR : 3 ≤ R.frames ∧ 78 ≤ R.locals) : ∀ (d j : Nat) (x : xSt) (i p1 : Int32), j + d < 40 → i = nI (j + 1) → xG (yx x) d p1 → x.1 15 j = p1 → x.1 16 j = 0 → (∀ (i' : Int32) (x' : xSt), i' = nI j → x' = yRun d x j p1 s1 v1 n1 → kc_W p l e R s m args below meth c D vwCl A 7 Q 20 [(4, .int i'), (0, .ref (q 0)), (1, .int s1), (2, .int v1), (3, .int n1)] [] (wY cI cZ q x') (0, 0)) → kc_W p l e R s m args below meth c D vwCl A 7 Q 20 [(4, .int i), (0, .ref (q 0)), (1, .int s1), (2, .int v1), (3, .int n1)] [] (wY cI cZ q x) (0, 0) := by
  intro d
  induction d with
  | zero => intro j x i p1 _ _ hg; exact hg.elim
  | succ d ih =>
    intro j x i p1 hj hi hg hu ht kk
    refine lp_ask1 h hs hR d j (by omega) x i hi (by rw [hu]; exact hg) (fun c i1 x1 hi1 hx1 => ?_) (fun c i1 x1 hi1 hx1 => kk i1 x1 hi1 ?_)
    · rw [hu, ht] at c hx1
      have hk1 := yKr_down x j (yNext x p1 0 s1)
      subst hx1
      refine ih (j + 1) _ i1 (yNext x p1 0 s1) (by omega) hi1 ((yG_kr hk1 d _).mpr (yNext_g hg c)) (yDown_u _ _ _) (yDown_0 _ _ _) (fun i2 x2 hi2 hx2 => ?_)
      have hk2 := yKr_run d (yDown x j (yNext x p1 0 s1)) (j + 1) (yNext x p1 0 s1) s1 v1 n1
      rw [← hx2] at hk2
      have hu2 : x2.1 15 j = p1 := by rw [hk2.2.2.1 j (by omega), hk1.2.2.1 j (by omega), hu]
      have ht2 : x2.1 16 j = 1 := by rw [hk2.2.2.2 j (by omega), yDown_t, ht]; rfl
      have hg2 : xG (yx x2) (d + 1) p1 := (yG_kr hk2 _ _).mpr ((yG_kr hk1 _ _).mpr hg)
      refine lp_ask1 h hs hR d j (by omega) x2 i2 hi2 (by rw [hu2]; exact hg2) (fun c2 i3 x3 hi3 hx3 => ?_) (fun c2 i3 x3 hi3 hx3 => kk i3 x3 hi3 ?_)
      · rw [hu2, ht2] at c2 hx3
        have hk3 := yKr_down x2 j (yNext x2 p1 1 s1)
        subst hx3
        refine ih (j + 1) _ i3 (yNext x2 p1 1 s1) (by omega) hi3 ((yG_kr hk3 d _).mpr (yNext_g hg2 c2)) (yDown_u _ _ _) (yDown_0 _ _ _) (fun i4 x4 hi4 hx4 => ?_)
        have hk4 := yKr_run d (yDown x2 j (yNext x2 p1 1 s1)) (j + 1) (yNext x2 p1 1 s1) s1 v1 n1
        rw [← hx4] at hk4
        have hu4 : x4.1 15 j = p1 := by rw [hk4.2.2.1 j (by omega), hk3.2.2.1 j (by omega), hu2]
        have ht4 : x4.1 16 j = 0 + 1 + 1 := by rw [hk4.2.2.2 j (by omega), yDown_t, ht2]; rfl
        have hg4 : xG (yx x4) (d + 1) p1 := (yG_kr hk4 _ _).mpr ((yG_kr hk3 _ _).mpr hg2)
        refine lp_ask1 h hs hR d j (by omega) x4 i4 hi4 (by rw [hu4]; exact hg4) (fun c4 _ _ _ _ => ?_) (fun c4 i5 x5 hi5 hx5 => kk i5 x5 hi5 ?_)
        · rw [hu4, ht4] at c4
          exact absurd c4 (yNext_2 _ _ _)
        · rw [hx5, hu4, hx4]
          conv => rhs; unfold yRun
          rw [if_pos c, ← hx2, if_pos c2]
      · rw [hu2, ht2] at c2
        rw [hx3, hu2]
        conv => rhs; unfold yRun
        rw [if_pos c, ← hx2, if_neg c2]
    · rw [hu, ht] at c
      rw [hx1, hu]
      conv => rhs; unfold yRun
      rw [if_neg c]
set_option maxHeartbeats 4000000 in
set_option maxRecDepth 100000 in
theorem m_askAll (l : Launch) (D : va_G) (cI cZ cJ : ClassId) (q : Nat → Nat) (x : xSt) (s v n : Int32) (hg : xG (yx x) 7 (x.2 1)) (hs : xSo s) : kc_M l yX1_askAll cX1_askAll 7 (some .int) 3 78 0 0 [.ref (q 0), .int s, .int v, .int n] D vwCl (tyL cI cZ cJ) (wY cI cZ q x) (some (.int ((yAll x s v n).1 11 (tn (x.2 1))))) (wY cI cZ q (yAll x s v n)) := by
  refine kc_start RX1 (by decide +kernel) rfl (Nat.le_of_ble_eq_true rfl) ?_
  intro zp ze zs zm zb zt zc h hr hlk hnm
  refine kr_iconst (v := 1) h dX1_askAll_0 (by decide) ?_
  refine kr_istore (lv' := [(4, .int 1), (0, .ref (q 0)), (1, .int s), (2, .int v), (3, .int n)]) h dX1_askAll_1 (by decide) rfl ?_
  refine kr_aload_n h dX1_askAll_3 rfl 1 rfl ?_
  refine kr_get h FX1ok 0 24 dX1_askAll_4 flX1_85 rfl rfl (by decide) rfl rfl ?_
  refine kr_iconst (v := 0) h dX1_askAll_7 (by decide) ?_
  refine kr_aload_n h dX1_askAll_8 rfl 1 rfl ?_
  refine kr_get h FX1ok 0 1 dX1_askAll_9 flX1_13 rfl rfl (by decide) rfl rfl ?_
  refine kr_top h (fun v9 e9 => ?_)
  refine kr_iast (ws' := wY cI cZ q (xA x 15 (upd (x.1 15) (tn 0) v9))) h 16 0 dX1_askAll_12 rfl rfl (show vp_in (nI 0) 40 from vp_in_nI (by decide) (by decide)) (wY_r15 cI cZ q x _) ?_
  refine kr_aload_n h dX1_askAll_13 rfl 1 rfl ?_
  refine kr_get h FX1ok 0 25 dX1_askAll_14 flX1_88 rfl rfl (by decide) rfl rfl ?_
  refine kr_iconst (v := 0) h dX1_askAll_17 (by decide) ?_
  refine kr_iconst (v := 0) h dX1_askAll_18 (by decide) ?_
  refine kr_iast (ws' := wY cI cZ q (xA (xA x 15 (upd (x.1 15) (tn 0) v9)) 16 (upd ((xA x 15 (upd (x.1 15) (tn 0) v9)).1 16) (tn 0) 0))) h 17 0 dX1_askAll_19 rfl rfl (show vp_in (nI 0) 40 from vp_in_nI (by decide) (by decide)) (wY_r16 cI cZ q (xA x 15 (upd (x.1 15) (tn 0) v9)) _) ?_
  refine kr_lv (lv' := [(4, .int 1), (0, .ref (q 0)), (1, .int s), (2, .int v), (3, .int n)]) [0, 1, 2, 3, 4] rfl ?_
  refine lp_ask h hs ⟨Nat.le_refl _, Nat.le_refl _⟩ 7 0 (xA (xA x 15 (upd (x.1 15) (tn 0) v9)) 16 (upd ((xA x 15 (upd (x.1 15) (tn 0) v9)).1 16) (tn 0) 0)) 1 v9 (by decide) rfl ((xG_eq4 (x := yx x) (y := yx (xA (xA x 15 (upd (x.1 15) (tn 0) v9)) 16 (upd ((xA x 15 (upd (x.1 15) (tn 0) v9)).1 16) (tn 0) 0))) rfl rfl rfl rfl _ _).mpr (by rw [e9]; exact hg)) rfl rfl (fun i2 x2 hi2 hx2 => ?_)
  have hx3 : x2 = yAll x s v n := by rw [hx2, e9]; rfl
  subst hx3
  clear hx2
  refine kr_iload h dX1_askAll_20 0 rfl ?_
  refine kr_if_le h 110 dX1_askAll_22 (by decide) (fun c22 => ?_) (fun c22 => ?_)
  · refine kr_aload_n h dX1_askAll_110 rfl 1 rfl ?_
    refine kr_get h FX1ok 0 20 dX1_askAll_111 flX1_73 rfl rfl (by decide) rfl rfl ?_
    refine kr_aload_n h dX1_askAll_114 rfl 1 rfl ?_
    refine kr_get h FX1ok 0 1 dX1_askAll_115 flX1_13 rfl rfl (by decide) rfl rfl ?_
    refine kr_top h (fun v115 e115 => ?_)
    have h115 : v115 = x.2 1 := e115.trans ((yKr_run 7 _ 0 _ s v n).2.1 1 (by decide))
    refine kr_iald h 12 0 dX1_askAll_118 rfl rfl (by rw [h115]; exact xG_in hg) (fun v118 e118 => ?_)
    exact kr_iret h hr hlk dX1_askAll_119 (by rw [e118, h115]) (rfl)
  · exact absurd (by rw [hi2]; decide) c22
