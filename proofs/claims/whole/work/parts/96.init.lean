set_option maxHeartbeats 4000000 in
set_option maxRecDepth 100000 in
theorem lp_initX0 {p : Program} {l : Launch} {e : Env} {R : Room} {s : State} {m : MethodId} {args : Array Value} {below : List Frame} {meth : Method} {c : Code} {Q : State → Prop} {D : va_G} {cI cZ cJ : ClassId} {A : Nat → Prop} {u : Nat × Nat} {b q1 q2 q3 q4 q5 q6 q7 q8 q9 : Nat} (h : kc_C p s m args c cX0_init 2 RX0 D vwCl (tyL cI cZ cJ) A) (kk : ∀ i : Int32, kc_W p l e R s m args below meth c D vwCl A 2 Q 100 [(1, .int i), (0, .ref b)] [] ([(b, .inr (0, [.ref q1, .ref q2, .ref q3, .ref q4, .ref q5, .ref q6, .ref q7, .ref q8, .ref q9, .null, .null, .int 0, .int 0, .int 0, .int 0, .int 0, .int 0, .int 0, .int 0])), (q1, .inl (cI, 40, .inl (fun _ => 0))), (q2, .inl (cI, 40, .inl (fun _ => 0))), (q3, .inl (cI, 40, .inl (fun _ => 0))), (q4, .inl (cI, 40, .inl (fun _ => 0))), (q5, .inl (cI, 40, .inl (fun _ => 0))), (q6, .inl (cZ, 40, .inl (fun _ => 0))), (q7, .inl (cI, 40, .inl (fun _ => 0))), (q8, .inl (cZ, 40, .inl (fun _ => 0))), (q9, .inl (cI, 96, .inl (fun j => if j < 96 then 5 else 0)))]) u) : ∀ (n k : Nat) (i : Int32) (f : Nat → Int32), i = nI k → k ≤ 96 → 96 - k < n → (∀ j, j < k → f j = 5) → (∀ j, k ≤ j → f j = 0) → kc_W p l e R s m args below meth c D vwCl A 2 Q 78 [(1, .int i), (0, .ref b)] [] ([(b, .inr (0, [.ref q1, .ref q2, .ref q3, .ref q4, .ref q5, .ref q6, .ref q7, .ref q8, .ref q9, .null, .null, .int 0, .int 0, .int 0, .int 0, .int 0, .int 0, .int 0, .int 0])), (q1, .inl (cI, 40, .inl (fun _ => 0))), (q2, .inl (cI, 40, .inl (fun _ => 0))), (q3, .inl (cI, 40, .inl (fun _ => 0))), (q4, .inl (cI, 40, .inl (fun _ => 0))), (q5, .inl (cI, 40, .inl (fun _ => 0))), (q6, .inl (cZ, 40, .inl (fun _ => 0))), (q7, .inl (cI, 40, .inl (fun _ => 0))), (q8, .inl (cZ, 40, .inl (fun _ => 0))), (q9, .inl (cI, 96, .inl f))]) u := by
  intro n
  induction n with
  | zero => intro k i f _ _ h; exact absurd h (by omega)
  | succ n ih =>
    intro k i f hi hk hn h0 h1
    refine kr_iload_n h dX0_init_78 rfl 0 rfl ?_
    refine kr_aload_n h dX0_init_79 rfl 1 rfl ?_
    refine kr_get h FX0ok 0 8 dX0_init_80 flX0_35 rfl rfl (by decide) rfl rfl ?_
    refine kr_alen (v := 96) h 9 0 dX0_init_83 rfl rfl rfl ?_
    refine kr_icmp_ge h 100 dX0_init_84 (by decide) (fun cc => ?_) (fun cc => ?_)
    · have hk40 : k = 96 := by
        rcases Nat.lt_or_ge k 96 with z | z
        · exact absurd (by rw [hi] at cc; exact cc) (nI_ge z (by decide))
        · omega
      have hf : f = (fun j => if j < 96 then 5 else 0) := funext fun j => by
        show f j = if j < 96 then 5 else 0
        split
        · exact h0 j (by omega)
        · exact h1 j (by omega)
      rw [hf]
      exact kk i
    · have hk40 : k < 96 := by
        rcases Nat.lt_or_ge k 96 with z | z
        · exact z
        · exact absurd (by rw [hi]; exact nI_le z (by omega)) cc
      refine kr_aload_n h dX0_init_87 rfl 1 rfl ?_
      refine kr_get h FX0ok 0 8 dX0_init_88 flX0_35 rfl rfl (by decide) rfl rfl ?_
      refine kr_iload_n h dX0_init_91 rfl 0 rfl ?_
      refine kr_iconst (v := 5) h dX0_init_92 (by decide) ?_
      refine kr_iast (ws' := [(b, .inr (0, [.ref q1, .ref q2, .ref q3, .ref q4, .ref q5, .ref q6, .ref q7, .ref q8, .ref q9, .null, .null, .int 0, .int 0, .int 0, .int 0, .int 0, .int 0, .int 0, .int 0])), (q1, .inl (cI, 40, .inl (fun _ => 0))), (q2, .inl (cI, 40, .inl (fun _ => 0))), (q3, .inl (cI, 40, .inl (fun _ => 0))), (q4, .inl (cI, 40, .inl (fun _ => 0))), (q5, .inl (cI, 40, .inl (fun _ => 0))), (q6, .inl (cZ, 40, .inl (fun _ => 0))), (q7, .inl (cI, 40, .inl (fun _ => 0))), (q8, .inl (cZ, 40, .inl (fun _ => 0))), (q9, .inl (cI, 96, .inl (upd f (tn i) 5)))]) h 9 0 dX0_init_93 rfl rfl (by rw [hi]; exact vp_in_nI (by omega) (by decide)) rfl ?_
      obtain ⟨v9, e9⟩ : ∃ z : Int32, z = i + 1 := ⟨_, rfl⟩
      refine kr_iinc (lv' := [(1, .int v9), (0, .ref b)]) (k := 0) h dX0_init_94 rfl (by rw [e9]; rfl) (by decide) rfl ?_
      refine kr_goto h 78 dX0_init_97 (by decide) ?_
      exact ih (k + 1) v9 _ (by rw [e9, hi]; exact nI_1 k) (by omega) (by omega) (xFill hi (by omega) h0 h1).1 (xFill (g := fun _ => 0) hi (by omega) h0 h1).2
set_option maxHeartbeats 4000000 in
set_option maxRecDepth 100000 in
theorem c_init (l : Launch) (D : va_G) (cI cZ cJ : ClassId) (b : Nat) : kc_ME l yX0_init cX0_init 2 1 12 11 440 [.ref b] D vwCl (tyL cI cZ cJ) [(b, .inr (0, [.null, .null, .null, .null, .null, .null, .null, .null, .null, .null, .null, .int 0, .int 0, .int 0, .int 0, .int 0, .int 0, .int 0, .int 0]))] (fun w2 => ∃ q : Nat → Nat, q 0 = b ∧ w2 = wX cI cZ q xX0) := by
  refine kc_startE RX0 (by decide +kernel) rfl (Nat.le_of_ble_eq_true rfl) ?_
  intro zp ze zs zm zb zt zc h hr hlk hnm
  refine kr_aload_n h dX0_init_0 rfl 0 rfl ?_
  refine kr_objInit h mlX0_1 ow_im ow_cd dX0_init_1 (Nat.le_of_ble_eq_true rfl) (Nat.le_of_ble_eq_true rfl) ?_
  refine kr_aload_n h dX0_init_4 rfl 0 rfl ?_
  refine kr_bipush (v := 40) h dX0_init_5 (by decide) ?_
  refine kr_newa (a0 := (40, .inl (fun _ => 0))) h 0 aw_I rfl rfl (fun _ _ h => h) (fun _ => rfl) (by decide) rfl (Nat.le_of_ble_eq_true rfl) (Nat.le_of_ble_eq_true rfl) (Nat.le_of_ble_eq_true rfl) dX0_init_7 (fun q1 => ?_)
  refine kr_putF (ws' := [(b, .inr (0, [.ref q1, .null, .null, .null, .null, .null, .null, .null, .null, .null, .null, .int 0, .int 0, .int 0, .int 0, .int 0, .int 0, .int 0, .int 0])), (q1, .inl (cI, 40, .inl (fun _ => 0)))]) h FX0ok 0 0 hnm dX0_init_9 flX0_9 rfl rfl (by decide) rfl rfl rfl rfl rfl (Nat.le_of_ble_eq_true rfl) rfl ?_
  refine kr_aload_n h dX0_init_12 rfl 0 rfl ?_
  refine kr_bipush (v := 40) h dX0_init_13 (by decide) ?_
  refine kr_newa (a0 := (40, .inl (fun _ => 0))) h 0 aw_I rfl rfl (fun _ _ h => h) (fun _ => rfl) (by decide) rfl (Nat.le_of_ble_eq_true rfl) (Nat.le_of_ble_eq_true rfl) (Nat.le_of_ble_eq_true rfl) dX0_init_15 (fun q2 => ?_)
  refine kr_putF (ws' := [(b, .inr (0, [.ref q1, .ref q2, .null, .null, .null, .null, .null, .null, .null, .null, .null, .int 0, .int 0, .int 0, .int 0, .int 0, .int 0, .int 0, .int 0])), (q1, .inl (cI, 40, .inl (fun _ => 0))), (q2, .inl (cI, 40, .inl (fun _ => 0)))]) h FX0ok 0 1 hnm dX0_init_17 flX0_13 rfl rfl (by decide) rfl rfl rfl rfl rfl (Nat.le_of_ble_eq_true rfl) rfl ?_
  refine kr_aload_n h dX0_init_20 rfl 0 rfl ?_
  refine kr_bipush (v := 40) h dX0_init_21 (by decide) ?_
  refine kr_newa (a0 := (40, .inl (fun _ => 0))) h 0 aw_I rfl rfl (fun _ _ h => h) (fun _ => rfl) (by decide) rfl (Nat.le_of_ble_eq_true rfl) (Nat.le_of_ble_eq_true rfl) (Nat.le_of_ble_eq_true rfl) dX0_init_23 (fun q3 => ?_)
  refine kr_putF (ws' := [(b, .inr (0, [.ref q1, .ref q2, .ref q3, .null, .null, .null, .null, .null, .null, .null, .null, .int 0, .int 0, .int 0, .int 0, .int 0, .int 0, .int 0, .int 0])), (q1, .inl (cI, 40, .inl (fun _ => 0))), (q2, .inl (cI, 40, .inl (fun _ => 0))), (q3, .inl (cI, 40, .inl (fun _ => 0)))]) h FX0ok 0 2 hnm dX0_init_25 flX0_16 rfl rfl (by decide) rfl rfl rfl rfl rfl (Nat.le_of_ble_eq_true rfl) rfl ?_
  refine kr_aload_n h dX0_init_28 rfl 0 rfl ?_
  refine kr_bipush (v := 40) h dX0_init_29 (by decide) ?_
  refine kr_newa (a0 := (40, .inl (fun _ => 0))) h 0 aw_I rfl rfl (fun _ _ h => h) (fun _ => rfl) (by decide) rfl (Nat.le_of_ble_eq_true rfl) (Nat.le_of_ble_eq_true rfl) (Nat.le_of_ble_eq_true rfl) dX0_init_31 (fun q4 => ?_)
  refine kr_putF (ws' := [(b, .inr (0, [.ref q1, .ref q2, .ref q3, .ref q4, .null, .null, .null, .null, .null, .null, .null, .int 0, .int 0, .int 0, .int 0, .int 0, .int 0, .int 0, .int 0])), (q1, .inl (cI, 40, .inl (fun _ => 0))), (q2, .inl (cI, 40, .inl (fun _ => 0))), (q3, .inl (cI, 40, .inl (fun _ => 0))), (q4, .inl (cI, 40, .inl (fun _ => 0)))]) h FX0ok 0 3 hnm dX0_init_33 flX0_19 rfl rfl (by decide) rfl rfl rfl rfl rfl (Nat.le_of_ble_eq_true rfl) rfl ?_
  refine kr_aload_n h dX0_init_36 rfl 0 rfl ?_
  refine kr_bipush (v := 40) h dX0_init_37 (by decide) ?_
  refine kr_newa (a0 := (40, .inl (fun _ => 0))) h 0 aw_I rfl rfl (fun _ _ h => h) (fun _ => rfl) (by decide) rfl (Nat.le_of_ble_eq_true rfl) (Nat.le_of_ble_eq_true rfl) (Nat.le_of_ble_eq_true rfl) dX0_init_39 (fun q5 => ?_)
  refine kr_putF (ws' := [(b, .inr (0, [.ref q1, .ref q2, .ref q3, .ref q4, .ref q5, .null, .null, .null, .null, .null, .null, .int 0, .int 0, .int 0, .int 0, .int 0, .int 0, .int 0, .int 0])), (q1, .inl (cI, 40, .inl (fun _ => 0))), (q2, .inl (cI, 40, .inl (fun _ => 0))), (q3, .inl (cI, 40, .inl (fun _ => 0))), (q4, .inl (cI, 40, .inl (fun _ => 0))), (q5, .inl (cI, 40, .inl (fun _ => 0)))]) h FX0ok 0 4 hnm dX0_init_41 flX0_22 rfl rfl (by decide) rfl rfl rfl rfl rfl (Nat.le_of_ble_eq_true rfl) rfl ?_
  refine kr_aload_n h dX0_init_44 rfl 0 rfl ?_
  refine kr_bipush (v := 40) h dX0_init_45 (by decide) ?_
  refine kr_newa (a0 := (40, .inl (fun _ => 0))) h 1 aw_Z rfl rfl (fun _ _ h => h) (fun _ => rfl) (by decide) rfl (Nat.le_of_ble_eq_true rfl) (Nat.le_of_ble_eq_true rfl) (Nat.le_of_ble_eq_true rfl) dX0_init_47 (fun q6 => ?_)
  refine kr_putF (ws' := [(b, .inr (0, [.ref q1, .ref q2, .ref q3, .ref q4, .ref q5, .ref q6, .null, .null, .null, .null, .null, .int 0, .int 0, .int 0, .int 0, .int 0, .int 0, .int 0, .int 0])), (q1, .inl (cI, 40, .inl (fun _ => 0))), (q2, .inl (cI, 40, .inl (fun _ => 0))), (q3, .inl (cI, 40, .inl (fun _ => 0))), (q4, .inl (cI, 40, .inl (fun _ => 0))), (q5, .inl (cI, 40, .inl (fun _ => 0))), (q6, .inl (cZ, 40, .inl (fun _ => 0)))]) h FX0ok 0 5 hnm dX0_init_49 flX0_25 rfl rfl (by decide) rfl rfl rfl rfl rfl (Nat.le_of_ble_eq_true rfl) rfl ?_
  refine kr_aload_n h dX0_init_52 rfl 0 rfl ?_
  refine kr_bipush (v := 40) h dX0_init_53 (by decide) ?_
  refine kr_newa (a0 := (40, .inl (fun _ => 0))) h 0 aw_I rfl rfl (fun _ _ h => h) (fun _ => rfl) (by decide) rfl (Nat.le_of_ble_eq_true rfl) (Nat.le_of_ble_eq_true rfl) (Nat.le_of_ble_eq_true rfl) dX0_init_55 (fun q7 => ?_)
  refine kr_putF (ws' := [(b, .inr (0, [.ref q1, .ref q2, .ref q3, .ref q4, .ref q5, .ref q6, .ref q7, .null, .null, .null, .null, .int 0, .int 0, .int 0, .int 0, .int 0, .int 0, .int 0, .int 0])), (q1, .inl (cI, 40, .inl (fun _ => 0))), (q2, .inl (cI, 40, .inl (fun _ => 0))), (q3, .inl (cI, 40, .inl (fun _ => 0))), (q4, .inl (cI, 40, .inl (fun _ => 0))), (q5, .inl (cI, 40, .inl (fun _ => 0))), (q6, .inl (cZ, 40, .inl (fun _ => 0))), (q7, .inl (cI, 40, .inl (fun _ => 0)))]) h FX0ok 0 6 hnm dX0_init_57 flX0_29 rfl rfl (by decide) rfl rfl rfl rfl rfl (Nat.le_of_ble_eq_true rfl) rfl ?_
  refine kr_aload_n h dX0_init_60 rfl 0 rfl ?_
  refine kr_bipush (v := 40) h dX0_init_61 (by decide) ?_
  refine kr_newa (a0 := (40, .inl (fun _ => 0))) h 1 aw_Z rfl rfl (fun _ _ h => h) (fun _ => rfl) (by decide) rfl (Nat.le_of_ble_eq_true rfl) (Nat.le_of_ble_eq_true rfl) (Nat.le_of_ble_eq_true rfl) dX0_init_63 (fun q8 => ?_)
  refine kr_putF (ws' := [(b, .inr (0, [.ref q1, .ref q2, .ref q3, .ref q4, .ref q5, .ref q6, .ref q7, .ref q8, .null, .null, .null, .int 0, .int 0, .int 0, .int 0, .int 0, .int 0, .int 0, .int 0])), (q1, .inl (cI, 40, .inl (fun _ => 0))), (q2, .inl (cI, 40, .inl (fun _ => 0))), (q3, .inl (cI, 40, .inl (fun _ => 0))), (q4, .inl (cI, 40, .inl (fun _ => 0))), (q5, .inl (cI, 40, .inl (fun _ => 0))), (q6, .inl (cZ, 40, .inl (fun _ => 0))), (q7, .inl (cI, 40, .inl (fun _ => 0))), (q8, .inl (cZ, 40, .inl (fun _ => 0)))]) h FX0ok 0 7 hnm dX0_init_65 flX0_32 rfl rfl (by decide) rfl rfl rfl rfl rfl (Nat.le_of_ble_eq_true rfl) rfl ?_
  refine kr_aload_n h dX0_init_68 rfl 0 rfl ?_
  refine kr_bipush (v := 96) h dX0_init_69 (by decide) ?_
  refine kr_newa (a0 := (96, .inl (fun _ => 0))) h 0 aw_I rfl rfl (fun _ _ h => h) (fun _ => rfl) (by decide) rfl (Nat.le_of_ble_eq_true rfl) (Nat.le_of_ble_eq_true rfl) (Nat.le_of_ble_eq_true rfl) dX0_init_71 (fun q9 => ?_)
  refine kr_putF (ws' := [(b, .inr (0, [.ref q1, .ref q2, .ref q3, .ref q4, .ref q5, .ref q6, .ref q7, .ref q8, .ref q9, .null, .null, .int 0, .int 0, .int 0, .int 0, .int 0, .int 0, .int 0, .int 0])), (q1, .inl (cI, 40, .inl (fun _ => 0))), (q2, .inl (cI, 40, .inl (fun _ => 0))), (q3, .inl (cI, 40, .inl (fun _ => 0))), (q4, .inl (cI, 40, .inl (fun _ => 0))), (q5, .inl (cI, 40, .inl (fun _ => 0))), (q6, .inl (cZ, 40, .inl (fun _ => 0))), (q7, .inl (cI, 40, .inl (fun _ => 0))), (q8, .inl (cZ, 40, .inl (fun _ => 0))), (q9, .inl (cI, 96, .inl (fun _ => 0)))]) h FX0ok 0 8 hnm dX0_init_73 flX0_35 rfl rfl (by decide) rfl rfl rfl rfl rfl (Nat.le_of_ble_eq_true rfl) rfl ?_
  refine kr_iconst (v := 0) h dX0_init_76 (by decide) ?_
  refine kr_istore_n (lv' := [(1, .int 0), (0, .ref b)]) h dX0_init_77 rfl (by decide) rfl ?_
  refine lp_initX0 h (fun i9 => ?_) 97 0 0 (fun _ => 0) rfl (by omega) (by omega) (fun j hj => absurd hj (by omega)) (fun j _ => rfl)
  refine kr_aload_n h dX0_init_100 rfl 1 rfl ?_
  refine kr_bipush (v := 8) h dX0_init_101 (by decide) ?_
  refine kr_newa (a0 := (8, .inl (fun _ => 0))) h 0 aw_I rfl rfl (fun _ _ h => h) (fun _ => rfl) (by decide) rfl (Nat.le_of_ble_eq_true rfl) (Nat.le_of_ble_eq_true rfl) (Nat.le_of_ble_eq_true rfl) dX0_init_103 (fun q10 => ?_)
  refine kr_putF (ws' := [(b, .inr (0, [.ref q1, .ref q2, .ref q3, .ref q4, .ref q5, .ref q6, .ref q7, .ref q8, .ref q9, .ref q10, .null, .int 0, .int 0, .int 0, .int 0, .int 0, .int 0, .int 0, .int 0])), (q1, .inl (cI, 40, .inl (fun _ => 0))), (q2, .inl (cI, 40, .inl (fun _ => 0))), (q3, .inl (cI, 40, .inl (fun _ => 0))), (q4, .inl (cI, 40, .inl (fun _ => 0))), (q5, .inl (cI, 40, .inl (fun _ => 0))), (q6, .inl (cZ, 40, .inl (fun _ => 0))), (q7, .inl (cI, 40, .inl (fun _ => 0))), (q8, .inl (cZ, 40, .inl (fun _ => 0))), (q9, .inl (cI, 96, .inl (fun j => if j < 96 then 5 else 0))), (q10, .inl (cI, 8, .inl (fun _ => 0)))]) h FX0ok 0 9 hnm dX0_init_105 flX0_38 rfl rfl (by decide) rfl rfl rfl rfl rfl (Nat.le_of_ble_eq_true rfl) rfl ?_
  refine kr_aload_n h dX0_init_108 rfl 1 rfl ?_
  refine kr_bipush (v := 16) h dX0_init_109 (by decide) ?_
  refine kr_newa (a0 := (16, .inl (fun _ => 0))) h 0 aw_I rfl rfl (fun _ _ h => h) (fun _ => rfl) (by decide) rfl (Nat.le_of_ble_eq_true rfl) (Nat.le_of_ble_eq_true rfl) (Nat.le_of_ble_eq_true rfl) dX0_init_111 (fun q11 => ?_)
  refine kr_putF (ws' := [(b, .inr (0, [.ref q1, .ref q2, .ref q3, .ref q4, .ref q5, .ref q6, .ref q7, .ref q8, .ref q9, .ref q10, .ref q11, .int 0, .int 0, .int 0, .int 0, .int 0, .int 0, .int 0, .int 0])), (q1, .inl (cI, 40, .inl (fun _ => 0))), (q2, .inl (cI, 40, .inl (fun _ => 0))), (q3, .inl (cI, 40, .inl (fun _ => 0))), (q4, .inl (cI, 40, .inl (fun _ => 0))), (q5, .inl (cI, 40, .inl (fun _ => 0))), (q6, .inl (cZ, 40, .inl (fun _ => 0))), (q7, .inl (cI, 40, .inl (fun _ => 0))), (q8, .inl (cZ, 40, .inl (fun _ => 0))), (q9, .inl (cI, 96, .inl (fun j => if j < 96 then 5 else 0))), (q10, .inl (cI, 8, .inl (fun _ => 0))), (q11, .inl (cI, 16, .inl (fun _ => 0)))]) h FX0ok 0 10 hnm dX0_init_113 flX0_41 rfl rfl (by decide) rfl rfl rfl rfl rfl (Nat.le_of_ble_eq_true rfl) rfl ?_
  refine kr_aload_n h dX0_init_116 rfl 1 rfl ?_
  refine kr_iconst (v := (-1)) h dX0_init_117 (by decide) ?_
  refine kr_put (ws' := [(b, .inr (0, [.ref q1, .ref q2, .ref q3, .ref q4, .ref q5, .ref q6, .ref q7, .ref q8, .ref q9, .ref q10, .ref q11, .int 0, .int 0, .int 0, .int 0, .int 0, .int (-1), .int 0, .int 0])), (q1, .inl (cI, 40, .inl (fun _ => 0))), (q2, .inl (cI, 40, .inl (fun _ => 0))), (q3, .inl (cI, 40, .inl (fun _ => 0))), (q4, .inl (cI, 40, .inl (fun _ => 0))), (q5, .inl (cI, 40, .inl (fun _ => 0))), (q6, .inl (cZ, 40, .inl (fun _ => 0))), (q7, .inl (cI, 40, .inl (fun _ => 0))), (q8, .inl (cZ, 40, .inl (fun _ => 0))), (q9, .inl (cI, 96, .inl (fun j => if j < 96 then 5 else 0))), (q10, .inl (cI, 8, .inl (fun _ => 0))), (q11, .inl (cI, 16, .inl (fun _ => 0)))]) h FX0ok 0 16 dX0_init_118 flX0_44 rfl rfl (by decide) rfl rfl rfl rfl (Nat.le_of_ble_eq_true rfl) rfl ?_
  exact kr_vretE h hr hlk dX0_init_121 ⟨fun k => match k with
    | 0 => b
    | 1 => q1
    | 2 => q2
    | 3 => q3
    | 4 => q4
    | 5 => q5
    | 6 => q6
    | 7 => q7
    | 8 => q8
    | 9 => q9
    | 10 => q10
    | _ => q11, rfl, rfl⟩
set_option maxHeartbeats 4000000 in
set_option maxRecDepth 100000 in
theorem lp_initX1 {p : Program} {l : Launch} {e : Env} {R : Room} {s : State} {m : MethodId} {args : Array Value} {below : List Frame} {meth : Method} {c : Code} {Q : State → Prop} {D : va_G} {cI cZ cJ : ClassId} {A : Nat → Prop} {u : Nat × Nat} {b q1 q2 q3 q4 q5 q6 q7 q8 q9 q10 q11 q12 q13 q14 q15 q16 q17 q18 q19 : Nat} (h : kc_C p s m args c cX1_init 2 RX1 D vwCl (tyL cI cZ cJ) A) (kk : ∀ i : Int32, kc_W p l e R s m args below meth c D vwCl A 2 Q 222 [(1, .int i), (0, .ref b)] [] ([(b, .inr (1, [.int 0, .int (-1), .int 0, .int 0, .int 0, .int 0, .int 0, .int 0, .int 0, .ref q1, .ref q2, .ref q3, .ref q4, .ref q5, .ref q6, .ref q7, .ref q8, .ref q9, .ref q10, .ref q11, .ref q12, .ref q13, .ref q14, .ref q15, .ref q16, .ref q17, .ref q18, .ref q19])), (q1, .inl (cI, 40, .inl (fun _ => 0))), (q2, .inl (cI, 40, .inl (fun _ => 0))), (q3, .inl (cI, 40, .inl (fun _ => 0))), (q4, .inl (cI, 40, .inl (fun _ => 0))), (q5, .inl (cI, 40, .inl (fun _ => 0))), (q6, .inl (cI, 40, .inl (fun _ => 0))), (q7, .inl (cZ, 40, .inl (fun _ => 0))), (q8, .inl (cZ, 40, .inl (fun _ => 0))), (q9, .inl (cI, 96, .inl (fun j => if j < 96 then 5 else 0))), (q10, .inl (cI, 8, .inl (fun _ => 0))), (q11, .inl (cI, 16, .inl (fun _ => 0))), (q12, .inl (cI, 40, .inl (fun _ => 0))), (q13, .inl (cI, 40, .inl (fun _ => 0))), (q14, .inl (cI, 40, .inl (fun _ => 0))), (q15, .inl (cI, 40, .inl (fun _ => 0))), (q16, .inl (cI, 40, .inl (fun _ => 0))), (q17, .inl (cI, 40, .inl (fun _ => 0))), (q18, .inl (cI, 6, .inl (fun _ => 0))), (q19, .inl (cI, 6, .inl (fun _ => 0)))]) u) : ∀ (n k : Nat) (i : Int32) (f : Nat → Int32), i = nI k → k ≤ 96 → 96 - k < n → (∀ j, j < k → f j = 5) → (∀ j, k ≤ j → f j = 0) → kc_W p l e R s m args below meth c D vwCl A 2 Q 203 [(1, .int i), (0, .ref b)] [] ([(b, .inr (1, [.int 0, .int (-1), .int 0, .int 0, .int 0, .int 0, .int 0, .int 0, .int 0, .ref q1, .ref q2, .ref q3, .ref q4, .ref q5, .ref q6, .ref q7, .ref q8, .ref q9, .ref q10, .ref q11, .ref q12, .ref q13, .ref q14, .ref q15, .ref q16, .ref q17, .ref q18, .ref q19])), (q1, .inl (cI, 40, .inl (fun _ => 0))), (q2, .inl (cI, 40, .inl (fun _ => 0))), (q3, .inl (cI, 40, .inl (fun _ => 0))), (q4, .inl (cI, 40, .inl (fun _ => 0))), (q5, .inl (cI, 40, .inl (fun _ => 0))), (q6, .inl (cI, 40, .inl (fun _ => 0))), (q7, .inl (cZ, 40, .inl (fun _ => 0))), (q8, .inl (cZ, 40, .inl (fun _ => 0))), (q9, .inl (cI, 96, .inl f)), (q10, .inl (cI, 8, .inl (fun _ => 0))), (q11, .inl (cI, 16, .inl (fun _ => 0))), (q12, .inl (cI, 40, .inl (fun _ => 0))), (q13, .inl (cI, 40, .inl (fun _ => 0))), (q14, .inl (cI, 40, .inl (fun _ => 0))), (q15, .inl (cI, 40, .inl (fun _ => 0))), (q16, .inl (cI, 40, .inl (fun _ => 0))), (q17, .inl (cI, 40, .inl (fun _ => 0))), (q18, .inl (cI, 6, .inl (fun _ => 0))), (q19, .inl (cI, 6, .inl (fun _ => 0)))]) u := by
  intro n
  induction n with
  | zero => intro k i f _ _ h; exact absurd h (by omega)
  | succ n ih =>
    intro k i f hi hk hn h0 h1
    refine kr_iload_n h dX1_init_203 rfl 0 rfl ?_
    refine kr_bipush (v := 96) h dX1_init_204 (by decide) ?_
    refine kr_icmp_ge h 222 dX1_init_206 (by decide) (fun cc => ?_) (fun cc => ?_)
    · have hk40 : k = 96 := by
        rcases Nat.lt_or_ge k 96 with z | z
        · exact absurd (by rw [hi] at cc; exact cc) (nI_ge z (by decide))
        · omega
      have hf : f = (fun j => if j < 96 then 5 else 0) := funext fun j => by
        show f j = if j < 96 then 5 else 0
        split
        · exact h0 j (by omega)
        · exact h1 j (by omega)
      rw [hf]
      exact kk i
    · have hk40 : k < 96 := by
        rcases Nat.lt_or_ge k 96 with z | z
        · exact z
        · exact absurd (by rw [hi]; exact nI_le z (by omega)) cc
      refine kr_aload_n h dX1_init_209 rfl 1 rfl ?_
      refine kr_get h FX1ok 0 17 dX1_init_210 flX1_64 rfl rfl (by decide) rfl rfl ?_
      refine kr_iload_n h dX1_init_213 rfl 0 rfl ?_
      refine kr_iconst (v := 5) h dX1_init_214 (by decide) ?_
      refine kr_iast (ws' := [(b, .inr (1, [.int 0, .int (-1), .int 0, .int 0, .int 0, .int 0, .int 0, .int 0, .int 0, .ref q1, .ref q2, .ref q3, .ref q4, .ref q5, .ref q6, .ref q7, .ref q8, .ref q9, .ref q10, .ref q11, .ref q12, .ref q13, .ref q14, .ref q15, .ref q16, .ref q17, .ref q18, .ref q19])), (q1, .inl (cI, 40, .inl (fun _ => 0))), (q2, .inl (cI, 40, .inl (fun _ => 0))), (q3, .inl (cI, 40, .inl (fun _ => 0))), (q4, .inl (cI, 40, .inl (fun _ => 0))), (q5, .inl (cI, 40, .inl (fun _ => 0))), (q6, .inl (cI, 40, .inl (fun _ => 0))), (q7, .inl (cZ, 40, .inl (fun _ => 0))), (q8, .inl (cZ, 40, .inl (fun _ => 0))), (q9, .inl (cI, 96, .inl (upd f (tn i) 5))), (q10, .inl (cI, 8, .inl (fun _ => 0))), (q11, .inl (cI, 16, .inl (fun _ => 0))), (q12, .inl (cI, 40, .inl (fun _ => 0))), (q13, .inl (cI, 40, .inl (fun _ => 0))), (q14, .inl (cI, 40, .inl (fun _ => 0))), (q15, .inl (cI, 40, .inl (fun _ => 0))), (q16, .inl (cI, 40, .inl (fun _ => 0))), (q17, .inl (cI, 40, .inl (fun _ => 0))), (q18, .inl (cI, 6, .inl (fun _ => 0))), (q19, .inl (cI, 6, .inl (fun _ => 0)))]) h 9 0 dX1_init_215 rfl rfl (by rw [hi]; exact vp_in_nI (by omega) (by decide)) rfl ?_
      obtain ⟨v9, e9⟩ : ∃ z : Int32, z = i + 1 := ⟨_, rfl⟩
      refine kr_iinc (lv' := [(1, .int v9), (0, .ref b)]) (k := 0) h dX1_init_216 rfl (by rw [e9]; rfl) (by decide) rfl ?_
      refine kr_goto h 203 dX1_init_219 (by decide) ?_
      exact ih (k + 1) v9 _ (by rw [e9, hi]; exact nI_1 k) (by omega) (by omega) (xFill hi (by omega) h0 h1).1 (xFill (g := fun _ => 0) hi (by omega) h0 h1).2
set_option maxHeartbeats 4000000 in
set_option maxRecDepth 100000 in
theorem m_init (l : Launch) (D : va_G) (cI cZ cJ : ClassId) (b : Nat) : kc_ME l yX1_init cX1_init 2 1 12 19 692 [.ref b] D vwCl (tyL cI cZ cJ) [(b, .inr (1, [.int 0, .int 0, .int 0, .int 0, .int 0, .int 0, .int 0, .int 0, .int 0, .null, .null, .null, .null, .null, .null, .null, .null, .null, .null, .null, .null, .null, .null, .null, .null, .null, .null, .null]))] (fun w2 => ∃ q : Nat → Nat, q 0 = b ∧ w2 = wY cI cZ q yY0) := by
  refine kc_startE RX1 (by decide +kernel) rfl (Nat.le_of_ble_eq_true rfl) ?_
  intro zp ze zs zm zb zt zc h hr hlk hnm
  refine kr_aload_n h dX1_init_0 rfl 0 rfl ?_
  refine kr_objInit h mlX1_1 ow_im ow_cd dX1_init_1 (Nat.le_of_ble_eq_true rfl) (Nat.le_of_ble_eq_true rfl) ?_
  refine kr_aload_n h dX1_init_4 rfl 0 rfl ?_
  refine kr_iconst (v := 0) h dX1_init_5 (by decide) ?_
  refine kr_put (ws' := [(b, .inr (1, [.int 0, .int 0, .int 0, .int 0, .int 0, .int 0, .int 0, .int 0, .int 0, .null, .null, .null, .null, .null, .null, .null, .null, .null, .null, .null, .null, .null, .null, .null, .null, .null, .null, .null]))]) h FX1ok 0 0 dX1_init_6 flX1_7 rfl rfl (by decide) rfl rfl rfl rfl (Nat.le_of_ble_eq_true rfl) rfl ?_
  refine kr_aload_n h dX1_init_9 rfl 0 rfl ?_
  refine kr_iconst (v := (-1)) h dX1_init_10 (by decide) ?_
  refine kr_put (ws' := [(b, .inr (1, [.int 0, .int (-1), .int 0, .int 0, .int 0, .int 0, .int 0, .int 0, .int 0, .null, .null, .null, .null, .null, .null, .null, .null, .null, .null, .null, .null, .null, .null, .null, .null, .null, .null, .null]))]) h FX1ok 0 1 dX1_init_11 flX1_13 rfl rfl (by decide) rfl rfl rfl rfl (Nat.le_of_ble_eq_true rfl) rfl ?_
  refine kr_aload_n h dX1_init_14 rfl 0 rfl ?_
  refine kr_iconst (v := 0) h dX1_init_15 (by decide) ?_
  refine kr_put (ws' := [(b, .inr (1, [.int 0, .int (-1), .int 0, .int 0, .int 0, .int 0, .int 0, .int 0, .int 0, .null, .null, .null, .null, .null, .null, .null, .null, .null, .null, .null, .null, .null, .null, .null, .null, .null, .null, .null]))]) h FX1ok 0 2 dX1_init_16 flX1_16 rfl rfl (by decide) rfl rfl rfl rfl (Nat.le_of_ble_eq_true rfl) rfl ?_
  refine kr_aload_n h dX1_init_19 rfl 0 rfl ?_
  refine kr_iconst (v := 0) h dX1_init_20 (by decide) ?_
  refine kr_put (ws' := [(b, .inr (1, [.int 0, .int (-1), .int 0, .int 0, .int 0, .int 0, .int 0, .int 0, .int 0, .null, .null, .null, .null, .null, .null, .null, .null, .null, .null, .null, .null, .null, .null, .null, .null, .null, .null, .null]))]) h FX1ok 0 3 dX1_init_21 flX1_19 rfl rfl (by decide) rfl rfl rfl rfl (Nat.le_of_ble_eq_true rfl) rfl ?_
  refine kr_aload_n h dX1_init_24 rfl 0 rfl ?_
  refine kr_iconst (v := 0) h dX1_init_25 (by decide) ?_
  refine kr_put (ws' := [(b, .inr (1, [.int 0, .int (-1), .int 0, .int 0, .int 0, .int 0, .int 0, .int 0, .int 0, .null, .null, .null, .null, .null, .null, .null, .null, .null, .null, .null, .null, .null, .null, .null, .null, .null, .null, .null]))]) h FX1ok 0 4 dX1_init_26 flX1_22 rfl rfl (by decide) rfl rfl rfl rfl (Nat.le_of_ble_eq_true rfl) rfl ?_
  refine kr_aload_n h dX1_init_29 rfl 0 rfl ?_
  refine kr_iconst (v := 0) h dX1_init_30 (by decide) ?_
  refine kr_put (ws' := [(b, .inr (1, [.int 0, .int (-1), .int 0, .int 0, .int 0, .int 0, .int 0, .int 0, .int 0, .null, .null, .null, .null, .null, .null, .null, .null, .null, .null, .null, .null, .null, .null, .null, .null, .null, .null, .null]))]) h FX1ok 0 5 dX1_init_31 flX1_25 rfl rfl (by decide) rfl rfl rfl rfl (Nat.le_of_ble_eq_true rfl) rfl ?_
  refine kr_aload_n h dX1_init_34 rfl 0 rfl ?_
  refine kr_iconst (v := 0) h dX1_init_35 (by decide) ?_
  refine kr_put (ws' := [(b, .inr (1, [.int 0, .int (-1), .int 0, .int 0, .int 0, .int 0, .int 0, .int 0, .int 0, .null, .null, .null, .null, .null, .null, .null, .null, .null, .null, .null, .null, .null, .null, .null, .null, .null, .null, .null]))]) h FX1ok 0 6 dX1_init_36 flX1_28 rfl rfl (by decide) rfl rfl rfl rfl (Nat.le_of_ble_eq_true rfl) rfl ?_
  refine kr_aload_n h dX1_init_39 rfl 0 rfl ?_
  refine kr_iconst (v := 0) h dX1_init_40 (by decide) ?_
  refine kr_put (ws' := [(b, .inr (1, [.int 0, .int (-1), .int 0, .int 0, .int 0, .int 0, .int 0, .int 0, .int 0, .null, .null, .null, .null, .null, .null, .null, .null, .null, .null, .null, .null, .null, .null, .null, .null, .null, .null, .null]))]) h FX1ok 0 7 dX1_init_41 flX1_31 rfl rfl (by decide) rfl rfl rfl rfl (Nat.le_of_ble_eq_true rfl) rfl ?_
  refine kr_aload_n h dX1_init_44 rfl 0 rfl ?_
  refine kr_iconst (v := 0) h dX1_init_45 (by decide) ?_
  refine kr_put (ws' := [(b, .inr (1, [.int 0, .int (-1), .int 0, .int 0, .int 0, .int 0, .int 0, .int 0, .int 0, .null, .null, .null, .null, .null, .null, .null, .null, .null, .null, .null, .null, .null, .null, .null, .null, .null, .null, .null]))]) h FX1ok 0 8 dX1_init_46 flX1_34 rfl rfl (by decide) rfl rfl rfl rfl (Nat.le_of_ble_eq_true rfl) rfl ?_
  refine kr_aload_n h dX1_init_49 rfl 0 rfl ?_
  refine kr_bipush (v := 40) h dX1_init_50 (by decide) ?_
  refine kr_newa (a0 := (40, .inl (fun _ => 0))) h 0 aw_I rfl rfl (fun _ _ h => h) (fun _ => rfl) (by decide) rfl (Nat.le_of_ble_eq_true rfl) (Nat.le_of_ble_eq_true rfl) (Nat.le_of_ble_eq_true rfl) dX1_init_52 (fun q1 => ?_)
  refine kr_putF (ws' := [(b, .inr (1, [.int 0, .int (-1), .int 0, .int 0, .int 0, .int 0, .int 0, .int 0, .int 0, .ref q1, .null, .null, .null, .null, .null, .null, .null, .null, .null, .null, .null, .null, .null, .null, .null, .null, .null, .null])), (q1, .inl (cI, 40, .inl (fun _ => 0)))]) h FX1ok 0 9 hnm dX1_init_54 flX1_38 rfl rfl (by decide) rfl rfl rfl rfl rfl (Nat.le_of_ble_eq_true rfl) rfl ?_
  refine kr_aload_n h dX1_init_57 rfl 0 rfl ?_
  refine kr_bipush (v := 40) h dX1_init_58 (by decide) ?_
  refine kr_newa (a0 := (40, .inl (fun _ => 0))) h 0 aw_I rfl rfl (fun _ _ h => h) (fun _ => rfl) (by decide) rfl (Nat.le_of_ble_eq_true rfl) (Nat.le_of_ble_eq_true rfl) (Nat.le_of_ble_eq_true rfl) dX1_init_60 (fun q2 => ?_)
  refine kr_putF (ws' := [(b, .inr (1, [.int 0, .int (-1), .int 0, .int 0, .int 0, .int 0, .int 0, .int 0, .int 0, .ref q1, .ref q2, .null, .null, .null, .null, .null, .null, .null, .null, .null, .null, .null, .null, .null, .null, .null, .null, .null])), (q1, .inl (cI, 40, .inl (fun _ => 0))), (q2, .inl (cI, 40, .inl (fun _ => 0)))]) h FX1ok 0 10 hnm dX1_init_62 flX1_42 rfl rfl (by decide) rfl rfl rfl rfl rfl (Nat.le_of_ble_eq_true rfl) rfl ?_
  refine kr_aload_n h dX1_init_65 rfl 0 rfl ?_
  refine kr_bipush (v := 40) h dX1_init_66 (by decide) ?_
  refine kr_newa (a0 := (40, .inl (fun _ => 0))) h 0 aw_I rfl rfl (fun _ _ h => h) (fun _ => rfl) (by decide) rfl (Nat.le_of_ble_eq_true rfl) (Nat.le_of_ble_eq_true rfl) (Nat.le_of_ble_eq_true rfl) dX1_init_68 (fun q3 => ?_)
  refine kr_putF (ws' := [(b, .inr (1, [.int 0, .int (-1), .int 0, .int 0, .int 0, .int 0, .int 0, .int 0, .int 0, .ref q1, .ref q2, .ref q3, .null, .null, .null, .null, .null, .null, .null, .null, .null, .null, .null, .null, .null, .null, .null, .null])), (q1, .inl (cI, 40, .inl (fun _ => 0))), (q2, .inl (cI, 40, .inl (fun _ => 0))), (q3, .inl (cI, 40, .inl (fun _ => 0)))]) h FX1ok 0 11 hnm dX1_init_70 flX1_45 rfl rfl (by decide) rfl rfl rfl rfl rfl (Nat.le_of_ble_eq_true rfl) rfl ?_
  refine kr_aload_n h dX1_init_73 rfl 0 rfl ?_
  refine kr_bipush (v := 40) h dX1_init_74 (by decide) ?_
  refine kr_newa (a0 := (40, .inl (fun _ => 0))) h 0 aw_I rfl rfl (fun _ _ h => h) (fun _ => rfl) (by decide) rfl (Nat.le_of_ble_eq_true rfl) (Nat.le_of_ble_eq_true rfl) (Nat.le_of_ble_eq_true rfl) dX1_init_76 (fun q4 => ?_)
  refine kr_putF (ws' := [(b, .inr (1, [.int 0, .int (-1), .int 0, .int 0, .int 0, .int 0, .int 0, .int 0, .int 0, .ref q1, .ref q2, .ref q3, .ref q4, .null, .null, .null, .null, .null, .null, .null, .null, .null, .null, .null, .null, .null, .null, .null])), (q1, .inl (cI, 40, .inl (fun _ => 0))), (q2, .inl (cI, 40, .inl (fun _ => 0))), (q3, .inl (cI, 40, .inl (fun _ => 0))), (q4, .inl (cI, 40, .inl (fun _ => 0)))]) h FX1ok 0 12 hnm dX1_init_78 flX1_48 rfl rfl (by decide) rfl rfl rfl rfl rfl (Nat.le_of_ble_eq_true rfl) rfl ?_
  refine kr_aload_n h dX1_init_81 rfl 0 rfl ?_
  refine kr_bipush (v := 40) h dX1_init_82 (by decide) ?_
  refine kr_newa (a0 := (40, .inl (fun _ => 0))) h 0 aw_I rfl rfl (fun _ _ h => h) (fun _ => rfl) (by decide) rfl (Nat.le_of_ble_eq_true rfl) (Nat.le_of_ble_eq_true rfl) (Nat.le_of_ble_eq_true rfl) dX1_init_84 (fun q5 => ?_)
  refine kr_putF (ws' := [(b, .inr (1, [.int 0, .int (-1), .int 0, .int 0, .int 0, .int 0, .int 0, .int 0, .int 0, .ref q1, .ref q2, .ref q3, .ref q4, .ref q5, .null, .null, .null, .null, .null, .null, .null, .null, .null, .null, .null, .null, .null, .null])), (q1, .inl (cI, 40, .inl (fun _ => 0))), (q2, .inl (cI, 40, .inl (fun _ => 0))), (q3, .inl (cI, 40, .inl (fun _ => 0))), (q4, .inl (cI, 40, .inl (fun _ => 0))), (q5, .inl (cI, 40, .inl (fun _ => 0)))]) h FX1ok 0 13 hnm dX1_init_86 flX1_51 rfl rfl (by decide) rfl rfl rfl rfl rfl (Nat.le_of_ble_eq_true rfl) rfl ?_
  refine kr_aload_n h dX1_init_89 rfl 0 rfl ?_
  refine kr_bipush (v := 40) h dX1_init_90 (by decide) ?_
  refine kr_newa (a0 := (40, .inl (fun _ => 0))) h 0 aw_I rfl rfl (fun _ _ h => h) (fun _ => rfl) (by decide) rfl (Nat.le_of_ble_eq_true rfl) (Nat.le_of_ble_eq_true rfl) (Nat.le_of_ble_eq_true rfl) dX1_init_92 (fun q6 => ?_)
  refine kr_putF (ws' := [(b, .inr (1, [.int 0, .int (-1), .int 0, .int 0, .int 0, .int 0, .int 0, .int 0, .int 0, .ref q1, .ref q2, .ref q3, .ref q4, .ref q5, .ref q6, .null, .null, .null, .null, .null, .null, .null, .null, .null, .null, .null, .null, .null])), (q1, .inl (cI, 40, .inl (fun _ => 0))), (q2, .inl (cI, 40, .inl (fun _ => 0))), (q3, .inl (cI, 40, .inl (fun _ => 0))), (q4, .inl (cI, 40, .inl (fun _ => 0))), (q5, .inl (cI, 40, .inl (fun _ => 0))), (q6, .inl (cI, 40, .inl (fun _ => 0)))]) h FX1ok 0 14 hnm dX1_init_94 flX1_54 rfl rfl (by decide) rfl rfl rfl rfl rfl (Nat.le_of_ble_eq_true rfl) rfl ?_
  refine kr_aload_n h dX1_init_97 rfl 0 rfl ?_
  refine kr_bipush (v := 40) h dX1_init_98 (by decide) ?_
  refine kr_newa (a0 := (40, .inl (fun _ => 0))) h 1 aw_Z rfl rfl (fun _ _ h => h) (fun _ => rfl) (by decide) rfl (Nat.le_of_ble_eq_true rfl) (Nat.le_of_ble_eq_true rfl) (Nat.le_of_ble_eq_true rfl) dX1_init_100 (fun q7 => ?_)
  refine kr_putF (ws' := [(b, .inr (1, [.int 0, .int (-1), .int 0, .int 0, .int 0, .int 0, .int 0, .int 0, .int 0, .ref q1, .ref q2, .ref q3, .ref q4, .ref q5, .ref q6, .ref q7, .null, .null, .null, .null, .null, .null, .null, .null, .null, .null, .null, .null])), (q1, .inl (cI, 40, .inl (fun _ => 0))), (q2, .inl (cI, 40, .inl (fun _ => 0))), (q3, .inl (cI, 40, .inl (fun _ => 0))), (q4, .inl (cI, 40, .inl (fun _ => 0))), (q5, .inl (cI, 40, .inl (fun _ => 0))), (q6, .inl (cI, 40, .inl (fun _ => 0))), (q7, .inl (cZ, 40, .inl (fun _ => 0)))]) h FX1ok 0 15 hnm dX1_init_102 flX1_57 rfl rfl (by decide) rfl rfl rfl rfl rfl (Nat.le_of_ble_eq_true rfl) rfl ?_
  refine kr_aload_n h dX1_init_105 rfl 0 rfl ?_
  refine kr_bipush (v := 40) h dX1_init_106 (by decide) ?_
  refine kr_newa (a0 := (40, .inl (fun _ => 0))) h 1 aw_Z rfl rfl (fun _ _ h => h) (fun _ => rfl) (by decide) rfl (Nat.le_of_ble_eq_true rfl) (Nat.le_of_ble_eq_true rfl) (Nat.le_of_ble_eq_true rfl) dX1_init_108 (fun q8 => ?_)
  refine kr_putF (ws' := [(b, .inr (1, [.int 0, .int (-1), .int 0, .int 0, .int 0, .int 0, .int 0, .int 0, .int 0, .ref q1, .ref q2, .ref q3, .ref q4, .ref q5, .ref q6, .ref q7, .ref q8, .null, .null, .null, .null, .null, .null, .null, .null, .null, .null, .null])), (q1, .inl (cI, 40, .inl (fun _ => 0))), (q2, .inl (cI, 40, .inl (fun _ => 0))), (q3, .inl (cI, 40, .inl (fun _ => 0))), (q4, .inl (cI, 40, .inl (fun _ => 0))), (q5, .inl (cI, 40, .inl (fun _ => 0))), (q6, .inl (cI, 40, .inl (fun _ => 0))), (q7, .inl (cZ, 40, .inl (fun _ => 0))), (q8, .inl (cZ, 40, .inl (fun _ => 0)))]) h FX1ok 0 16 hnm dX1_init_110 flX1_61 rfl rfl (by decide) rfl rfl rfl rfl rfl (Nat.le_of_ble_eq_true rfl) rfl ?_
  refine kr_aload_n h dX1_init_113 rfl 0 rfl ?_
  refine kr_bipush (v := 96) h dX1_init_114 (by decide) ?_
  refine kr_newa (a0 := (96, .inl (fun _ => 0))) h 0 aw_I rfl rfl (fun _ _ h => h) (fun _ => rfl) (by decide) rfl (Nat.le_of_ble_eq_true rfl) (Nat.le_of_ble_eq_true rfl) (Nat.le_of_ble_eq_true rfl) dX1_init_116 (fun q9 => ?_)
  refine kr_putF (ws' := [(b, .inr (1, [.int 0, .int (-1), .int 0, .int 0, .int 0, .int 0, .int 0, .int 0, .int 0, .ref q1, .ref q2, .ref q3, .ref q4, .ref q5, .ref q6, .ref q7, .ref q8, .ref q9, .null, .null, .null, .null, .null, .null, .null, .null, .null, .null])), (q1, .inl (cI, 40, .inl (fun _ => 0))), (q2, .inl (cI, 40, .inl (fun _ => 0))), (q3, .inl (cI, 40, .inl (fun _ => 0))), (q4, .inl (cI, 40, .inl (fun _ => 0))), (q5, .inl (cI, 40, .inl (fun _ => 0))), (q6, .inl (cI, 40, .inl (fun _ => 0))), (q7, .inl (cZ, 40, .inl (fun _ => 0))), (q8, .inl (cZ, 40, .inl (fun _ => 0))), (q9, .inl (cI, 96, .inl (fun _ => 0)))]) h FX1ok 0 17 hnm dX1_init_118 flX1_64 rfl rfl (by decide) rfl rfl rfl rfl rfl (Nat.le_of_ble_eq_true rfl) rfl ?_
  refine kr_aload_n h dX1_init_121 rfl 0 rfl ?_
  refine kr_bipush (v := 8) h dX1_init_122 (by decide) ?_
  refine kr_newa (a0 := (8, .inl (fun _ => 0))) h 0 aw_I rfl rfl (fun _ _ h => h) (fun _ => rfl) (by decide) rfl (Nat.le_of_ble_eq_true rfl) (Nat.le_of_ble_eq_true rfl) (Nat.le_of_ble_eq_true rfl) dX1_init_124 (fun q10 => ?_)
  refine kr_putF (ws' := [(b, .inr (1, [.int 0, .int (-1), .int 0, .int 0, .int 0, .int 0, .int 0, .int 0, .int 0, .ref q1, .ref q2, .ref q3, .ref q4, .ref q5, .ref q6, .ref q7, .ref q8, .ref q9, .ref q10, .null, .null, .null, .null, .null, .null, .null, .null, .null])), (q1, .inl (cI, 40, .inl (fun _ => 0))), (q2, .inl (cI, 40, .inl (fun _ => 0))), (q3, .inl (cI, 40, .inl (fun _ => 0))), (q4, .inl (cI, 40, .inl (fun _ => 0))), (q5, .inl (cI, 40, .inl (fun _ => 0))), (q6, .inl (cI, 40, .inl (fun _ => 0))), (q7, .inl (cZ, 40, .inl (fun _ => 0))), (q8, .inl (cZ, 40, .inl (fun _ => 0))), (q9, .inl (cI, 96, .inl (fun _ => 0))), (q10, .inl (cI, 8, .inl (fun _ => 0)))]) h FX1ok 0 18 hnm dX1_init_126 flX1_67 rfl rfl (by decide) rfl rfl rfl rfl rfl (Nat.le_of_ble_eq_true rfl) rfl ?_
  refine kr_aload_n h dX1_init_129 rfl 0 rfl ?_
  refine kr_bipush (v := 16) h dX1_init_130 (by decide) ?_
  refine kr_newa (a0 := (16, .inl (fun _ => 0))) h 0 aw_I rfl rfl (fun _ _ h => h) (fun _ => rfl) (by decide) rfl (Nat.le_of_ble_eq_true rfl) (Nat.le_of_ble_eq_true rfl) (Nat.le_of_ble_eq_true rfl) dX1_init_132 (fun q11 => ?_)
  refine kr_putF (ws' := [(b, .inr (1, [.int 0, .int (-1), .int 0, .int 0, .int 0, .int 0, .int 0, .int 0, .int 0, .ref q1, .ref q2, .ref q3, .ref q4, .ref q5, .ref q6, .ref q7, .ref q8, .ref q9, .ref q10, .ref q11, .null, .null, .null, .null, .null, .null, .null, .null])), (q1, .inl (cI, 40, .inl (fun _ => 0))), (q2, .inl (cI, 40, .inl (fun _ => 0))), (q3, .inl (cI, 40, .inl (fun _ => 0))), (q4, .inl (cI, 40, .inl (fun _ => 0))), (q5, .inl (cI, 40, .inl (fun _ => 0))), (q6, .inl (cI, 40, .inl (fun _ => 0))), (q7, .inl (cZ, 40, .inl (fun _ => 0))), (q8, .inl (cZ, 40, .inl (fun _ => 0))), (q9, .inl (cI, 96, .inl (fun _ => 0))), (q10, .inl (cI, 8, .inl (fun _ => 0))), (q11, .inl (cI, 16, .inl (fun _ => 0)))]) h FX1ok 0 19 hnm dX1_init_134 flX1_70 rfl rfl (by decide) rfl rfl rfl rfl rfl (Nat.le_of_ble_eq_true rfl) rfl ?_
  refine kr_aload_n h dX1_init_137 rfl 0 rfl ?_
  refine kr_bipush (v := 40) h dX1_init_138 (by decide) ?_
  refine kr_newa (a0 := (40, .inl (fun _ => 0))) h 0 aw_I rfl rfl (fun _ _ h => h) (fun _ => rfl) (by decide) rfl (Nat.le_of_ble_eq_true rfl) (Nat.le_of_ble_eq_true rfl) (Nat.le_of_ble_eq_true rfl) dX1_init_140 (fun q12 => ?_)
  refine kr_putF (ws' := [(b, .inr (1, [.int 0, .int (-1), .int 0, .int 0, .int 0, .int 0, .int 0, .int 0, .int 0, .ref q1, .ref q2, .ref q3, .ref q4, .ref q5, .ref q6, .ref q7, .ref q8, .ref q9, .ref q10, .ref q11, .ref q12, .null, .null, .null, .null, .null, .null, .null])), (q1, .inl (cI, 40, .inl (fun _ => 0))), (q2, .inl (cI, 40, .inl (fun _ => 0))), (q3, .inl (cI, 40, .inl (fun _ => 0))), (q4, .inl (cI, 40, .inl (fun _ => 0))), (q5, .inl (cI, 40, .inl (fun _ => 0))), (q6, .inl (cI, 40, .inl (fun _ => 0))), (q7, .inl (cZ, 40, .inl (fun _ => 0))), (q8, .inl (cZ, 40, .inl (fun _ => 0))), (q9, .inl (cI, 96, .inl (fun _ => 0))), (q10, .inl (cI, 8, .inl (fun _ => 0))), (q11, .inl (cI, 16, .inl (fun _ => 0))), (q12, .inl (cI, 40, .inl (fun _ => 0)))]) h FX1ok 0 20 hnm dX1_init_142 flX1_73 rfl rfl (by decide) rfl rfl rfl rfl rfl (Nat.le_of_ble_eq_true rfl) rfl ?_
  refine kr_aload_n h dX1_init_145 rfl 0 rfl ?_
  refine kr_bipush (v := 40) h dX1_init_146 (by decide) ?_
  refine kr_newa (a0 := (40, .inl (fun _ => 0))) h 0 aw_I rfl rfl (fun _ _ h => h) (fun _ => rfl) (by decide) rfl (Nat.le_of_ble_eq_true rfl) (Nat.le_of_ble_eq_true rfl) (Nat.le_of_ble_eq_true rfl) dX1_init_148 (fun q13 => ?_)
  refine kr_putF (ws' := [(b, .inr (1, [.int 0, .int (-1), .int 0, .int 0, .int 0, .int 0, .int 0, .int 0, .int 0, .ref q1, .ref q2, .ref q3, .ref q4, .ref q5, .ref q6, .ref q7, .ref q8, .ref q9, .ref q10, .ref q11, .ref q12, .ref q13, .null, .null, .null, .null, .null, .null])), (q1, .inl (cI, 40, .inl (fun _ => 0))), (q2, .inl (cI, 40, .inl (fun _ => 0))), (q3, .inl (cI, 40, .inl (fun _ => 0))), (q4, .inl (cI, 40, .inl (fun _ => 0))), (q5, .inl (cI, 40, .inl (fun _ => 0))), (q6, .inl (cI, 40, .inl (fun _ => 0))), (q7, .inl (cZ, 40, .inl (fun _ => 0))), (q8, .inl (cZ, 40, .inl (fun _ => 0))), (q9, .inl (cI, 96, .inl (fun _ => 0))), (q10, .inl (cI, 8, .inl (fun _ => 0))), (q11, .inl (cI, 16, .inl (fun _ => 0))), (q12, .inl (cI, 40, .inl (fun _ => 0))), (q13, .inl (cI, 40, .inl (fun _ => 0)))]) h FX1ok 0 21 hnm dX1_init_150 flX1_76 rfl rfl (by decide) rfl rfl rfl rfl rfl (Nat.le_of_ble_eq_true rfl) rfl ?_
  refine kr_aload_n h dX1_init_153 rfl 0 rfl ?_
  refine kr_bipush (v := 40) h dX1_init_154 (by decide) ?_
  refine kr_newa (a0 := (40, .inl (fun _ => 0))) h 0 aw_I rfl rfl (fun _ _ h => h) (fun _ => rfl) (by decide) rfl (Nat.le_of_ble_eq_true rfl) (Nat.le_of_ble_eq_true rfl) (Nat.le_of_ble_eq_true rfl) dX1_init_156 (fun q14 => ?_)
  refine kr_putF (ws' := [(b, .inr (1, [.int 0, .int (-1), .int 0, .int 0, .int 0, .int 0, .int 0, .int 0, .int 0, .ref q1, .ref q2, .ref q3, .ref q4, .ref q5, .ref q6, .ref q7, .ref q8, .ref q9, .ref q10, .ref q11, .ref q12, .ref q13, .ref q14, .null, .null, .null, .null, .null])), (q1, .inl (cI, 40, .inl (fun _ => 0))), (q2, .inl (cI, 40, .inl (fun _ => 0))), (q3, .inl (cI, 40, .inl (fun _ => 0))), (q4, .inl (cI, 40, .inl (fun _ => 0))), (q5, .inl (cI, 40, .inl (fun _ => 0))), (q6, .inl (cI, 40, .inl (fun _ => 0))), (q7, .inl (cZ, 40, .inl (fun _ => 0))), (q8, .inl (cZ, 40, .inl (fun _ => 0))), (q9, .inl (cI, 96, .inl (fun _ => 0))), (q10, .inl (cI, 8, .inl (fun _ => 0))), (q11, .inl (cI, 16, .inl (fun _ => 0))), (q12, .inl (cI, 40, .inl (fun _ => 0))), (q13, .inl (cI, 40, .inl (fun _ => 0))), (q14, .inl (cI, 40, .inl (fun _ => 0)))]) h FX1ok 0 22 hnm dX1_init_158 flX1_79 rfl rfl (by decide) rfl rfl rfl rfl rfl (Nat.le_of_ble_eq_true rfl) rfl ?_
  refine kr_aload_n h dX1_init_161 rfl 0 rfl ?_
  refine kr_bipush (v := 40) h dX1_init_162 (by decide) ?_
  refine kr_newa (a0 := (40, .inl (fun _ => 0))) h 0 aw_I rfl rfl (fun _ _ h => h) (fun _ => rfl) (by decide) rfl (Nat.le_of_ble_eq_true rfl) (Nat.le_of_ble_eq_true rfl) (Nat.le_of_ble_eq_true rfl) dX1_init_164 (fun q15 => ?_)
  refine kr_putF (ws' := [(b, .inr (1, [.int 0, .int (-1), .int 0, .int 0, .int 0, .int 0, .int 0, .int 0, .int 0, .ref q1, .ref q2, .ref q3, .ref q4, .ref q5, .ref q6, .ref q7, .ref q8, .ref q9, .ref q10, .ref q11, .ref q12, .ref q13, .ref q14, .ref q15, .null, .null, .null, .null])), (q1, .inl (cI, 40, .inl (fun _ => 0))), (q2, .inl (cI, 40, .inl (fun _ => 0))), (q3, .inl (cI, 40, .inl (fun _ => 0))), (q4, .inl (cI, 40, .inl (fun _ => 0))), (q5, .inl (cI, 40, .inl (fun _ => 0))), (q6, .inl (cI, 40, .inl (fun _ => 0))), (q7, .inl (cZ, 40, .inl (fun _ => 0))), (q8, .inl (cZ, 40, .inl (fun _ => 0))), (q9, .inl (cI, 96, .inl (fun _ => 0))), (q10, .inl (cI, 8, .inl (fun _ => 0))), (q11, .inl (cI, 16, .inl (fun _ => 0))), (q12, .inl (cI, 40, .inl (fun _ => 0))), (q13, .inl (cI, 40, .inl (fun _ => 0))), (q14, .inl (cI, 40, .inl (fun _ => 0))), (q15, .inl (cI, 40, .inl (fun _ => 0)))]) h FX1ok 0 23 hnm dX1_init_166 flX1_82 rfl rfl (by decide) rfl rfl rfl rfl rfl (Nat.le_of_ble_eq_true rfl) rfl ?_
  refine kr_aload_n h dX1_init_169 rfl 0 rfl ?_
  refine kr_bipush (v := 40) h dX1_init_170 (by decide) ?_
  refine kr_newa (a0 := (40, .inl (fun _ => 0))) h 0 aw_I rfl rfl (fun _ _ h => h) (fun _ => rfl) (by decide) rfl (Nat.le_of_ble_eq_true rfl) (Nat.le_of_ble_eq_true rfl) (Nat.le_of_ble_eq_true rfl) dX1_init_172 (fun q16 => ?_)
  refine kr_putF (ws' := [(b, .inr (1, [.int 0, .int (-1), .int 0, .int 0, .int 0, .int 0, .int 0, .int 0, .int 0, .ref q1, .ref q2, .ref q3, .ref q4, .ref q5, .ref q6, .ref q7, .ref q8, .ref q9, .ref q10, .ref q11, .ref q12, .ref q13, .ref q14, .ref q15, .ref q16, .null, .null, .null])), (q1, .inl (cI, 40, .inl (fun _ => 0))), (q2, .inl (cI, 40, .inl (fun _ => 0))), (q3, .inl (cI, 40, .inl (fun _ => 0))), (q4, .inl (cI, 40, .inl (fun _ => 0))), (q5, .inl (cI, 40, .inl (fun _ => 0))), (q6, .inl (cI, 40, .inl (fun _ => 0))), (q7, .inl (cZ, 40, .inl (fun _ => 0))), (q8, .inl (cZ, 40, .inl (fun _ => 0))), (q9, .inl (cI, 96, .inl (fun _ => 0))), (q10, .inl (cI, 8, .inl (fun _ => 0))), (q11, .inl (cI, 16, .inl (fun _ => 0))), (q12, .inl (cI, 40, .inl (fun _ => 0))), (q13, .inl (cI, 40, .inl (fun _ => 0))), (q14, .inl (cI, 40, .inl (fun _ => 0))), (q15, .inl (cI, 40, .inl (fun _ => 0))), (q16, .inl (cI, 40, .inl (fun _ => 0)))]) h FX1ok 0 24 hnm dX1_init_174 flX1_85 rfl rfl (by decide) rfl rfl rfl rfl rfl (Nat.le_of_ble_eq_true rfl) rfl ?_
  refine kr_aload_n h dX1_init_177 rfl 0 rfl ?_
  refine kr_bipush (v := 40) h dX1_init_178 (by decide) ?_
  refine kr_newa (a0 := (40, .inl (fun _ => 0))) h 0 aw_I rfl rfl (fun _ _ h => h) (fun _ => rfl) (by decide) rfl (Nat.le_of_ble_eq_true rfl) (Nat.le_of_ble_eq_true rfl) (Nat.le_of_ble_eq_true rfl) dX1_init_180 (fun q17 => ?_)
  refine kr_putF (ws' := [(b, .inr (1, [.int 0, .int (-1), .int 0, .int 0, .int 0, .int 0, .int 0, .int 0, .int 0, .ref q1, .ref q2, .ref q3, .ref q4, .ref q5, .ref q6, .ref q7, .ref q8, .ref q9, .ref q10, .ref q11, .ref q12, .ref q13, .ref q14, .ref q15, .ref q16, .ref q17, .null, .null])), (q1, .inl (cI, 40, .inl (fun _ => 0))), (q2, .inl (cI, 40, .inl (fun _ => 0))), (q3, .inl (cI, 40, .inl (fun _ => 0))), (q4, .inl (cI, 40, .inl (fun _ => 0))), (q5, .inl (cI, 40, .inl (fun _ => 0))), (q6, .inl (cI, 40, .inl (fun _ => 0))), (q7, .inl (cZ, 40, .inl (fun _ => 0))), (q8, .inl (cZ, 40, .inl (fun _ => 0))), (q9, .inl (cI, 96, .inl (fun _ => 0))), (q10, .inl (cI, 8, .inl (fun _ => 0))), (q11, .inl (cI, 16, .inl (fun _ => 0))), (q12, .inl (cI, 40, .inl (fun _ => 0))), (q13, .inl (cI, 40, .inl (fun _ => 0))), (q14, .inl (cI, 40, .inl (fun _ => 0))), (q15, .inl (cI, 40, .inl (fun _ => 0))), (q16, .inl (cI, 40, .inl (fun _ => 0))), (q17, .inl (cI, 40, .inl (fun _ => 0)))]) h FX1ok 0 25 hnm dX1_init_182 flX1_88 rfl rfl (by decide) rfl rfl rfl rfl rfl (Nat.le_of_ble_eq_true rfl) rfl ?_
  refine kr_aload_n h dX1_init_185 rfl 0 rfl ?_
  refine kr_bipush (v := 6) h dX1_init_186 (by decide) ?_
  refine kr_newa (a0 := (6, .inl (fun _ => 0))) h 0 aw_I rfl rfl (fun _ _ h => h) (fun _ => rfl) (by decide) rfl (Nat.le_of_ble_eq_true rfl) (Nat.le_of_ble_eq_true rfl) (Nat.le_of_ble_eq_true rfl) dX1_init_188 (fun q18 => ?_)
  refine kr_putF (ws' := [(b, .inr (1, [.int 0, .int (-1), .int 0, .int 0, .int 0, .int 0, .int 0, .int 0, .int 0, .ref q1, .ref q2, .ref q3, .ref q4, .ref q5, .ref q6, .ref q7, .ref q8, .ref q9, .ref q10, .ref q11, .ref q12, .ref q13, .ref q14, .ref q15, .ref q16, .ref q17, .ref q18, .null])), (q1, .inl (cI, 40, .inl (fun _ => 0))), (q2, .inl (cI, 40, .inl (fun _ => 0))), (q3, .inl (cI, 40, .inl (fun _ => 0))), (q4, .inl (cI, 40, .inl (fun _ => 0))), (q5, .inl (cI, 40, .inl (fun _ => 0))), (q6, .inl (cI, 40, .inl (fun _ => 0))), (q7, .inl (cZ, 40, .inl (fun _ => 0))), (q8, .inl (cZ, 40, .inl (fun _ => 0))), (q9, .inl (cI, 96, .inl (fun _ => 0))), (q10, .inl (cI, 8, .inl (fun _ => 0))), (q11, .inl (cI, 16, .inl (fun _ => 0))), (q12, .inl (cI, 40, .inl (fun _ => 0))), (q13, .inl (cI, 40, .inl (fun _ => 0))), (q14, .inl (cI, 40, .inl (fun _ => 0))), (q15, .inl (cI, 40, .inl (fun _ => 0))), (q16, .inl (cI, 40, .inl (fun _ => 0))), (q17, .inl (cI, 40, .inl (fun _ => 0))), (q18, .inl (cI, 6, .inl (fun _ => 0)))]) h FX1ok 0 26 hnm dX1_init_190 flX1_91 rfl rfl (by decide) rfl rfl rfl rfl rfl (Nat.le_of_ble_eq_true rfl) rfl ?_
  refine kr_aload_n h dX1_init_193 rfl 0 rfl ?_
  refine kr_bipush (v := 6) h dX1_init_194 (by decide) ?_
  refine kr_newa (a0 := (6, .inl (fun _ => 0))) h 0 aw_I rfl rfl (fun _ _ h => h) (fun _ => rfl) (by decide) rfl (Nat.le_of_ble_eq_true rfl) (Nat.le_of_ble_eq_true rfl) (Nat.le_of_ble_eq_true rfl) dX1_init_196 (fun q19 => ?_)
  refine kr_putF (ws' := [(b, .inr (1, [.int 0, .int (-1), .int 0, .int 0, .int 0, .int 0, .int 0, .int 0, .int 0, .ref q1, .ref q2, .ref q3, .ref q4, .ref q5, .ref q6, .ref q7, .ref q8, .ref q9, .ref q10, .ref q11, .ref q12, .ref q13, .ref q14, .ref q15, .ref q16, .ref q17, .ref q18, .ref q19])), (q1, .inl (cI, 40, .inl (fun _ => 0))), (q2, .inl (cI, 40, .inl (fun _ => 0))), (q3, .inl (cI, 40, .inl (fun _ => 0))), (q4, .inl (cI, 40, .inl (fun _ => 0))), (q5, .inl (cI, 40, .inl (fun _ => 0))), (q6, .inl (cI, 40, .inl (fun _ => 0))), (q7, .inl (cZ, 40, .inl (fun _ => 0))), (q8, .inl (cZ, 40, .inl (fun _ => 0))), (q9, .inl (cI, 96, .inl (fun _ => 0))), (q10, .inl (cI, 8, .inl (fun _ => 0))), (q11, .inl (cI, 16, .inl (fun _ => 0))), (q12, .inl (cI, 40, .inl (fun _ => 0))), (q13, .inl (cI, 40, .inl (fun _ => 0))), (q14, .inl (cI, 40, .inl (fun _ => 0))), (q15, .inl (cI, 40, .inl (fun _ => 0))), (q16, .inl (cI, 40, .inl (fun _ => 0))), (q17, .inl (cI, 40, .inl (fun _ => 0))), (q18, .inl (cI, 6, .inl (fun _ => 0))), (q19, .inl (cI, 6, .inl (fun _ => 0)))]) h FX1ok 0 27 hnm dX1_init_198 flX1_94 rfl rfl (by decide) rfl rfl rfl rfl rfl (Nat.le_of_ble_eq_true rfl) rfl ?_
  refine kr_iconst (v := 0) h dX1_init_201 (by decide) ?_
  refine kr_istore_n (lv' := [(1, .int 0), (0, .ref b)]) h dX1_init_202 rfl (by decide) rfl ?_
  refine lp_initX1 h (fun i9 => ?_) 97 0 0 (fun _ => 0) rfl (by omega) (by omega) (fun j hj => absurd hj (by omega)) (fun j _ => rfl)
  exact kr_vretE h hr hlk dX1_init_222 ⟨fun k => match k with
    | 0 => b
    | 1 => q1
    | 2 => q2
    | 3 => q3
    | 4 => q4
    | 5 => q5
    | 6 => q6
    | 7 => q7
    | 8 => q8
    | 9 => q9
    | 10 => q10
    | 11 => q11
    | 12 => q12
    | 13 => q13
    | 14 => q14
    | 15 => q15
    | 16 => q16
    | 17 => q17
    | 18 => q18
    | _ => q19, rfl, rfl⟩
