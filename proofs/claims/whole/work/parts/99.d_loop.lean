/-! the law: its loop, its start -/
set_option maxHeartbeats 4000000 in
set_option maxRecDepth 100000 in
theorem lp_law {p : Program} {l : Launch} {e : Env} {s : State} {m : MethodId} {below : List Frame} {meth : Method} {c : Code} {D : va_G} {cI cZ cJ : ClassId} {A : Nat → Prop} {b L o : Nat} {xs : Nat → Int32} {q r : Nat → Nat} (h : kc_C p s m #[Value.ref b] c cL_law 7 RL D vwCl (tyL cI cZ cJ) A) (hst : l.stackTraces = false) (hT : kc_T A s) (hX : va_X b L xs s s.heap) (hbl : b < s.heap.size) (hbA : ¬ A b) (hL : L ≤ 2560) (hret : meth.sig.returnType = ret) (hlk : meth.locks = false) (hAs : ∀ z, A z → s.heap.size ≤ z) : ∀ (n t : Nat) (i : Int32) (X x : xSt) (f : Nat → Int64), L + 5 - 5 * t < n → 5 * t ≤ 2565 → i = nI (5 * t) → xWF X → yRel X x → kc_W p l e room_1 s m #[Value.ref b] below meth c D vwCl A 7 (lw_Z below #[Value.ref b] s) 23 [(4, .int i), (3, .ref o), (2, .ref (r 0)), (1, .ref (q 0)), (0, .ref b)] [] (WL cI cZ cJ q r o X x f) (33 + t, 2000 + 6 * t) := by
  intro n
  induction n with
  | zero => intro t i X x f hn; exact absurd hn (Nat.not_lt_zero _)
  | succ n ih =>
    intro t i X x f hn ht hi hw hr
    refine kr_iload h dL_law_23 0 rfl ?_
    refine kr_aload_n h dL_law_25 rfl 4 rfl ?_
    refine kr_slen h hX hbl hbA dL_law_26 ?_
    refine kr_iconst (v := 5) h dL_law_27 (by decide) ?_
    refine kr_isub h dL_law_28 (fun v28 e28 => ?_)
    refine kr_icmp_gt h 685 dL_law_29 (by decide) (fun c29 => ?_) (fun c29 => ?_)
    · refine kr_iconst (v := 1) h dL_law_685 (by decide) ?_
      exact kr_wide (u2 := (601024, 7293034)) (by show 33 + t ≤ 601024; omega) (by show 2000 + 6 * t ≤ 7293034; omega) (kr_lret h hret hlk hAs dL_law_686)
    · have h5 := head_in hL ht hi e28 c29
      have hu1 : (33 + t, 2000 + 6 * t).1 + 1 ≤ room_1.cells := by show 33 + t + 1 ≤ 601024; omega
      have hu2 : (33 + t, 2000 + 6 * t).2 + 6 ≤ room_1.slots := by show 2000 + 6 * t + 6 ≤ 7293034; omega
      have kk : ∀ (X' x' : xSt) (f' : Nat → Int64), xWF X' → yRel X' x' → kc_W p l e room_1 s m #[Value.ref b] below meth c D vwCl A 7 (lw_Z below #[Value.ref b] s) 679 [(4, .int i), (3, .ref o), (2, .ref (r 0)), (1, .ref (q 0)), (0, .ref b)] [] (WL cI cZ cJ q r o X' x' f') (33 + t + 1, 2000 + 6 * t + 6) := by
        intro X' x' f' hw' hr'
        obtain ⟨v9, e9⟩ : ∃ z : Int32, z = i + 5 := ⟨_, rfl⟩
        refine kr_iinc (lv' := [(4, .int v9), (3, .ref o), (2, .ref (r 0)), (1, .ref (q 0)), (0, .ref b)]) (k := 0) h dL_law_679 rfl (by rw [e9]; rfl) (by decide) rfl ?_
        refine kr_goto h 23 dL_law_682 (by decide) ?_
        exact ih (t + 1) v9 X' x' f' (by omega) (by omega) (by rw [e9, hi]; exact nI_add (5 * t) 5) hw' hr'
      refine kr_aload_n h dL_law_32 rfl 4 rfl ?_
      refine kr_iload h dL_law_33 0 rfl ?_
      refine kr_sld h hX hbl hbA dL_law_35 (by rw [hi]; exact vp_in_nI (by omega) (by omega)) (fun v35 e35 => ?_)
      refine kr_bipush (v := 15) h dL_law_36 (by decide) ?_
      refine kr_iand h dL_law_38 (fun v38 e38 => ?_)
      rcases kc_sw v38 0 10 with hj | ⟨j, hl0, hj, ej⟩
      · refine kr_tabOut h 679 dL_law_39 (by omega) (by decide) ?_
        exact kr_wide (Nat.le_add_right _ 1) (Nat.le_add_right _ 6) (kk X x f hw hr)
      · have hg : j = 0 ∨ j = 1 ∨ j = 2 ∨ j = 3 ∨ j = 4 ∨ j = 5 ∨ j = 6 ∨ j = 7 ∨ j = 8 ∨ j = 9 := by omega
        rcases hg with hg | hg | hg | hg | hg | hg | hg | hg | hg | hg
        · exact kr_tab h 92 dL_law_39 (by rw [ej, hg]; decide +kernel) (lc_table h hst hT hX hbl hbA hL h5 hi hw hr hu1 hu2 kk)
        · exact kr_tab h 184 dL_law_39 (by rw [ej, hg]; decide +kernel) (lc_policy h hst hT hX hbl hbA hL h5 hi hw hr hu1 hu2 kk)
        · exact kr_tab h 276 dL_law_39 (by rw [ej, hg]; decide +kernel) (lc_install h hst hT hX hbl hbA hL h5 hi hw hr hu1 hu2 kk)
        · exact kr_tab h 332 dL_law_39 (by rw [ej, hg]; decide +kernel) (lc_act h hst hT hX hbl hbA hL h5 hi hw hr hu1 hu2 kk)
        · exact kr_tab h 400 dL_law_39 (by rw [ej, hg]; decide +kernel) (lc_ask h hst hT hX hbl hbA hL h5 hi hw hr hu1 hu2 kk)
        · exact kr_tab h 468 dL_law_39 (by rw [ej, hg]; decide +kernel) (lc_detail h hst hT hX hbl hbA hL h5 hi hw hr hu1 hu2 kk)
        · exact kr_tab h 548 dL_law_39 (by rw [ej, hg]; decide +kernel) (lc_total h hst hT hX hbl hbA hL h5 hi hw hr hu1 hu2 kk)
        · exact kr_tab h 604 dL_law_39 (by rw [ej, hg]; decide +kernel) (lc_state h hst hT hX hbl hbA hL h5 hi hw hr hu1 hu2 kk)
        · exact kr_tab h 629 dL_law_39 (by rw [ej, hg]; decide +kernel) (lc_noted h hst hT hX hbl hbA hL h5 hi hw hr hu1 hu2 kk)
        · exact kr_tab h 654 dL_law_39 (by rw [ej, hg]; decide +kernel) (lc_count h hst hT hX hbl hbA hL h5 hi hw hr hu1 hu2 kk)
theorem fs_0 : ∀ j, j < 19 → defaultValue (tyX0 j) = vp_V [.null, .null, .null, .null, .null, .null, .null, .null, .null, .null, .null, .int 0, .int 0, .int 0, .int 0, .int 0, .int 0, .int 0, .int 0] j := fun j hj => by
    match j, hj with
    | 0, _ | 1, _ | 2, _ | 3, _ | 4, _ | 5, _ | 6, _ | 7, _ | 8, _ | 9, _ | 10, _ | 11, _ | 12, _ | 13, _ | 14, _ | 15, _ | 16, _ | 17, _ | 18, _ => rfl
    | k + 19, hk => exact absurd hk (by omega)
theorem fs_1 : ∀ j, j < 28 → defaultValue (tyX1 j) = vp_V [.int 0, .int 0, .int 0, .int 0, .int 0, .int 0, .int 0, .int 0, .int 0, .null, .null, .null, .null, .null, .null, .null, .null, .null, .null, .null, .null, .null, .null, .null, .null, .null, .null, .null] j := fun j hj => by
    match j, hj with
    | 0, _ | 1, _ | 2, _ | 3, _ | 4, _ | 5, _ | 6, _ | 7, _ | 8, _ | 9, _ | 10, _ | 11, _ | 12, _ | 13, _ | 14, _ | 15, _ | 16, _ | 17, _ | 18, _ | 19, _ | 20, _ | 21, _ | 22, _ | 23, _ | 24, _ | 25, _ | 26, _ | 27, _ => rfl
    | k + 28, hk => exact absurd hk (by omega)
set_option maxHeartbeats 4000000 in
set_option maxRecDepth 100000 in
theorem lw_body {p : Program} {l : Launch} {e : Env} {s : State} {m : MethodId} {below : List Frame} {meth : Method} {c : Code} {D : va_G} {cI cZ cJ : ClassId} {A : Nat → Prop} {b L : Nat} {xs : Nat → Int32} (h : kc_C p s m #[Value.ref b] c cL_law 7 RL D vwCl (tyL cI cZ cJ) A) (hst : l.stackTraces = false) (hT : kc_T A s) (hX : va_X b L xs s s.heap) (hbl : b < s.heap.size) (hbA : ¬ A b) (hL : L ≤ 2560) (hret : meth.sig.returnType = ret) (hlk : meth.locks = false) (hAs : ∀ z, A z → s.heap.size ≤ z) : kc_W p l e room_1 s m #[Value.ref b] below meth c D vwCl A 7 (lw_Z below #[Value.ref b] s) 0 [(0, .ref b)] [] [] (0, 0) := by
  refine kr_new (ci := 0) (fs := [.null, .null, .null, .null, .null, .null, .null, .null, .null, .null, .null, .int 0, .int 0, .int 0, .int 0, .int 0, .int 0, .int 0, .int 0]) h FX0ok clL_8 isX0 inX0 rfl fs_0 (Nat.le_of_ble_eq_true rfl) (Nat.le_of_ble_eq_true rfl) dL_law_0 (fun b0 => ?_)
  refine kr_dup h dL_law_3 rfl ?_
  refine kc_rI (wr := []) h (c_init l D cI cZ cJ b0) mlL_42 imX0_init inX0 cdX0_init rfl ⟨by decide, by decide, by decide +kernel⟩ dL_law_4 rfl rfl ⟨Nat.le_of_ble_eq_true rfl, Nat.le_of_ble_eq_true rfl⟩ ⟨Nat.le_of_ble_eq_true rfl, Nat.le_of_ble_eq_true rfl⟩ (Nat.le_of_ble_eq_true rfl) [0] rfl rfl [] rfl rfl (by decide) (fun w2 hw2 => ?_)
  obtain ⟨q, hq, rfl⟩ := hw2
  subst hq
  refine kr_astore_n (lv' := [(1, .ref (q 0)), (0, .ref b)]) h dL_law_7 rfl (by decide) rfl ?_
  refine kr_new (ci := 1) (fs := [.int 0, .int 0, .int 0, .int 0, .int 0, .int 0, .int 0, .int 0, .int 0, .null, .null, .null, .null, .null, .null, .null, .null, .null, .null, .null, .null, .null, .null, .null, .null, .null, .null, .null]) h FX1ok clL_43 isX1 inX1 rfl fs_1 (Nat.le_of_ble_eq_true rfl) (Nat.le_of_ble_eq_true rfl) dL_law_8 (fun b1 => ?_)
  refine kr_dup h dL_law_11 rfl ?_
  refine kc_rI (wr := wX cI cZ q xX0) h (m_init l D cI cZ cJ b1) mlL_45 imX1_init inX1 cdX1_init rfl ⟨by decide, by decide, by decide +kernel⟩ dL_law_12 rfl rfl ⟨Nat.le_of_ble_eq_true rfl, Nat.le_of_ble_eq_true rfl⟩ ⟨Nat.le_of_ble_eq_true rfl, Nat.le_of_ble_eq_true rfl⟩ (Nat.le_of_ble_eq_true rfl) [12] rfl rfl [0, 1, 2, 3, 4, 5, 6, 7, 8, 9, 10, 11] rfl rfl (by decide) (fun w3 hw3 => ?_)
  obtain ⟨r, hr, rfl⟩ := hw3
  subst hr
  refine kr_astore_n (lv' := [(2, .ref (r 0)), (1, .ref (q 0)), (0, .ref b)]) h dL_law_15 rfl (by decide) rfl ?_
  refine kr_iconst (v := 1) h dL_law_16 (by decide) ?_
  refine kr_newa (a0 := (1, .inr (.inl (fun _ => 0)))) h 2 aw_J rfl rfl (fun _ _ h => h) (fun _ => rfl) (by decide) rfl (Nat.le_of_ble_eq_true rfl) (Nat.le_of_ble_eq_true rfl) (Nat.le_of_ble_eq_true rfl) dL_law_17 (fun o => ?_)
  refine kr_ws (ws' := WL cI cZ cJ q r o xX0 yY0 (fun _ => 0)) (List.append_assoc _ _ _) ?_
  refine kr_astore_n (lv' := [(3, .ref o), (2, .ref (r 0)), (1, .ref (q 0)), (0, .ref b)]) h dL_law_19 rfl (by decide) rfl ?_
  refine kr_iconst (v := 0) h dL_law_20 (by decide) ?_
  refine kr_istore (lv' := [(4, .int 0), (3, .ref o), (2, .ref (r 0)), (1, .ref (q 0)), (0, .ref b)]) h dL_law_21 (by decide) rfl ?_
  exact kr_wide (u2 := (33 + 0, 2000 + 6 * 0)) (Nat.le_of_ble_eq_true rfl) (Nat.le_of_ble_eq_true rfl) (lp_law h hst hT hX hbl hbA hL hret hlk hAs (L + 6) 0 0 xX0 yY0 (fun _ => 0) (by omega) (by omega) rfl wf_0 rel_0)
