/-! the law: its world, its cases -/
/-- the world of the law: the class, the reference, the long -/
def WL (cI cZ cJ : ClassId) (q r : Nat → Nat) (o : Nat) (X x : xSt) (f : Nat → Int64) : va_W := wX cI cZ q X ++ (wY cI cZ r x ++ [(o, .inl (cJ, 1, .inr (.inl f)))])
def lwC : List Nat := [0, 1, 2, 3, 4, 5, 6, 7, 8, 9, 10, 11, 32]
def lwCr : List Nat := [12, 13, 14, 15, 16, 17, 18, 19, 20, 21, 22, 23, 24, 25, 26, 27, 28, 29, 30, 31]
def lwCp : List Nat := [20, 21, 22, 23, 24, 25, 26, 27, 28, 29, 30, 31, 0, 1, 2, 3, 4, 5, 6, 7, 8, 9, 10, 11, 12, 13, 14, 15, 16, 17, 18, 19, 32]
theorem lwC_e (cI cZ cJ : ClassId) (q r : Nat → Nat) (o : Nat) (X x : xSt) (f : Nat → Int64) : lwC.map (fun i => (WL cI cZ cJ q r o X x f)[i]?) = ((wX cI cZ q X ++ [(o, .inl (cJ, 1, .inr (.inl f)))] : va_W)).map some := rfl
theorem lwC_r (cI cZ cJ : ClassId) (q r : Nat → Nat) (o : Nat) (X x : xSt) (f : Nat → Int64) : lwCr.map (fun i => (WL cI cZ cJ q r o X x f)[i]?) = ((wY cI cZ r x : va_W)).map some := rfl
theorem lwC_p (cI cZ cJ : ClassId) (q r : Nat → Nat) (o : Nat) (X x : xSt) (f : Nat → Int64) : lwCp.map (fun i => (((wY cI cZ r x : va_W)) ++ ((wX cI cZ q X ++ [(o, .inl (cJ, 1, .inr (.inl f)))] : va_W)))[i]?) = (WL cI cZ cJ q r o X x f).map some := rfl
theorem lwC_n : va_nd lwC = true := rfl
theorem lwC_rn : va_nd lwCr = true := rfl
theorem lwC_pn : va_nd lwCp = true := rfl
theorem lwC_d : ∀ i ∈ lwCr, i ∉ lwC := by decide
def lwM : List Nat := [12, 13, 14, 15, 16, 17, 18, 19, 20, 21, 22, 23, 24, 25, 26, 27, 28, 29, 30, 31]
def lwMr : List Nat := [0, 1, 2, 3, 4, 5, 6, 7, 8, 9, 10, 11, 32]
def lwMp : List Nat := [0, 1, 2, 3, 4, 5, 6, 7, 8, 9, 10, 11, 13, 14, 15, 16, 17, 18, 19, 20, 21, 22, 23, 24, 25, 26, 27, 28, 29, 30, 31, 32, 12]
theorem lwM_e (cI cZ cJ : ClassId) (q r : Nat → Nat) (o : Nat) (X x : xSt) (f : Nat → Int64) : lwM.map (fun i => (WL cI cZ cJ q r o X x f)[i]?) = ((wY cI cZ r x : va_W)).map some := rfl
theorem lwM_r (cI cZ cJ : ClassId) (q r : Nat → Nat) (o : Nat) (X x : xSt) (f : Nat → Int64) : lwMr.map (fun i => (WL cI cZ cJ q r o X x f)[i]?) = ((wX cI cZ q X ++ [(o, .inl (cJ, 1, .inr (.inl f)))] : va_W)).map some := rfl
theorem lwM_p (cI cZ cJ : ClassId) (q r : Nat → Nat) (o : Nat) (X x : xSt) (f : Nat → Int64) : lwMp.map (fun i => (((wX cI cZ q X ++ [(o, .inl (cJ, 1, .inr (.inl f)))] : va_W)) ++ ((wY cI cZ r x : va_W)))[i]?) = (WL cI cZ cJ q r o X x f).map some := rfl
theorem lwM_n : va_nd lwM = true := rfl
theorem lwM_rn : va_nd lwMr = true := rfl
theorem lwM_pn : va_nd lwMp = true := rfl
theorem lwM_d : ∀ i ∈ lwMr, i ∉ lwM := by decide
def lwQ : List Nat := [0, 1, 2, 3, 4, 5, 6, 7, 8, 9, 10, 11]
def lwQr : List Nat := [12, 13, 14, 15, 16, 17, 18, 19, 20, 21, 22, 23, 24, 25, 26, 27, 28, 29, 30, 31, 32]
def lwQp : List Nat := [21, 22, 23, 24, 25, 26, 27, 28, 29, 30, 31, 32, 0, 1, 2, 3, 4, 5, 6, 7, 8, 9, 10, 11, 12, 13, 14, 15, 16, 17, 18, 19, 20]
theorem lwQ_e (cI cZ cJ : ClassId) (q r : Nat → Nat) (o : Nat) (X x : xSt) (f : Nat → Int64) : lwQ.map (fun i => (WL cI cZ cJ q r o X x f)[i]?) = ((wX cI cZ q X : va_W)).map some := rfl
theorem lwQ_r (cI cZ cJ : ClassId) (q r : Nat → Nat) (o : Nat) (X x : xSt) (f : Nat → Int64) : lwQr.map (fun i => (WL cI cZ cJ q r o X x f)[i]?) = ((wY cI cZ r x ++ [(o, .inl (cJ, 1, .inr (.inl f)))] : va_W)).map some := rfl
theorem lwQ_p (cI cZ cJ : ClassId) (q r : Nat → Nat) (o : Nat) (X x : xSt) (f : Nat → Int64) : lwQp.map (fun i => (((wY cI cZ r x ++ [(o, .inl (cJ, 1, .inr (.inl f)))] : va_W)) ++ ((wX cI cZ q X : va_W)))[i]?) = (WL cI cZ cJ q r o X x f).map some := rfl
theorem lwQ_n : va_nd lwQ = true := rfl
theorem lwQ_rn : va_nd lwQr = true := rfl
theorem lwQ_pn : va_nd lwQp = true := rfl
theorem lwQ_d : ∀ i ∈ lwQr, i ∉ lwQ := by decide
/-- of the seven locals those that the loop keeps -/
def lwK : List Nat := [2, 3, 4, 5, 6]
theorem dpL_table : yL_table.cls ≠ "java/lang/invoke/MethodHandle" ∧ yL_table.cls ≠ "java/lang/invoke/VarHandle" ∧ (parseMethodDescriptor yL_table.desc).map (fun d => d.parameters.length) = some 6 := ⟨by decide, by decide, by decide +kernel⟩
theorem dpL_policy : yL_policy.cls ≠ "java/lang/invoke/MethodHandle" ∧ yL_policy.cls ≠ "java/lang/invoke/VarHandle" ∧ (parseMethodDescriptor yL_policy.desc).map (fun d => d.parameters.length) = some 6 := ⟨by decide, by decide, by decide +kernel⟩
theorem dpL_install : yL_install.cls ≠ "java/lang/invoke/MethodHandle" ∧ yL_install.cls ≠ "java/lang/invoke/VarHandle" ∧ (parseMethodDescriptor yL_install.desc).map (fun d => d.parameters.length) = some 3 := ⟨by decide, by decide, by decide +kernel⟩
theorem dpL_act : yL_act.cls ≠ "java/lang/invoke/MethodHandle" ∧ yL_act.cls ≠ "java/lang/invoke/VarHandle" ∧ (parseMethodDescriptor yL_act.desc).map (fun d => d.parameters.length) = some 4 := ⟨by decide, by decide, by decide +kernel⟩
theorem dpL_ask : yL_ask.cls ≠ "java/lang/invoke/MethodHandle" ∧ yL_ask.cls ≠ "java/lang/invoke/VarHandle" ∧ (parseMethodDescriptor yL_ask.desc).map (fun d => d.parameters.length) = some 4 := ⟨by decide, by decide, by decide +kernel⟩
theorem dpL_detail : yL_detail.cls ≠ "java/lang/invoke/MethodHandle" ∧ yL_detail.cls ≠ "java/lang/invoke/VarHandle" ∧ (parseMethodDescriptor yL_detail.desc).map (fun d => d.parameters.length) = some 5 := ⟨by decide, by decide, by decide +kernel⟩
theorem dpL_total : yL_total.cls ≠ "java/lang/invoke/MethodHandle" ∧ yL_total.cls ≠ "java/lang/invoke/VarHandle" ∧ (parseMethodDescriptor yL_total.desc).map (fun d => d.parameters.length) = some 3 := ⟨by decide, by decide, by decide +kernel⟩
set_option maxHeartbeats 4000000 in
set_option maxRecDepth 100000 in
theorem lc_table {p : Program} {l : Launch} {e : Env} {s : State} {m : MethodId} {args : Array Value} {below : List Frame} {meth : Method} {c : Code} {Q : State → Prop} {D : va_G} {cI cZ cJ : ClassId} {A : Nat → Prop} {u : Nat × Nat} {b L o : Nat} {xs : Nat → Int32} {q r : Nat → Nat} {i : Int32} {t : Nat} {X x : xSt} {f : Nat → Int64} (h : kc_C p s m args c cL_law 7 RL D vwCl (tyL cI cZ cJ) A) (hst : l.stackTraces = false) (hT : kc_T A s) (hX : va_X b L xs s s.heap) (hbl : b < s.heap.size) (hbA : ¬ A b) (hL : L ≤ 2560) (h5 : 5 * t + 5 ≤ L) (hi : i = nI (5 * t)) (hw : xWF X) (hr : yRel X x) (hu1 : u.1 + 1 ≤ room_1.cells) (hu2 : u.2 + 6 ≤ room_1.slots) (kk : ∀ (X' x' : xSt) (f' : Nat → Int64), xWF X' → yRel X' x' → kc_W p l e room_1 s m args below meth c D vwCl A 7 Q 679 [(4, .int i), (3, .ref o), (2, .ref (r 0)), (1, .ref (q 0)), (0, .ref b)] [] (WL cI cZ cJ q r o X' x' f') (u.1 + 1, u.2 + 6)) : kc_W p l e room_1 s m args below meth c D vwCl A 7 Q 92 [(4, .int i), (3, .ref o), (2, .ref (r 0)), (1, .ref (q 0)), (0, .ref b)] [] (WL cI cZ cJ q r o X x f) u := by
  refine kr_aload_n h dL_law_92 rfl 3 rfl ?_
  refine kr_aload_n h dL_law_93 rfl 4 rfl ?_
  refine kr_iload h dL_law_94 0 rfl ?_
  refine kr_iconst (v := 1) h dL_law_96 (by decide) ?_
  refine kr_iadd h dL_law_97 (fun v97 e97 => ?_)
  refine kr_sld h hX hbl hbA dL_law_98 (idx_in (k := 1) h5 hL (by decide) hi e97) (fun v98 e98 => ?_)
  refine kr_aload_n h dL_law_99 rfl 4 rfl ?_
  refine kr_iload h dL_law_100 0 rfl ?_
  refine kr_iconst (v := 2) h dL_law_102 (by decide) ?_
  refine kr_iadd h dL_law_103 (fun v103 e103 => ?_)
  refine kr_sld h hX hbl hbA dL_law_104 (idx_in (k := 2) h5 hL (by decide) hi e103) (fun v104 e104 => ?_)
  refine kr_aload_n h dL_law_105 rfl 4 rfl ?_
  refine kr_iload h dL_law_106 0 rfl ?_
  refine kr_iconst (v := 3) h dL_law_108 (by decide) ?_
  refine kr_iadd h dL_law_109 (fun v109 e109 => ?_)
  refine kr_sld h hX hbl hbA dL_law_110 (idx_in (k := 3) h5 hL (by decide) hi e109) (fun v110 e110 => ?_)
  refine kr_aload_n h dL_law_111 rfl 4 rfl ?_
  refine kr_iload h dL_law_112 0 rfl ?_
  refine kr_iconst (v := 4) h dL_law_114 (by decide) ?_
  refine kr_iadd h dL_law_115 (fun v115 e115 => ?_)
  refine kr_sld h hX hbl hbA dL_law_116 (idx_in (k := 4) h5 hL (by decide) hi e115) (fun v116 e116 => ?_)
  refine kr_aload_n h dL_law_117 rfl 1 rfl ?_
  refine kr_iPW (wr := wY cI cZ r x) (ws' := (WL cI cZ cJ q r o (xTab X v98 v104 v110 v116) x (fO (xTabO X v98 v104 v110 v116) f))) h (kc_rW h hT (w_table l hst D cI cZ cJ q o f X v98 v104 v110 v116 ) mlL_46 stL_table inL cwL_table dpL_table dL_law_118 rfl rfl ⟨Nat.le_of_ble_eq_true rfl, Nat.le_of_ble_eq_true rfl⟩ ⟨hu1, hu2⟩ (Nat.le_of_ble_eq_true rfl) lwC (lwC_e cI cZ cJ q r o X x f) lwC_n) lwC lwCr lwCp (lwC_e cI cZ cJ q r o X x f) (lwC_r cI cZ cJ q r o X x f) lwC_rn lwC_d (lwC_p cI cZ cJ q r o (xTab X v98 v104 v110 v116) x (fO (xTabO X v98 v104 v110 v116) f)) lwC_pn (fun v118 e118 => ?_)
  refine kr_istore (lv' := [(5, .int v118), (4, .int i), (3, .ref o), (2, .ref (r 0)), (1, .ref (q 0)), (0, .ref b)]) h dL_law_121 (by decide) rfl ?_
  refine kr_aload_n h dL_law_123 rfl 3 rfl ?_
  refine kr_aload_n h dL_law_124 rfl 5 rfl ?_
  refine kr_iload h dL_law_125 1 rfl ?_
  refine kr_iconst (v := 1) h dL_law_127 (by decide) ?_
  refine kr_iadd h dL_law_128 (fun v128 e128 => ?_)
  refine kr_sld h hX hbl hbA dL_law_129 (idx_in (k := 1) h5 hL (by decide) hi e128) (fun v129 e129 => ?_)
  refine kr_aload_n h dL_law_130 rfl 5 rfl ?_
  refine kr_iload h dL_law_131 1 rfl ?_
  refine kr_iconst (v := 2) h dL_law_133 (by decide) ?_
  refine kr_iadd h dL_law_134 (fun v134 e134 => ?_)
  refine kr_sld h hX hbl hbA dL_law_135 (idx_in (k := 2) h5 hL (by decide) hi e134) (fun v135 e135 => ?_)
  refine kr_aload_n h dL_law_136 rfl 5 rfl ?_
  refine kr_iload h dL_law_137 1 rfl ?_
  refine kr_iconst (v := 3) h dL_law_139 (by decide) ?_
  refine kr_iadd h dL_law_140 (fun v140 e140 => ?_)
  refine kr_sld h hX hbl hbA dL_law_141 (idx_in (k := 3) h5 hL (by decide) hi e140) (fun v141 e141 => ?_)
  refine kr_aload_n h dL_law_142 rfl 5 rfl ?_
  refine kr_iload h dL_law_143 1 rfl ?_
  refine kr_iconst (v := 4) h dL_law_145 (by decide) ?_
  refine kr_iadd h dL_law_146 (fun v146 e146 => ?_)
  refine kr_sld h hX hbl hbA dL_law_147 (idx_in (k := 4) h5 hL (by decide) hi e146) (fun v147 e147 => ?_)
  obtain rfl : v98 = v129 := by rw [e98, e129, e97, e128]
  obtain rfl : v104 = v135 := by rw [e104, e135, e103, e134]
  obtain rfl : v110 = v141 := by rw [e110, e141, e109, e140]
  obtain rfl : v116 = v147 := by rw [e116, e147, e115, e146]
  refine kr_iP (wr := wX cI cZ q (xTab X v98 v104 v110 v116) ++ [(o, .inl (cJ, 1, .inr (.inl (fO (xTabO X v98 v104 v110 v116) f))))]) (ws' := (WL cI cZ cJ q r o (xTab X v98 v104 v110 v116) (yTabX x v98 v104 v110 v116) (fO (xTabO X v98 v104 v110 v116) f))) h (kc_rV h (m_table l D cI cZ cJ r x v98 v104 v110 v116 ) mlL_51 yvX1_table dL_law_148 rfl rfl ⟨Nat.le_of_ble_eq_true rfl, Nat.le_of_ble_eq_true rfl⟩ ⟨hu1, hu2⟩ (Nat.le_of_ble_eq_true rfl) lwM (lwM_e cI cZ cJ q r o (xTab X v98 v104 v110 v116) x (fO (xTabO X v98 v104 v110 v116) f)) lwM_n 12 rfl rfl rfl) lwM lwMr lwMp (lwM_e cI cZ cJ q r o (xTab X v98 v104 v110 v116) x (fO (xTabO X v98 v104 v110 v116) f)) (lwM_r cI cZ cJ q r o (xTab X v98 v104 v110 v116) x (fO (xTabO X v98 v104 v110 v116) f)) lwM_rn lwM_d (lwM_p cI cZ cJ q r o (xTab X v98 v104 v110 v116) (yTabX x v98 v104 v110 v116) (fO (xTabO X v98 v104 v110 v116) f)) lwM_pn (fun v148 e148 => ?_)
  refine kr_istore (lv' := [(6, .int v148), (5, .int v118), (4, .int i), (3, .ref o), (2, .ref (r 0)), (1, .ref (q 0)), (0, .ref b)]) h dL_law_151 (by decide) rfl ?_
  refine kr_aload_n h dL_law_153 rfl 4 rfl ?_
  refine kr_iP (wr := wX cI cZ q (xTab X v98 v104 v110 v116) ++ [(o, .inl (cJ, 1, .inr (.inl (fO (xTabO X v98 v104 v110 v116) f))))]) (ws' := (WL cI cZ cJ q r o (xTab X v98 v104 v110 v116) (yTabX x v98 v104 v110 v116) (fO (xTabO X v98 v104 v110 v116) f))) h (kc_rV h (m_thrown l D cI cZ cJ r (yTabX x v98 v104 v110 v116)) mlL_52 yvX1_thrown dL_law_154 rfl rfl ⟨Nat.le_of_ble_eq_true rfl, Nat.le_of_ble_eq_true rfl⟩ ⟨hu1, hu2⟩ (Nat.le_of_ble_eq_true rfl) lwM (lwM_e cI cZ cJ q r o (xTab X v98 v104 v110 v116) (yTabX x v98 v104 v110 v116) (fO (xTabO X v98 v104 v110 v116) f)) lwM_n 12 rfl rfl rfl) lwM lwMr lwMp (lwM_e cI cZ cJ q r o (xTab X v98 v104 v110 v116) (yTabX x v98 v104 v110 v116) (fO (xTabO X v98 v104 v110 v116) f)) (lwM_r cI cZ cJ q r o (xTab X v98 v104 v110 v116) (yTabX x v98 v104 v110 v116) (fO (xTabO X v98 v104 v110 v116) f)) lwM_rn lwM_d (lwM_p cI cZ cJ q r o (xTab X v98 v104 v110 v116) (yTabX x v98 v104 v110 v116) (fO (xTabO X v98 v104 v110 v116) f)) lwM_pn (fun v154 e154 => ?_)
  obtain ⟨hw2, hr2, hk⟩ := t_table hw hr v98 v104 v110 v116
  refine kr_iload h dL_law_157 1 rfl ?_
  refine kr_icmp_eq h 164 dL_law_159 (by decide) (fun c1 => ?_) (fun c1 => absurd (by rw [e154, e118]; exact oK_k hk) c1)
  refine kr_iload h dL_law_164 1 rfl ?_
  refine kr_if_ne h 181 dL_law_166 (by decide) (fun c2 => ?_) (fun c2 => ?_)
  · refine kr_goto h 679 dL_law_181 (by decide) ?_
    exact kr_lv lwK rfl (kk (xTab X v98 v104 v110 v116) (yTabX x v98 v104 v110 v116) (fO (xTabO X v98 v104 v110 v116) f) hw2 hr2)
  · refine kr_aload_n h dL_law_169 rfl 3 rfl ?_
    refine kr_iconst (v := 0) h dL_law_170 (by decide) ?_
    refine kr_lald h 32 2 dL_law_171 rfl rfl (show vp_in (nI 0) 1 from vp_in_nI (by decide) (by decide)) (fun z1 y1 => ?_)
    refine kr_iload h dL_law_172 0 rfl ?_
    refine kr_i2l h dL_law_174 (fun z2 y2 => ?_)
    refine kr_lcmp h dL_law_175 (fun z3 y3 => ?_)
    refine kr_if_eq h 181 dL_law_176 (by decide) (fun c3 => ?_) (fun c3 => absurd (by rw [y3]; exact lg_cmp_0 (by rw [y1, y2, e148]; exact oK_f cd_1 hk (by rw [← e118]; exact c2) f)) c3)
    refine kr_goto h 679 dL_law_181 (by decide) ?_
    exact kr_lv lwK rfl (kk (xTab X v98 v104 v110 v116) (yTabX x v98 v104 v110 v116) (fO (xTabO X v98 v104 v110 v116) f) hw2 hr2)
set_option maxHeartbeats 4000000 in
set_option maxRecDepth 100000 in
theorem lc_policy {p : Program} {l : Launch} {e : Env} {s : State} {m : MethodId} {args : Array Value} {below : List Frame} {meth : Method} {c : Code} {Q : State → Prop} {D : va_G} {cI cZ cJ : ClassId} {A : Nat → Prop} {u : Nat × Nat} {b L o : Nat} {xs : Nat → Int32} {q r : Nat → Nat} {i : Int32} {t : Nat} {X x : xSt} {f : Nat → Int64} (h : kc_C p s m args c cL_law 7 RL D vwCl (tyL cI cZ cJ) A) (hst : l.stackTraces = false) (hT : kc_T A s) (hX : va_X b L xs s s.heap) (hbl : b < s.heap.size) (hbA : ¬ A b) (hL : L ≤ 2560) (h5 : 5 * t + 5 ≤ L) (hi : i = nI (5 * t)) (hw : xWF X) (hr : yRel X x) (hu1 : u.1 + 1 ≤ room_1.cells) (hu2 : u.2 + 6 ≤ room_1.slots) (kk : ∀ (X' x' : xSt) (f' : Nat → Int64), xWF X' → yRel X' x' → kc_W p l e room_1 s m args below meth c D vwCl A 7 Q 679 [(4, .int i), (3, .ref o), (2, .ref (r 0)), (1, .ref (q 0)), (0, .ref b)] [] (WL cI cZ cJ q r o X' x' f') (u.1 + 1, u.2 + 6)) : kc_W p l e room_1 s m args below meth c D vwCl A 7 Q 184 [(4, .int i), (3, .ref o), (2, .ref (r 0)), (1, .ref (q 0)), (0, .ref b)] [] (WL cI cZ cJ q r o X x f) u := by
  refine kr_aload_n h dL_law_184 rfl 3 rfl ?_
  refine kr_aload_n h dL_law_185 rfl 4 rfl ?_
  refine kr_iload h dL_law_186 0 rfl ?_
  refine kr_iconst (v := 1) h dL_law_188 (by decide) ?_
  refine kr_iadd h dL_law_189 (fun v189 e189 => ?_)
  refine kr_sld h hX hbl hbA dL_law_190 (idx_in (k := 1) h5 hL (by decide) hi e189) (fun v190 e190 => ?_)
  refine kr_aload_n h dL_law_191 rfl 4 rfl ?_
  refine kr_iload h dL_law_192 0 rfl ?_
  refine kr_iconst (v := 2) h dL_law_194 (by decide) ?_
  refine kr_iadd h dL_law_195 (fun v195 e195 => ?_)
  refine kr_sld h hX hbl hbA dL_law_196 (idx_in (k := 2) h5 hL (by decide) hi e195) (fun v196 e196 => ?_)
  refine kr_aload_n h dL_law_197 rfl 4 rfl ?_
  refine kr_iload h dL_law_198 0 rfl ?_
  refine kr_iconst (v := 3) h dL_law_200 (by decide) ?_
  refine kr_iadd h dL_law_201 (fun v201 e201 => ?_)
  refine kr_sld h hX hbl hbA dL_law_202 (idx_in (k := 3) h5 hL (by decide) hi e201) (fun v202 e202 => ?_)
  refine kr_aload_n h dL_law_203 rfl 4 rfl ?_
  refine kr_iload h dL_law_204 0 rfl ?_
  refine kr_iconst (v := 4) h dL_law_206 (by decide) ?_
  refine kr_iadd h dL_law_207 (fun v207 e207 => ?_)
  refine kr_sld h hX hbl hbA dL_law_208 (idx_in (k := 4) h5 hL (by decide) hi e207) (fun v208 e208 => ?_)
  refine kr_aload_n h dL_law_209 rfl 1 rfl ?_
  refine kr_iPW (wr := wY cI cZ r x) (ws' := (WL cI cZ cJ q r o (xPol X v190 v196 v202 v208) x (fO (xPolO X v190 v196 v202 v208) f))) h (kc_rW h hT (w_policy l hst D cI cZ cJ q o f X v190 v196 v202 v208 (wf_N hw)) mlL_56 stL_policy inL cwL_policy dpL_policy dL_law_210 rfl rfl ⟨Nat.le_of_ble_eq_true rfl, Nat.le_of_ble_eq_true rfl⟩ ⟨hu1, hu2⟩ (Nat.le_of_ble_eq_true rfl) lwC (lwC_e cI cZ cJ q r o X x f) lwC_n) lwC lwCr lwCp (lwC_e cI cZ cJ q r o X x f) (lwC_r cI cZ cJ q r o X x f) lwC_rn lwC_d (lwC_p cI cZ cJ q r o (xPol X v190 v196 v202 v208) x (fO (xPolO X v190 v196 v202 v208) f)) lwC_pn (fun v210 e210 => ?_)
  refine kr_istore (lv' := [(5, .int v210), (4, .int i), (3, .ref o), (2, .ref (r 0)), (1, .ref (q 0)), (0, .ref b)]) h dL_law_213 (by decide) rfl ?_
  refine kr_aload_n h dL_law_215 rfl 3 rfl ?_
  refine kr_aload_n h dL_law_216 rfl 5 rfl ?_
  refine kr_iload h dL_law_217 1 rfl ?_
  refine kr_iconst (v := 1) h dL_law_219 (by decide) ?_
  refine kr_iadd h dL_law_220 (fun v220 e220 => ?_)
  refine kr_sld h hX hbl hbA dL_law_221 (idx_in (k := 1) h5 hL (by decide) hi e220) (fun v221 e221 => ?_)
  refine kr_aload_n h dL_law_222 rfl 5 rfl ?_
  refine kr_iload h dL_law_223 1 rfl ?_
  refine kr_iconst (v := 2) h dL_law_225 (by decide) ?_
  refine kr_iadd h dL_law_226 (fun v226 e226 => ?_)
  refine kr_sld h hX hbl hbA dL_law_227 (idx_in (k := 2) h5 hL (by decide) hi e226) (fun v227 e227 => ?_)
  refine kr_aload_n h dL_law_228 rfl 5 rfl ?_
  refine kr_iload h dL_law_229 1 rfl ?_
  refine kr_iconst (v := 3) h dL_law_231 (by decide) ?_
  refine kr_iadd h dL_law_232 (fun v232 e232 => ?_)
  refine kr_sld h hX hbl hbA dL_law_233 (idx_in (k := 3) h5 hL (by decide) hi e232) (fun v233 e233 => ?_)
  refine kr_aload_n h dL_law_234 rfl 5 rfl ?_
  refine kr_iload h dL_law_235 1 rfl ?_
  refine kr_iconst (v := 4) h dL_law_237 (by decide) ?_
  refine kr_iadd h dL_law_238 (fun v238 e238 => ?_)
  refine kr_sld h hX hbl hbA dL_law_239 (idx_in (k := 4) h5 hL (by decide) hi e238) (fun v239 e239 => ?_)
  obtain rfl : v190 = v221 := by rw [e190, e221, e189, e220]
  obtain rfl : v196 = v227 := by rw [e196, e227, e195, e226]
  obtain rfl : v202 = v233 := by rw [e202, e233, e201, e232]
  obtain rfl : v208 = v239 := by rw [e208, e239, e207, e238]
  refine kr_iP (wr := wX cI cZ q (xPol X v190 v196 v202 v208) ++ [(o, .inl (cJ, 1, .inr (.inl (fO (xPolO X v190 v196 v202 v208) f))))]) (ws' := (WL cI cZ cJ q r o (xPol X v190 v196 v202 v208) (yPolX x v190 v196 v202 v208) (fO (xPolO X v190 v196 v202 v208) f))) h (kc_rV h (m_policy l D cI cZ cJ r x v190 v196 v202 v208 (rel_N hw hr)) mlL_58 yvX1_policy dL_law_240 rfl rfl ⟨Nat.le_of_ble_eq_true rfl, Nat.le_of_ble_eq_true rfl⟩ ⟨hu1, hu2⟩ (Nat.le_of_ble_eq_true rfl) lwM (lwM_e cI cZ cJ q r o (xPol X v190 v196 v202 v208) x (fO (xPolO X v190 v196 v202 v208) f)) lwM_n 12 rfl rfl rfl) lwM lwMr lwMp (lwM_e cI cZ cJ q r o (xPol X v190 v196 v202 v208) x (fO (xPolO X v190 v196 v202 v208) f)) (lwM_r cI cZ cJ q r o (xPol X v190 v196 v202 v208) x (fO (xPolO X v190 v196 v202 v208) f)) lwM_rn lwM_d (lwM_p cI cZ cJ q r o (xPol X v190 v196 v202 v208) (yPolX x v190 v196 v202 v208) (fO (xPolO X v190 v196 v202 v208) f)) lwM_pn (fun v240 e240 => ?_)
  refine kr_istore (lv' := [(6, .int v240), (5, .int v210), (4, .int i), (3, .ref o), (2, .ref (r 0)), (1, .ref (q 0)), (0, .ref b)]) h dL_law_243 (by decide) rfl ?_
  refine kr_aload_n h dL_law_245 rfl 4 rfl ?_
  refine kr_iP (wr := wX cI cZ q (xPol X v190 v196 v202 v208) ++ [(o, .inl (cJ, 1, .inr (.inl (fO (xPolO X v190 v196 v202 v208) f))))]) (ws' := (WL cI cZ cJ q r o (xPol X v190 v196 v202 v208) (yPolX x v190 v196 v202 v208) (fO (xPolO X v190 v196 v202 v208) f))) h (kc_rV h (m_thrown l D cI cZ cJ r (yPolX x v190 v196 v202 v208)) mlL_52 yvX1_thrown dL_law_246 rfl rfl ⟨Nat.le_of_ble_eq_true rfl, Nat.le_of_ble_eq_true rfl⟩ ⟨hu1, hu2⟩ (Nat.le_of_ble_eq_true rfl) lwM (lwM_e cI cZ cJ q r o (xPol X v190 v196 v202 v208) (yPolX x v190 v196 v202 v208) (fO (xPolO X v190 v196 v202 v208) f)) lwM_n 12 rfl rfl rfl) lwM lwMr lwMp (lwM_e cI cZ cJ q r o (xPol X v190 v196 v202 v208) (yPolX x v190 v196 v202 v208) (fO (xPolO X v190 v196 v202 v208) f)) (lwM_r cI cZ cJ q r o (xPol X v190 v196 v202 v208) (yPolX x v190 v196 v202 v208) (fO (xPolO X v190 v196 v202 v208) f)) lwM_rn lwM_d (lwM_p cI cZ cJ q r o (xPol X v190 v196 v202 v208) (yPolX x v190 v196 v202 v208) (fO (xPolO X v190 v196 v202 v208) f)) lwM_pn (fun v246 e246 => ?_)
  obtain ⟨hw2, hr2, hk⟩ := t_policy hw hr v190 v196 v202 v208
  refine kr_iload h dL_law_249 1 rfl ?_
  refine kr_icmp_eq h 256 dL_law_251 (by decide) (fun c1 => ?_) (fun c1 => absurd (by rw [e246, e210]; exact oK_k hk) c1)
  refine kr_iload h dL_law_256 1 rfl ?_
  refine kr_if_ne h 273 dL_law_258 (by decide) (fun c2 => ?_) (fun c2 => ?_)
  · refine kr_goto h 679 dL_law_273 (by decide) ?_
    exact kr_lv lwK rfl (kk (xPol X v190 v196 v202 v208) (yPolX x v190 v196 v202 v208) (fO (xPolO X v190 v196 v202 v208) f) hw2 hr2)
  · refine kr_aload_n h dL_law_261 rfl 3 rfl ?_
    refine kr_iconst (v := 0) h dL_law_262 (by decide) ?_
    refine kr_lald h 32 2 dL_law_263 rfl rfl (show vp_in (nI 0) 1 from vp_in_nI (by decide) (by decide)) (fun z1 y1 => ?_)
    refine kr_iload h dL_law_264 0 rfl ?_
    refine kr_i2l h dL_law_266 (fun z2 y2 => ?_)
    refine kr_lcmp h dL_law_267 (fun z3 y3 => ?_)
    refine kr_if_eq h 273 dL_law_268 (by decide) (fun c3 => ?_) (fun c3 => absurd (by rw [y3]; exact lg_cmp_0 (by rw [y1, y2, e240]; exact oK_f cd_P hk (by rw [← e210]; exact c2) f)) c3)
    refine kr_goto h 679 dL_law_273 (by decide) ?_
    exact kr_lv lwK rfl (kk (xPol X v190 v196 v202 v208) (yPolX x v190 v196 v202 v208) (fO (xPolO X v190 v196 v202 v208) f) hw2 hr2)
set_option maxHeartbeats 4000000 in
set_option maxRecDepth 100000 in
theorem lc_install {p : Program} {l : Launch} {e : Env} {s : State} {m : MethodId} {args : Array Value} {below : List Frame} {meth : Method} {c : Code} {Q : State → Prop} {D : va_G} {cI cZ cJ : ClassId} {A : Nat → Prop} {u : Nat × Nat} {b L o : Nat} {xs : Nat → Int32} {q r : Nat → Nat} {i : Int32} {t : Nat} {X x : xSt} {f : Nat → Int64} (h : kc_C p s m args c cL_law 7 RL D vwCl (tyL cI cZ cJ) A) (hst : l.stackTraces = false) (hT : kc_T A s) (hX : va_X b L xs s s.heap) (hbl : b < s.heap.size) (hbA : ¬ A b) (hL : L ≤ 2560) (h5 : 5 * t + 5 ≤ L) (hi : i = nI (5 * t)) (hw : xWF X) (hr : yRel X x) (hu1 : u.1 + 1 ≤ room_1.cells) (hu2 : u.2 + 6 ≤ room_1.slots) (kk : ∀ (X' x' : xSt) (f' : Nat → Int64), xWF X' → yRel X' x' → kc_W p l e room_1 s m args below meth c D vwCl A 7 Q 679 [(4, .int i), (3, .ref o), (2, .ref (r 0)), (1, .ref (q 0)), (0, .ref b)] [] (WL cI cZ cJ q r o X' x' f') (u.1 + 1, u.2 + 6)) : kc_W p l e room_1 s m args below meth c D vwCl A 7 Q 276 [(4, .int i), (3, .ref o), (2, .ref (r 0)), (1, .ref (q 0)), (0, .ref b)] [] (WL cI cZ cJ q r o X x f) u := by
  refine kr_aload_n h dL_law_276 rfl 3 rfl ?_
  refine kr_aload_n h dL_law_277 rfl 4 rfl ?_
  refine kr_iload h dL_law_278 0 rfl ?_
  refine kr_iconst (v := 1) h dL_law_280 (by decide) ?_
  refine kr_iadd h dL_law_281 (fun v281 e281 => ?_)
  refine kr_sld h hX hbl hbA dL_law_282 (idx_in (k := 1) h5 hL (by decide) hi e281) (fun v282 e282 => ?_)
  refine kr_aload_n h dL_law_283 rfl 1 rfl ?_
  refine kr_iPW (wr := wY cI cZ r x) (ws' := (WL cI cZ cJ q r o (xInsX X v282) x (fO (xInsO X v282) f))) h (kc_rW h hT (w_install l hst D cI cZ cJ q o f X v282 ) mlL_59 stL_install inL cwL_install dpL_install dL_law_284 rfl rfl ⟨Nat.le_of_ble_eq_true rfl, Nat.le_of_ble_eq_true rfl⟩ ⟨hu1, hu2⟩ (Nat.le_of_ble_eq_true rfl) lwC (lwC_e cI cZ cJ q r o X x f) lwC_n) lwC lwCr lwCp (lwC_e cI cZ cJ q r o X x f) (lwC_r cI cZ cJ q r o X x f) lwC_rn lwC_d (lwC_p cI cZ cJ q r o (xInsX X v282) x (fO (xInsO X v282) f)) lwC_pn (fun v284 e284 => ?_)
  refine kr_istore (lv' := [(5, .int v284), (4, .int i), (3, .ref o), (2, .ref (r 0)), (1, .ref (q 0)), (0, .ref b)]) h dL_law_287 (by decide) rfl ?_
  refine kr_aload_n h dL_law_289 rfl 3 rfl ?_
  refine kr_aload_n h dL_law_290 rfl 5 rfl ?_
  refine kr_iload h dL_law_291 1 rfl ?_
  refine kr_iconst (v := 1) h dL_law_293 (by decide) ?_
  refine kr_iadd h dL_law_294 (fun v294 e294 => ?_)
  refine kr_sld h hX hbl hbA dL_law_295 (idx_in (k := 1) h5 hL (by decide) hi e294) (fun v295 e295 => ?_)
  obtain rfl : v282 = v295 := by rw [e282, e295, e281, e294]
  refine kr_iP (wr := wX cI cZ q (xInsX X v282) ++ [(o, .inl (cJ, 1, .inr (.inl (fO (xInsO X v282) f))))]) (ws' := (WL cI cZ cJ q r o (xInsX X v282) (yInsX x v282) (fO (xInsO X v282) f))) h (kc_rV h (m_install l D cI cZ cJ r x v282 ) mlL_62 yvX1_install dL_law_296 rfl rfl ⟨Nat.le_of_ble_eq_true rfl, Nat.le_of_ble_eq_true rfl⟩ ⟨hu1, hu2⟩ (Nat.le_of_ble_eq_true rfl) lwM (lwM_e cI cZ cJ q r o (xInsX X v282) x (fO (xInsO X v282) f)) lwM_n 12 rfl rfl rfl) lwM lwMr lwMp (lwM_e cI cZ cJ q r o (xInsX X v282) x (fO (xInsO X v282) f)) (lwM_r cI cZ cJ q r o (xInsX X v282) x (fO (xInsO X v282) f)) lwM_rn lwM_d (lwM_p cI cZ cJ q r o (xInsX X v282) (yInsX x v282) (fO (xInsO X v282) f)) lwM_pn (fun v296 e296 => ?_)
  refine kr_istore (lv' := [(6, .int v296), (5, .int v284), (4, .int i), (3, .ref o), (2, .ref (r 0)), (1, .ref (q 0)), (0, .ref b)]) h dL_law_299 (by decide) rfl ?_
  refine kr_aload_n h dL_law_301 rfl 4 rfl ?_
  refine kr_iP (wr := wX cI cZ q (xInsX X v282) ++ [(o, .inl (cJ, 1, .inr (.inl (fO (xInsO X v282) f))))]) (ws' := (WL cI cZ cJ q r o (xInsX X v282) (yInsX x v282) (fO (xInsO X v282) f))) h (kc_rV h (m_thrown l D cI cZ cJ r (yInsX x v282)) mlL_52 yvX1_thrown dL_law_302 rfl rfl ⟨Nat.le_of_ble_eq_true rfl, Nat.le_of_ble_eq_true rfl⟩ ⟨hu1, hu2⟩ (Nat.le_of_ble_eq_true rfl) lwM (lwM_e cI cZ cJ q r o (xInsX X v282) (yInsX x v282) (fO (xInsO X v282) f)) lwM_n 12 rfl rfl rfl) lwM lwMr lwMp (lwM_e cI cZ cJ q r o (xInsX X v282) (yInsX x v282) (fO (xInsO X v282) f)) (lwM_r cI cZ cJ q r o (xInsX X v282) (yInsX x v282) (fO (xInsO X v282) f)) lwM_rn lwM_d (lwM_p cI cZ cJ q r o (xInsX X v282) (yInsX x v282) (fO (xInsO X v282) f)) lwM_pn (fun v302 e302 => ?_)
  obtain ⟨hw2, hr2, hk⟩ := t_install hw hr v282
  refine kr_iload h dL_law_305 1 rfl ?_
  refine kr_icmp_eq h 312 dL_law_307 (by decide) (fun c1 => ?_) (fun c1 => absurd (by rw [e302, e284]; exact oK_k hk) c1)
  refine kr_iload h dL_law_312 1 rfl ?_
  refine kr_if_ne h 329 dL_law_314 (by decide) (fun c2 => ?_) (fun c2 => ?_)
  · refine kr_goto h 679 dL_law_329 (by decide) ?_
    exact kr_lv lwK rfl (kk (xInsX X v282) (yInsX x v282) (fO (xInsO X v282) f) hw2 hr2)
  · refine kr_aload_n h dL_law_317 rfl 3 rfl ?_
    refine kr_iconst (v := 0) h dL_law_318 (by decide) ?_
    refine kr_lald h 32 2 dL_law_319 rfl rfl (show vp_in (nI 0) 1 from vp_in_nI (by decide) (by decide)) (fun z1 y1 => ?_)
    refine kr_iload h dL_law_320 0 rfl ?_
    refine kr_i2l h dL_law_322 (fun z2 y2 => ?_)
    refine kr_lcmp h dL_law_323 (fun z3 y3 => ?_)
    refine kr_if_eq h 329 dL_law_324 (by decide) (fun c3 => ?_) (fun c3 => absurd (by rw [y3]; exact lg_cmp_0 (by rw [y1, y2, e296]; exact oK_f cd_1 hk (by rw [← e284]; exact c2) f)) c3)
    refine kr_goto h 679 dL_law_329 (by decide) ?_
    exact kr_lv lwK rfl (kk (xInsX X v282) (yInsX x v282) (fO (xInsO X v282) f) hw2 hr2)
set_option maxHeartbeats 4000000 in
set_option maxRecDepth 100000 in
theorem lc_act {p : Program} {l : Launch} {e : Env} {s : State} {m : MethodId} {args : Array Value} {below : List Frame} {meth : Method} {c : Code} {Q : State → Prop} {D : va_G} {cI cZ cJ : ClassId} {A : Nat → Prop} {u : Nat × Nat} {b L o : Nat} {xs : Nat → Int32} {q r : Nat → Nat} {i : Int32} {t : Nat} {X x : xSt} {f : Nat → Int64} (h : kc_C p s m args c cL_law 7 RL D vwCl (tyL cI cZ cJ) A) (hst : l.stackTraces = false) (hT : kc_T A s) (hX : va_X b L xs s s.heap) (hbl : b < s.heap.size) (hbA : ¬ A b) (hL : L ≤ 2560) (h5 : 5 * t + 5 ≤ L) (hi : i = nI (5 * t)) (hw : xWF X) (hr : yRel X x) (hu1 : u.1 + 1 ≤ room_1.cells) (hu2 : u.2 + 6 ≤ room_1.slots) (kk : ∀ (X' x' : xSt) (f' : Nat → Int64), xWF X' → yRel X' x' → kc_W p l e room_1 s m args below meth c D vwCl A 7 Q 679 [(4, .int i), (3, .ref o), (2, .ref (r 0)), (1, .ref (q 0)), (0, .ref b)] [] (WL cI cZ cJ q r o X' x' f') (u.1 + 1, u.2 + 6)) : kc_W p l e room_1 s m args below meth c D vwCl A 7 Q 332 [(4, .int i), (3, .ref o), (2, .ref (r 0)), (1, .ref (q 0)), (0, .ref b)] [] (WL cI cZ cJ q r o X x f) u := by
  refine kr_aload_n h dL_law_332 rfl 3 rfl ?_
  refine kr_aload_n h dL_law_333 rfl 4 rfl ?_
  refine kr_iload h dL_law_334 0 rfl ?_
  refine kr_iconst (v := 1) h dL_law_336 (by decide) ?_
  refine kr_iadd h dL_law_337 (fun v337 e337 => ?_)
  refine kr_sld h hX hbl hbA dL_law_338 (idx_in (k := 1) h5 hL (by decide) hi e337) (fun v338 e338 => ?_)
  refine kr_aload_n h dL_law_339 rfl 4 rfl ?_
  refine kr_iload h dL_law_340 0 rfl ?_
  refine kr_iconst (v := 2) h dL_law_342 (by decide) ?_
  refine kr_iadd h dL_law_343 (fun v343 e343 => ?_)
  refine kr_sld h hX hbl hbA dL_law_344 (idx_in (k := 2) h5 hL (by decide) hi e343) (fun v344 e344 => ?_)
  refine kr_aload_n h dL_law_345 rfl 1 rfl ?_
  refine kr_iPW (wr := wY cI cZ r x) (ws' := (WL cI cZ cJ q r o (xActX X v338 v344) x (fO (xActO X v338 v344) f))) h (kc_rW h hT (w_act l hst D cI cZ cJ q o f X v338 v344 (i7_inst (wf_7 hw)) (wf_7 hw).2.1) mlL_63 stL_act inL cwL_act dpL_act dL_law_346 rfl rfl ⟨Nat.le_of_ble_eq_true rfl, Nat.le_of_ble_eq_true rfl⟩ ⟨hu1, hu2⟩ (Nat.le_of_ble_eq_true rfl) lwC (lwC_e cI cZ cJ q r o X x f) lwC_n) lwC lwCr lwCp (lwC_e cI cZ cJ q r o X x f) (lwC_r cI cZ cJ q r o X x f) lwC_rn lwC_d (lwC_p cI cZ cJ q r o (xActX X v338 v344) x (fO (xActO X v338 v344) f)) lwC_pn (fun v346 e346 => ?_)
  refine kr_istore (lv' := [(5, .int v346), (4, .int i), (3, .ref o), (2, .ref (r 0)), (1, .ref (q 0)), (0, .ref b)]) h dL_law_349 (by decide) rfl ?_
  refine kr_aload_n h dL_law_351 rfl 3 rfl ?_
  refine kr_aload_n h dL_law_352 rfl 5 rfl ?_
  refine kr_iload h dL_law_353 1 rfl ?_
  refine kr_iconst (v := 1) h dL_law_355 (by decide) ?_
  refine kr_iadd h dL_law_356 (fun v356 e356 => ?_)
  refine kr_sld h hX hbl hbA dL_law_357 (idx_in (k := 1) h5 hL (by decide) hi e356) (fun v357 e357 => ?_)
  refine kr_aload_n h dL_law_358 rfl 5 rfl ?_
  refine kr_iload h dL_law_359 1 rfl ?_
  refine kr_iconst (v := 2) h dL_law_361 (by decide) ?_
  refine kr_iadd h dL_law_362 (fun v362 e362 => ?_)
  refine kr_sld h hX hbl hbA dL_law_363 (idx_in (k := 2) h5 hL (by decide) hi e362) (fun v363 e363 => ?_)
  obtain rfl : v338 = v357 := by rw [e338, e357, e337, e356]
  obtain rfl : v344 = v363 := by rw [e344, e363, e343, e362]
  refine kr_iP (wr := wX cI cZ q (xActX X v338 v344) ++ [(o, .inl (cJ, 1, .inr (.inl (fO (xActO X v338 v344) f))))]) (ws' := (WL cI cZ cJ q r o (xActX X v338 v344) (yActX x v338 v344) (fO (xActO X v338 v344) f))) h (kc_rV h (m_act l D cI cZ cJ r x v338 v344 (rel_W hw hr)) mlL_66 yvX1_act dL_law_364 rfl rfl ⟨Nat.le_of_ble_eq_true rfl, Nat.le_of_ble_eq_true rfl⟩ ⟨hu1, hu2⟩ (Nat.le_of_ble_eq_true rfl) lwM (lwM_e cI cZ cJ q r o (xActX X v338 v344) x (fO (xActO X v338 v344) f)) lwM_n 12 rfl rfl rfl) lwM lwMr lwMp (lwM_e cI cZ cJ q r o (xActX X v338 v344) x (fO (xActO X v338 v344) f)) (lwM_r cI cZ cJ q r o (xActX X v338 v344) x (fO (xActO X v338 v344) f)) lwM_rn lwM_d (lwM_p cI cZ cJ q r o (xActX X v338 v344) (yActX x v338 v344) (fO (xActO X v338 v344) f)) lwM_pn (fun v364 e364 => ?_)
  refine kr_istore (lv' := [(6, .int v364), (5, .int v346), (4, .int i), (3, .ref o), (2, .ref (r 0)), (1, .ref (q 0)), (0, .ref b)]) h dL_law_367 (by decide) rfl ?_
  refine kr_aload_n h dL_law_369 rfl 4 rfl ?_
  refine kr_iP (wr := wX cI cZ q (xActX X v338 v344) ++ [(o, .inl (cJ, 1, .inr (.inl (fO (xActO X v338 v344) f))))]) (ws' := (WL cI cZ cJ q r o (xActX X v338 v344) (yActX x v338 v344) (fO (xActO X v338 v344) f))) h (kc_rV h (m_thrown l D cI cZ cJ r (yActX x v338 v344)) mlL_52 yvX1_thrown dL_law_370 rfl rfl ⟨Nat.le_of_ble_eq_true rfl, Nat.le_of_ble_eq_true rfl⟩ ⟨hu1, hu2⟩ (Nat.le_of_ble_eq_true rfl) lwM (lwM_e cI cZ cJ q r o (xActX X v338 v344) (yActX x v338 v344) (fO (xActO X v338 v344) f)) lwM_n 12 rfl rfl rfl) lwM lwMr lwMp (lwM_e cI cZ cJ q r o (xActX X v338 v344) (yActX x v338 v344) (fO (xActO X v338 v344) f)) (lwM_r cI cZ cJ q r o (xActX X v338 v344) (yActX x v338 v344) (fO (xActO X v338 v344) f)) lwM_rn lwM_d (lwM_p cI cZ cJ q r o (xActX X v338 v344) (yActX x v338 v344) (fO (xActO X v338 v344) f)) lwM_pn (fun v370 e370 => ?_)
  obtain ⟨hw2, hr2, hk⟩ := t_act hw hr v338 v344
  refine kr_iload h dL_law_373 1 rfl ?_
  refine kr_icmp_eq h 380 dL_law_375 (by decide) (fun c1 => ?_) (fun c1 => absurd (by rw [e370, e346]; exact oK_k hk) c1)
  refine kr_iload h dL_law_380 1 rfl ?_
  refine kr_if_ne h 397 dL_law_382 (by decide) (fun c2 => ?_) (fun c2 => ?_)
  · refine kr_goto h 679 dL_law_397 (by decide) ?_
    exact kr_lv lwK rfl (kk (xActX X v338 v344) (yActX x v338 v344) (fO (xActO X v338 v344) f) hw2 hr2)
  · refine kr_aload_n h dL_law_385 rfl 3 rfl ?_
    refine kr_iconst (v := 0) h dL_law_386 (by decide) ?_
    refine kr_lald h 32 2 dL_law_387 rfl rfl (show vp_in (nI 0) 1 from vp_in_nI (by decide) (by decide)) (fun z1 y1 => ?_)
    refine kr_iload h dL_law_388 0 rfl ?_
    refine kr_i2l h dL_law_390 (fun z2 y2 => ?_)
    refine kr_lcmp h dL_law_391 (fun z3 y3 => ?_)
    refine kr_if_eq h 397 dL_law_392 (by decide) (fun c3 => ?_) (fun c3 => absurd (by rw [y3]; exact lg_cmp_0 (by rw [y1, y2, e364]; exact oK_f cd_A hk (by rw [← e346]; exact c2) f)) c3)
    refine kr_goto h 679 dL_law_397 (by decide) ?_
    exact kr_lv lwK rfl (kk (xActX X v338 v344) (yActX x v338 v344) (fO (xActO X v338 v344) f) hw2 hr2)
set_option maxHeartbeats 4000000 in
set_option maxRecDepth 100000 in
theorem lc_ask {p : Program} {l : Launch} {e : Env} {s : State} {m : MethodId} {args : Array Value} {below : List Frame} {meth : Method} {c : Code} {Q : State → Prop} {D : va_G} {cI cZ cJ : ClassId} {A : Nat → Prop} {u : Nat × Nat} {b L o : Nat} {xs : Nat → Int32} {q r : Nat → Nat} {i : Int32} {t : Nat} {X x : xSt} {f : Nat → Int64} (h : kc_C p s m args c cL_law 7 RL D vwCl (tyL cI cZ cJ) A) (hst : l.stackTraces = false) (hT : kc_T A s) (hX : va_X b L xs s s.heap) (hbl : b < s.heap.size) (hbA : ¬ A b) (hL : L ≤ 2560) (h5 : 5 * t + 5 ≤ L) (hi : i = nI (5 * t)) (hw : xWF X) (hr : yRel X x) (hu1 : u.1 + 1 ≤ room_1.cells) (hu2 : u.2 + 6 ≤ room_1.slots) (kk : ∀ (X' x' : xSt) (f' : Nat → Int64), xWF X' → yRel X' x' → kc_W p l e room_1 s m args below meth c D vwCl A 7 Q 679 [(4, .int i), (3, .ref o), (2, .ref (r 0)), (1, .ref (q 0)), (0, .ref b)] [] (WL cI cZ cJ q r o X' x' f') (u.1 + 1, u.2 + 6)) : kc_W p l e room_1 s m args below meth c D vwCl A 7 Q 400 [(4, .int i), (3, .ref o), (2, .ref (r 0)), (1, .ref (q 0)), (0, .ref b)] [] (WL cI cZ cJ q r o X x f) u := by
  refine kr_aload_n h dL_law_400 rfl 3 rfl ?_
  refine kr_aload_n h dL_law_401 rfl 4 rfl ?_
  refine kr_iload h dL_law_402 0 rfl ?_
  refine kr_iconst (v := 1) h dL_law_404 (by decide) ?_
  refine kr_iadd h dL_law_405 (fun v405 e405 => ?_)
  refine kr_sld h hX hbl hbA dL_law_406 (idx_in (k := 1) h5 hL (by decide) hi e405) (fun v406 e406 => ?_)
  refine kr_aload_n h dL_law_407 rfl 4 rfl ?_
  refine kr_iload h dL_law_408 0 rfl ?_
  refine kr_iconst (v := 2) h dL_law_410 (by decide) ?_
  refine kr_iadd h dL_law_411 (fun v411 e411 => ?_)
  refine kr_sld h hX hbl hbA dL_law_412 (idx_in (k := 2) h5 hL (by decide) hi e411) (fun v412 e412 => ?_)
  refine kr_aload_n h dL_law_413 rfl 1 rfl ?_
  refine kr_iPW (wr := wY cI cZ r x) (ws' := (WL cI cZ cJ q r o X x (fO (xAskO X v406 v412) f))) h (kc_rW h hT (w_ask l hst D cI cZ cJ q o f X v406 v412 (i7_inst (wf_7 hw))) mlL_67 stL_ask inL cwL_ask dpL_ask dL_law_414 rfl rfl ⟨Nat.le_of_ble_eq_true rfl, Nat.le_of_ble_eq_true rfl⟩ ⟨hu1, hu2⟩ (Nat.le_of_ble_eq_true rfl) lwC (lwC_e cI cZ cJ q r o X x f) lwC_n) lwC lwCr lwCp (lwC_e cI cZ cJ q r o X x f) (lwC_r cI cZ cJ q r o X x f) lwC_rn lwC_d (lwC_p cI cZ cJ q r o X x (fO (xAskO X v406 v412) f)) lwC_pn (fun v414 e414 => ?_)
  refine kr_istore (lv' := [(5, .int v414), (4, .int i), (3, .ref o), (2, .ref (r 0)), (1, .ref (q 0)), (0, .ref b)]) h dL_law_417 (by decide) rfl ?_
  refine kr_aload_n h dL_law_419 rfl 3 rfl ?_
  refine kr_aload_n h dL_law_420 rfl 5 rfl ?_
  refine kr_iload h dL_law_421 1 rfl ?_
  refine kr_iconst (v := 1) h dL_law_423 (by decide) ?_
  refine kr_iadd h dL_law_424 (fun v424 e424 => ?_)
  refine kr_sld h hX hbl hbA dL_law_425 (idx_in (k := 1) h5 hL (by decide) hi e424) (fun v425 e425 => ?_)
  refine kr_aload_n h dL_law_426 rfl 5 rfl ?_
  refine kr_iload h dL_law_427 1 rfl ?_
  refine kr_iconst (v := 2) h dL_law_429 (by decide) ?_
  refine kr_iadd h dL_law_430 (fun v430 e430 => ?_)
  refine kr_sld h hX hbl hbA dL_law_431 (idx_in (k := 2) h5 hL (by decide) hi e430) (fun v431 e431 => ?_)
  obtain rfl : v406 = v425 := by rw [e406, e425, e405, e424]
  obtain rfl : v412 = v431 := by rw [e412, e431, e411, e430]
  refine kr_iP (wr := wX cI cZ q X ++ [(o, .inl (cJ, 1, .inr (.inl (fO (xAskO X v406 v412) f))))]) (ws' := (WL cI cZ cJ q r o X (yAskX x v406 v412) (fO (xAskO X v406 v412) f))) h (kc_rV h (m_ask l D cI cZ cJ r x v406 v412 (rel_W hw hr)) mlL_69 yvX1_ask dL_law_432 rfl rfl ⟨Nat.le_of_ble_eq_true rfl, Nat.le_of_ble_eq_true rfl⟩ ⟨hu1, hu2⟩ (Nat.le_of_ble_eq_true rfl) lwM (lwM_e cI cZ cJ q r o X x (fO (xAskO X v406 v412) f)) lwM_n 12 rfl rfl rfl) lwM lwMr lwMp (lwM_e cI cZ cJ q r o X x (fO (xAskO X v406 v412) f)) (lwM_r cI cZ cJ q r o X x (fO (xAskO X v406 v412) f)) lwM_rn lwM_d (lwM_p cI cZ cJ q r o X (yAskX x v406 v412) (fO (xAskO X v406 v412) f)) lwM_pn (fun v432 e432 => ?_)
  refine kr_istore (lv' := [(6, .int v432), (5, .int v414), (4, .int i), (3, .ref o), (2, .ref (r 0)), (1, .ref (q 0)), (0, .ref b)]) h dL_law_435 (by decide) rfl ?_
  refine kr_aload_n h dL_law_437 rfl 4 rfl ?_
  refine kr_iP (wr := wX cI cZ q X ++ [(o, .inl (cJ, 1, .inr (.inl (fO (xAskO X v406 v412) f))))]) (ws' := (WL cI cZ cJ q r o X (yAskX x v406 v412) (fO (xAskO X v406 v412) f))) h (kc_rV h (m_thrown l D cI cZ cJ r (yAskX x v406 v412)) mlL_52 yvX1_thrown dL_law_438 rfl rfl ⟨Nat.le_of_ble_eq_true rfl, Nat.le_of_ble_eq_true rfl⟩ ⟨hu1, hu2⟩ (Nat.le_of_ble_eq_true rfl) lwM (lwM_e cI cZ cJ q r o X (yAskX x v406 v412) (fO (xAskO X v406 v412) f)) lwM_n 12 rfl rfl rfl) lwM lwMr lwMp (lwM_e cI cZ cJ q r o X (yAskX x v406 v412) (fO (xAskO X v406 v412) f)) (lwM_r cI cZ cJ q r o X (yAskX x v406 v412) (fO (xAskO X v406 v412) f)) lwM_rn lwM_d (lwM_p cI cZ cJ q r o X (yAskX x v406 v412) (fO (xAskO X v406 v412) f)) lwM_pn (fun v438 e438 => ?_)
  obtain ⟨hr2, hk⟩ := t_ask hw hr v406 v412
  have hw2 := hw
  refine kr_iload h dL_law_441 1 rfl ?_
  refine kr_icmp_eq h 448 dL_law_443 (by decide) (fun c1 => ?_) (fun c1 => absurd (by rw [e438, e414]; exact oK_k hk) c1)
  refine kr_iload h dL_law_448 1 rfl ?_
  refine kr_if_ne h 465 dL_law_450 (by decide) (fun c2 => ?_) (fun c2 => ?_)
  · refine kr_goto h 679 dL_law_465 (by decide) ?_
    exact kr_lv lwK rfl (kk X (yAskX x v406 v412) (fO (xAskO X v406 v412) f) hw2 hr2)
  · refine kr_aload_n h dL_law_453 rfl 3 rfl ?_
    refine kr_iconst (v := 0) h dL_law_454 (by decide) ?_
    refine kr_lald h 32 2 dL_law_455 rfl rfl (show vp_in (nI 0) 1 from vp_in_nI (by decide) (by decide)) (fun z1 y1 => ?_)
    refine kr_iload h dL_law_456 0 rfl ?_
    refine kr_i2l h dL_law_458 (fun z2 y2 => ?_)
    refine kr_lcmp h dL_law_459 (fun z3 y3 => ?_)
    refine kr_if_eq h 465 dL_law_460 (by decide) (fun c3 => ?_) (fun c3 => absurd (by rw [y3]; exact lg_cmp_0 (by rw [y1, y2, e432]; exact oK_f cd_1 hk (by rw [← e414]; exact c2) f)) c3)
    refine kr_goto h 679 dL_law_465 (by decide) ?_
    exact kr_lv lwK rfl (kk X (yAskX x v406 v412) (fO (xAskO X v406 v412) f) hw2 hr2)
set_option maxHeartbeats 4000000 in
set_option maxRecDepth 100000 in
theorem lc_detail {p : Program} {l : Launch} {e : Env} {s : State} {m : MethodId} {args : Array Value} {below : List Frame} {meth : Method} {c : Code} {Q : State → Prop} {D : va_G} {cI cZ cJ : ClassId} {A : Nat → Prop} {u : Nat × Nat} {b L o : Nat} {xs : Nat → Int32} {q r : Nat → Nat} {i : Int32} {t : Nat} {X x : xSt} {f : Nat → Int64} (h : kc_C p s m args c cL_law 7 RL D vwCl (tyL cI cZ cJ) A) (hst : l.stackTraces = false) (hT : kc_T A s) (hX : va_X b L xs s s.heap) (hbl : b < s.heap.size) (hbA : ¬ A b) (hL : L ≤ 2560) (h5 : 5 * t + 5 ≤ L) (hi : i = nI (5 * t)) (hw : xWF X) (hr : yRel X x) (hu1 : u.1 + 1 ≤ room_1.cells) (hu2 : u.2 + 6 ≤ room_1.slots) (kk : ∀ (X' x' : xSt) (f' : Nat → Int64), xWF X' → yRel X' x' → kc_W p l e room_1 s m args below meth c D vwCl A 7 Q 679 [(4, .int i), (3, .ref o), (2, .ref (r 0)), (1, .ref (q 0)), (0, .ref b)] [] (WL cI cZ cJ q r o X' x' f') (u.1 + 1, u.2 + 6)) : kc_W p l e room_1 s m args below meth c D vwCl A 7 Q 468 [(4, .int i), (3, .ref o), (2, .ref (r 0)), (1, .ref (q 0)), (0, .ref b)] [] (WL cI cZ cJ q r o X x f) u := by
  refine kr_aload_n h dL_law_468 rfl 3 rfl ?_
  refine kr_aload_n h dL_law_469 rfl 4 rfl ?_
  refine kr_iload h dL_law_470 0 rfl ?_
  refine kr_iconst (v := 1) h dL_law_472 (by decide) ?_
  refine kr_iadd h dL_law_473 (fun v473 e473 => ?_)
  refine kr_sld h hX hbl hbA dL_law_474 (idx_in (k := 1) h5 hL (by decide) hi e473) (fun v474 e474 => ?_)
  refine kr_aload_n h dL_law_475 rfl 4 rfl ?_
  refine kr_iload h dL_law_476 0 rfl ?_
  refine kr_iconst (v := 2) h dL_law_478 (by decide) ?_
  refine kr_iadd h dL_law_479 (fun v479 e479 => ?_)
  refine kr_sld h hX hbl hbA dL_law_480 (idx_in (k := 2) h5 hL (by decide) hi e479) (fun v480 e480 => ?_)
  refine kr_aload_n h dL_law_481 rfl 4 rfl ?_
  refine kr_iload h dL_law_482 0 rfl ?_
  refine kr_iconst (v := 3) h dL_law_484 (by decide) ?_
  refine kr_iadd h dL_law_485 (fun v485 e485 => ?_)
  refine kr_sld h hX hbl hbA dL_law_486 (idx_in (k := 3) h5 hL (by decide) hi e485) (fun v486 e486 => ?_)
  refine kr_aload_n h dL_law_487 rfl 1 rfl ?_
  refine kr_iPW (wr := wY cI cZ r x) (ws' := (WL cI cZ cJ q r o X x (fO (xDetO X v474 v480 v486) f))) h (kc_rW h hT (w_detail l hst D cI cZ cJ q o f X v474 v480 v486 (i7_inst (wf_7 hw)) (wf_7 hw).2.1) mlL_70 stL_detail inL cwL_detail dpL_detail dL_law_488 rfl rfl ⟨Nat.le_of_ble_eq_true rfl, Nat.le_of_ble_eq_true rfl⟩ ⟨hu1, hu2⟩ (Nat.le_of_ble_eq_true rfl) lwC (lwC_e cI cZ cJ q r o X x f) lwC_n) lwC lwCr lwCp (lwC_e cI cZ cJ q r o X x f) (lwC_r cI cZ cJ q r o X x f) lwC_rn lwC_d (lwC_p cI cZ cJ q r o X x (fO (xDetO X v474 v480 v486) f)) lwC_pn (fun v488 e488 => ?_)
  refine kr_istore (lv' := [(5, .int v488), (4, .int i), (3, .ref o), (2, .ref (r 0)), (1, .ref (q 0)), (0, .ref b)]) h dL_law_491 (by decide) rfl ?_
  refine kr_aload_n h dL_law_493 rfl 3 rfl ?_
  refine kr_aload_n h dL_law_494 rfl 5 rfl ?_
  refine kr_iload h dL_law_495 1 rfl ?_
  refine kr_iconst (v := 1) h dL_law_497 (by decide) ?_
  refine kr_iadd h dL_law_498 (fun v498 e498 => ?_)
  refine kr_sld h hX hbl hbA dL_law_499 (idx_in (k := 1) h5 hL (by decide) hi e498) (fun v499 e499 => ?_)
  refine kr_aload_n h dL_law_500 rfl 5 rfl ?_
  refine kr_iload h dL_law_501 1 rfl ?_
  refine kr_iconst (v := 2) h dL_law_503 (by decide) ?_
  refine kr_iadd h dL_law_504 (fun v504 e504 => ?_)
  refine kr_sld h hX hbl hbA dL_law_505 (idx_in (k := 2) h5 hL (by decide) hi e504) (fun v505 e505 => ?_)
  refine kr_aload_n h dL_law_506 rfl 5 rfl ?_
  refine kr_iload h dL_law_507 1 rfl ?_
  refine kr_iconst (v := 3) h dL_law_509 (by decide) ?_
  refine kr_iadd h dL_law_510 (fun v510 e510 => ?_)
  refine kr_sld h hX hbl hbA dL_law_511 (idx_in (k := 3) h5 hL (by decide) hi e510) (fun v511 e511 => ?_)
  obtain rfl : v474 = v499 := by rw [e474, e499, e473, e498]
  obtain rfl : v480 = v505 := by rw [e480, e505, e479, e504]
  obtain rfl : v486 = v511 := by rw [e486, e511, e485, e510]
  refine kr_iP (wr := wX cI cZ q X ++ [(o, .inl (cJ, 1, .inr (.inl (fO (xDetO X v474 v480 v486) f))))]) (ws' := (WL cI cZ cJ q r o X (yDetX x v474 v480 v486) (fO (xDetO X v474 v480 v486) f))) h (kc_rV h (m_detail l D cI cZ cJ r x v474 v480 v486 (rel_W hw hr)) mlL_73 yvX1_detail dL_law_512 rfl rfl ⟨Nat.le_of_ble_eq_true rfl, Nat.le_of_ble_eq_true rfl⟩ ⟨hu1, hu2⟩ (Nat.le_of_ble_eq_true rfl) lwM (lwM_e cI cZ cJ q r o X x (fO (xDetO X v474 v480 v486) f)) lwM_n 12 rfl rfl rfl) lwM lwMr lwMp (lwM_e cI cZ cJ q r o X x (fO (xDetO X v474 v480 v486) f)) (lwM_r cI cZ cJ q r o X x (fO (xDetO X v474 v480 v486) f)) lwM_rn lwM_d (lwM_p cI cZ cJ q r o X (yDetX x v474 v480 v486) (fO (xDetO X v474 v480 v486) f)) lwM_pn (fun v512 e512 => ?_)
  refine kr_istore (lv' := [(6, .int v512), (5, .int v488), (4, .int i), (3, .ref o), (2, .ref (r 0)), (1, .ref (q 0)), (0, .ref b)]) h dL_law_515 (by decide) rfl ?_
  refine kr_aload_n h dL_law_517 rfl 4 rfl ?_
  refine kr_iP (wr := wX cI cZ q X ++ [(o, .inl (cJ, 1, .inr (.inl (fO (xDetO X v474 v480 v486) f))))]) (ws' := (WL cI cZ cJ q r o X (yDetX x v474 v480 v486) (fO (xDetO X v474 v480 v486) f))) h (kc_rV h (m_thrown l D cI cZ cJ r (yDetX x v474 v480 v486)) mlL_52 yvX1_thrown dL_law_518 rfl rfl ⟨Nat.le_of_ble_eq_true rfl, Nat.le_of_ble_eq_true rfl⟩ ⟨hu1, hu2⟩ (Nat.le_of_ble_eq_true rfl) lwM (lwM_e cI cZ cJ q r o X (yDetX x v474 v480 v486) (fO (xDetO X v474 v480 v486) f)) lwM_n 12 rfl rfl rfl) lwM lwMr lwMp (lwM_e cI cZ cJ q r o X (yDetX x v474 v480 v486) (fO (xDetO X v474 v480 v486) f)) (lwM_r cI cZ cJ q r o X (yDetX x v474 v480 v486) (fO (xDetO X v474 v480 v486) f)) lwM_rn lwM_d (lwM_p cI cZ cJ q r o X (yDetX x v474 v480 v486) (fO (xDetO X v474 v480 v486) f)) lwM_pn (fun v518 e518 => ?_)
  obtain ⟨hr2, hk⟩ := t_detail hw hr v474 v480 v486
  have hw2 := hw
  refine kr_iload h dL_law_521 1 rfl ?_
  refine kr_icmp_eq h 528 dL_law_523 (by decide) (fun c1 => ?_) (fun c1 => absurd (by rw [e518, e488]; exact oK_k hk) c1)
  refine kr_iload h dL_law_528 1 rfl ?_
  refine kr_if_ne h 545 dL_law_530 (by decide) (fun c2 => ?_) (fun c2 => ?_)
  · refine kr_goto h 679 dL_law_545 (by decide) ?_
    exact kr_lv lwK rfl (kk X (yDetX x v474 v480 v486) (fO (xDetO X v474 v480 v486) f) hw2 hr2)
  · refine kr_aload_n h dL_law_533 rfl 3 rfl ?_
    refine kr_iconst (v := 0) h dL_law_534 (by decide) ?_
    refine kr_lald h 32 2 dL_law_535 rfl rfl (show vp_in (nI 0) 1 from vp_in_nI (by decide) (by decide)) (fun z1 y1 => ?_)
    refine kr_iload h dL_law_536 0 rfl ?_
    refine kr_i2l h dL_law_538 (fun z2 y2 => ?_)
    refine kr_lcmp h dL_law_539 (fun z3 y3 => ?_)
    refine kr_if_eq h 545 dL_law_540 (by decide) (fun c3 => ?_) (fun c3 => absurd (by rw [y3]; exact lg_cmp_0 (by rw [y1, y2, e512]; exact oK_f cd_D hk (by rw [← e488]; exact c2) f)) c3)
    refine kr_goto h 679 dL_law_545 (by decide) ?_
    exact kr_lv lwK rfl (kk X (yDetX x v474 v480 v486) (fO (xDetO X v474 v480 v486) f) hw2 hr2)
set_option maxHeartbeats 4000000 in
set_option maxRecDepth 100000 in
theorem lc_total {p : Program} {l : Launch} {e : Env} {s : State} {m : MethodId} {args : Array Value} {below : List Frame} {meth : Method} {c : Code} {Q : State → Prop} {D : va_G} {cI cZ cJ : ClassId} {A : Nat → Prop} {u : Nat × Nat} {b L o : Nat} {xs : Nat → Int32} {q r : Nat → Nat} {i : Int32} {t : Nat} {X x : xSt} {f : Nat → Int64} (h : kc_C p s m args c cL_law 7 RL D vwCl (tyL cI cZ cJ) A) (hst : l.stackTraces = false) (hT : kc_T A s) (hX : va_X b L xs s s.heap) (hbl : b < s.heap.size) (hbA : ¬ A b) (hL : L ≤ 2560) (h5 : 5 * t + 5 ≤ L) (hi : i = nI (5 * t)) (hw : xWF X) (hr : yRel X x) (hu1 : u.1 + 1 ≤ room_1.cells) (hu2 : u.2 + 6 ≤ room_1.slots) (kk : ∀ (X' x' : xSt) (f' : Nat → Int64), xWF X' → yRel X' x' → kc_W p l e room_1 s m args below meth c D vwCl A 7 Q 679 [(4, .int i), (3, .ref o), (2, .ref (r 0)), (1, .ref (q 0)), (0, .ref b)] [] (WL cI cZ cJ q r o X' x' f') (u.1 + 1, u.2 + 6)) : kc_W p l e room_1 s m args below meth c D vwCl A 7 Q 548 [(4, .int i), (3, .ref o), (2, .ref (r 0)), (1, .ref (q 0)), (0, .ref b)] [] (WL cI cZ cJ q r o X x f) u := by
  refine kr_aload_n h dL_law_548 rfl 3 rfl ?_
  refine kr_aload_n h dL_law_549 rfl 4 rfl ?_
  refine kr_iload h dL_law_550 0 rfl ?_
  refine kr_iconst (v := 1) h dL_law_552 (by decide) ?_
  refine kr_iadd h dL_law_553 (fun v553 e553 => ?_)
  refine kr_sld h hX hbl hbA dL_law_554 (idx_in (k := 1) h5 hL (by decide) hi e553) (fun v554 e554 => ?_)
  refine kr_aload_n h dL_law_555 rfl 1 rfl ?_
  refine kr_iPW (wr := wY cI cZ r x) (ws' := (WL cI cZ cJ q r o X x (fO (xTotO X v554) f))) h (kc_rW h hT (w_total l hst D cI cZ cJ q o f X v554 ) mlL_74 stL_total inL cwL_total dpL_total dL_law_556 rfl rfl ⟨Nat.le_of_ble_eq_true rfl, Nat.le_of_ble_eq_true rfl⟩ ⟨hu1, hu2⟩ (Nat.le_of_ble_eq_true rfl) lwC (lwC_e cI cZ cJ q r o X x f) lwC_n) lwC lwCr lwCp (lwC_e cI cZ cJ q r o X x f) (lwC_r cI cZ cJ q r o X x f) lwC_rn lwC_d (lwC_p cI cZ cJ q r o X x (fO (xTotO X v554) f)) lwC_pn (fun v556 e556 => ?_)
  refine kr_istore (lv' := [(5, .int v556), (4, .int i), (3, .ref o), (2, .ref (r 0)), (1, .ref (q 0)), (0, .ref b)]) h dL_law_559 (by decide) rfl ?_
  refine kr_aload_n h dL_law_561 rfl 3 rfl ?_
  refine kr_aload_n h dL_law_562 rfl 5 rfl ?_
  refine kr_iload h dL_law_563 1 rfl ?_
  refine kr_iconst (v := 1) h dL_law_565 (by decide) ?_
  refine kr_iadd h dL_law_566 (fun v566 e566 => ?_)
  refine kr_sld h hX hbl hbA dL_law_567 (idx_in (k := 1) h5 hL (by decide) hi e566) (fun v567 e567 => ?_)
  obtain rfl : v554 = v567 := by rw [e554, e567, e553, e566]
  refine kr_iP (wr := wX cI cZ q X ++ [(o, .inl (cJ, 1, .inr (.inl (fO (xTotO X v554) f))))]) (ws' := (WL cI cZ cJ q r o X (yTotX x v554) (fO (xTotO X v554) f))) h (kc_rV h (m_total l D cI cZ cJ r x v554 ) mlL_76 yvX1_total dL_law_568 rfl rfl ⟨Nat.le_of_ble_eq_true rfl, Nat.le_of_ble_eq_true rfl⟩ ⟨hu1, hu2⟩ (Nat.le_of_ble_eq_true rfl) lwM (lwM_e cI cZ cJ q r o X x (fO (xTotO X v554) f)) lwM_n 12 rfl rfl rfl) lwM lwMr lwMp (lwM_e cI cZ cJ q r o X x (fO (xTotO X v554) f)) (lwM_r cI cZ cJ q r o X x (fO (xTotO X v554) f)) lwM_rn lwM_d (lwM_p cI cZ cJ q r o X (yTotX x v554) (fO (xTotO X v554) f)) lwM_pn (fun v568 e568 => ?_)
  refine kr_istore (lv' := [(6, .int v568), (5, .int v556), (4, .int i), (3, .ref o), (2, .ref (r 0)), (1, .ref (q 0)), (0, .ref b)]) h dL_law_571 (by decide) rfl ?_
  refine kr_aload_n h dL_law_573 rfl 4 rfl ?_
  refine kr_iP (wr := wX cI cZ q X ++ [(o, .inl (cJ, 1, .inr (.inl (fO (xTotO X v554) f))))]) (ws' := (WL cI cZ cJ q r o X (yTotX x v554) (fO (xTotO X v554) f))) h (kc_rV h (m_thrown l D cI cZ cJ r (yTotX x v554)) mlL_52 yvX1_thrown dL_law_574 rfl rfl ⟨Nat.le_of_ble_eq_true rfl, Nat.le_of_ble_eq_true rfl⟩ ⟨hu1, hu2⟩ (Nat.le_of_ble_eq_true rfl) lwM (lwM_e cI cZ cJ q r o X (yTotX x v554) (fO (xTotO X v554) f)) lwM_n 12 rfl rfl rfl) lwM lwMr lwMp (lwM_e cI cZ cJ q r o X (yTotX x v554) (fO (xTotO X v554) f)) (lwM_r cI cZ cJ q r o X (yTotX x v554) (fO (xTotO X v554) f)) lwM_rn lwM_d (lwM_p cI cZ cJ q r o X (yTotX x v554) (fO (xTotO X v554) f)) lwM_pn (fun v574 e574 => ?_)
  obtain ⟨hr2, hk⟩ := t_total hr v554
  have hw2 := hw
  refine kr_iload h dL_law_577 1 rfl ?_
  refine kr_icmp_eq h 584 dL_law_579 (by decide) (fun c1 => ?_) (fun c1 => absurd (by rw [e574, e556]; exact oK_k hk) c1)
  refine kr_iload h dL_law_584 1 rfl ?_
  refine kr_if_ne h 601 dL_law_586 (by decide) (fun c2 => ?_) (fun c2 => ?_)
  · refine kr_goto h 679 dL_law_601 (by decide) ?_
    exact kr_lv lwK rfl (kk X (yTotX x v554) (fO (xTotO X v554) f) hw2 hr2)
  · refine kr_aload_n h dL_law_589 rfl 3 rfl ?_
    refine kr_iconst (v := 0) h dL_law_590 (by decide) ?_
    refine kr_lald h 32 2 dL_law_591 rfl rfl (show vp_in (nI 0) 1 from vp_in_nI (by decide) (by decide)) (fun z1 y1 => ?_)
    refine kr_iload h dL_law_592 0 rfl ?_
    refine kr_i2l h dL_law_594 (fun z2 y2 => ?_)
    refine kr_lcmp h dL_law_595 (fun z3 y3 => ?_)
    refine kr_if_eq h 601 dL_law_596 (by decide) (fun c3 => ?_) (fun c3 => absurd (by rw [y3]; exact lg_cmp_0 (by rw [y1, y2, e568]; exact oK_f cd_1 hk (by rw [← e556]; exact c2) f)) c3)
    refine kr_goto h 679 dL_law_601 (by decide) ?_
    exact kr_lv lwK rfl (kk X (yTotX x v554) (fO (xTotO X v554) f) hw2 hr2)
set_option maxHeartbeats 4000000 in
set_option maxRecDepth 100000 in
theorem lc_state {p : Program} {l : Launch} {e : Env} {s : State} {m : MethodId} {args : Array Value} {below : List Frame} {meth : Method} {c : Code} {Q : State → Prop} {D : va_G} {cI cZ cJ : ClassId} {A : Nat → Prop} {u : Nat × Nat} {b L o : Nat} {xs : Nat → Int32} {q r : Nat → Nat} {i : Int32} {t : Nat} {X x : xSt} {f : Nat → Int64} (h : kc_C p s m args c cL_law 7 RL D vwCl (tyL cI cZ cJ) A) (hst : l.stackTraces = false) (hT : kc_T A s) (hX : va_X b L xs s s.heap) (hbl : b < s.heap.size) (hbA : ¬ A b) (hL : L ≤ 2560) (h5 : 5 * t + 5 ≤ L) (hi : i = nI (5 * t)) (hw : xWF X) (hr : yRel X x) (hu1 : u.1 + 1 ≤ room_1.cells) (hu2 : u.2 + 6 ≤ room_1.slots) (kk : ∀ (X' x' : xSt) (f' : Nat → Int64), xWF X' → yRel X' x' → kc_W p l e room_1 s m args below meth c D vwCl A 7 Q 679 [(4, .int i), (3, .ref o), (2, .ref (r 0)), (1, .ref (q 0)), (0, .ref b)] [] (WL cI cZ cJ q r o X' x' f') (u.1 + 1, u.2 + 6)) : kc_W p l e room_1 s m args below meth c D vwCl A 7 Q 604 [(4, .int i), (3, .ref o), (2, .ref (r 0)), (1, .ref (q 0)), (0, .ref b)] [] (WL cI cZ cJ q r o X x f) u := by
  have hu3 := Nat.le_of_succ_le hu1
  have hu4 := Nat.le_trans (Nat.le_add_right u.2 6) hu2
  refine kr_aload_n h dL_law_604 rfl 3 rfl ?_
  refine kr_aload_n h dL_law_605 rfl 4 rfl ?_
  refine kr_iload h dL_law_606 0 rfl ?_
  refine kr_iconst (v := 1) h dL_law_608 (by decide) ?_
  refine kr_iadd h dL_law_609 (fun v609 e609 => ?_)
  refine kr_sld h hX hbl hbA dL_law_610 (idx_in (k := 1) h5 hL (by decide) hi e609) (fun v610 e610 => ?_)
  refine kr_iP (wr := wY cI cZ r x ++ [(o, .inl (cJ, 1, .inr (.inl f)))]) (ws' := (WL cI cZ cJ q r o X x f)) h (kc_rV h (c_state l D cI cZ cJ q X v610 (wf_N hw)) mlL_77 yvX0_state dL_law_611 rfl rfl ⟨Nat.le_of_ble_eq_true rfl, Nat.le_of_ble_eq_true rfl⟩ ⟨hu3, hu4⟩ (Nat.le_of_ble_eq_true rfl) lwQ (lwQ_e cI cZ cJ q r o X x f) lwQ_n 0 rfl rfl rfl) lwQ lwQr lwQp (lwQ_e cI cZ cJ q r o X x f) (lwQ_r cI cZ cJ q r o X x f) lwQ_rn lwQ_d (lwQ_p cI cZ cJ q r o X x f) lwQ_pn (fun v611 e611 => ?_)
  refine kr_aload_n h dL_law_614 rfl 2 rfl ?_
  refine kr_aload_n h dL_law_615 rfl 4 rfl ?_
  refine kr_iload h dL_law_616 0 rfl ?_
  refine kr_iconst (v := 1) h dL_law_618 (by decide) ?_
  refine kr_iadd h dL_law_619 (fun v619 e619 => ?_)
  refine kr_sld h hX hbl hbA dL_law_620 (idx_in (k := 1) h5 hL (by decide) hi e619) (fun v620 e620 => ?_)
  obtain rfl : v610 = v620 := by rw [e610, e620, e609, e619]
  refine kr_iP (wr := wX cI cZ q X ++ [(o, .inl (cJ, 1, .inr (.inl f)))]) (ws' := (WL cI cZ cJ q r o X (xI x 6 0) f)) h (kc_rV h (m_state l D cI cZ cJ r x v610 (rel_N hw hr)) mlL_80 yvX1_state dL_law_621 rfl rfl ⟨Nat.le_of_ble_eq_true rfl, Nat.le_of_ble_eq_true rfl⟩ ⟨hu3, hu4⟩ (Nat.le_of_ble_eq_true rfl) lwM (lwM_e cI cZ cJ q r o X x f) lwM_n 12 rfl rfl rfl) lwM lwMr lwMp (lwM_e cI cZ cJ q r o X x f) (lwM_r cI cZ cJ q r o X x f) lwM_rn lwM_d (lwM_p cI cZ cJ q r o X (xI x 6 0) f) lwM_pn (fun v621 e621 => ?_)
  refine kr_icmp_eq h 679 dL_law_624 (by decide) (fun c1 => ?_) (fun c1 => absurd (by rw [e611, e621]; exact (t_state hr v610).symm) c1)
  exact kr_wide (Nat.le_add_right u.1 1) (Nat.le_add_right u.2 6) (kk X (xI x 6 0) f hw (rel_6 hr 0))
set_option maxHeartbeats 4000000 in
set_option maxRecDepth 100000 in
theorem lc_noted {p : Program} {l : Launch} {e : Env} {s : State} {m : MethodId} {args : Array Value} {below : List Frame} {meth : Method} {c : Code} {Q : State → Prop} {D : va_G} {cI cZ cJ : ClassId} {A : Nat → Prop} {u : Nat × Nat} {b L o : Nat} {xs : Nat → Int32} {q r : Nat → Nat} {i : Int32} {t : Nat} {X x : xSt} {f : Nat → Int64} (h : kc_C p s m args c cL_law 7 RL D vwCl (tyL cI cZ cJ) A) (hst : l.stackTraces = false) (hT : kc_T A s) (hX : va_X b L xs s s.heap) (hbl : b < s.heap.size) (hbA : ¬ A b) (hL : L ≤ 2560) (h5 : 5 * t + 5 ≤ L) (hi : i = nI (5 * t)) (hw : xWF X) (hr : yRel X x) (hu1 : u.1 + 1 ≤ room_1.cells) (hu2 : u.2 + 6 ≤ room_1.slots) (kk : ∀ (X' x' : xSt) (f' : Nat → Int64), xWF X' → yRel X' x' → kc_W p l e room_1 s m args below meth c D vwCl A 7 Q 679 [(4, .int i), (3, .ref o), (2, .ref (r 0)), (1, .ref (q 0)), (0, .ref b)] [] (WL cI cZ cJ q r o X' x' f') (u.1 + 1, u.2 + 6)) : kc_W p l e room_1 s m args below meth c D vwCl A 7 Q 629 [(4, .int i), (3, .ref o), (2, .ref (r 0)), (1, .ref (q 0)), (0, .ref b)] [] (WL cI cZ cJ q r o X x f) u := by
  have hu3 := Nat.le_of_succ_le hu1
  have hu4 := Nat.le_trans (Nat.le_add_right u.2 6) hu2
  refine kr_aload_n h dL_law_629 rfl 3 rfl ?_
  refine kr_aload_n h dL_law_630 rfl 4 rfl ?_
  refine kr_iload h dL_law_631 0 rfl ?_
  refine kr_iconst (v := 1) h dL_law_633 (by decide) ?_
  refine kr_iadd h dL_law_634 (fun v634 e634 => ?_)
  refine kr_sld h hX hbl hbA dL_law_635 (idx_in (k := 1) h5 hL (by decide) hi e634) (fun v635 e635 => ?_)
  refine kr_iP (wr := wY cI cZ r x ++ [(o, .inl (cJ, 1, .inr (.inl f)))]) (ws' := (WL cI cZ cJ q r o X x f)) h (kc_rV h (c_noted l D cI cZ cJ q X v635 ) mlL_81 yvX0_noted dL_law_636 rfl rfl ⟨Nat.le_of_ble_eq_true rfl, Nat.le_of_ble_eq_true rfl⟩ ⟨hu3, hu4⟩ (Nat.le_of_ble_eq_true rfl) lwQ (lwQ_e cI cZ cJ q r o X x f) lwQ_n 0 rfl rfl rfl) lwQ lwQr lwQp (lwQ_e cI cZ cJ q r o X x f) (lwQ_r cI cZ cJ q r o X x f) lwQ_rn lwQ_d (lwQ_p cI cZ cJ q r o X x f) lwQ_pn (fun v636 e636 => ?_)
  refine kr_aload_n h dL_law_639 rfl 2 rfl ?_
  refine kr_aload_n h dL_law_640 rfl 4 rfl ?_
  refine kr_iload h dL_law_641 0 rfl ?_
  refine kr_iconst (v := 1) h dL_law_643 (by decide) ?_
  refine kr_iadd h dL_law_644 (fun v644 e644 => ?_)
  refine kr_sld h hX hbl hbA dL_law_645 (idx_in (k := 1) h5 hL (by decide) hi e644) (fun v645 e645 => ?_)
  obtain rfl : v635 = v645 := by rw [e635, e645, e634, e644]
  refine kr_iP (wr := wX cI cZ q X ++ [(o, .inl (cJ, 1, .inr (.inl f)))]) (ws' := (WL cI cZ cJ q r o X (xI x 6 0) f)) h (kc_rV h (m_noted l D cI cZ cJ r x v635 ) mlL_84 yvX1_noted dL_law_646 rfl rfl ⟨Nat.le_of_ble_eq_true rfl, Nat.le_of_ble_eq_true rfl⟩ ⟨hu3, hu4⟩ (Nat.le_of_ble_eq_true rfl) lwM (lwM_e cI cZ cJ q r o X x f) lwM_n 12 rfl rfl rfl) lwM lwMr lwMp (lwM_e cI cZ cJ q r o X x f) (lwM_r cI cZ cJ q r o X x f) lwM_rn lwM_d (lwM_p cI cZ cJ q r o X (xI x 6 0) f) lwM_pn (fun v646 e646 => ?_)
  refine kr_icmp_eq h 679 dL_law_649 (by decide) (fun c1 => ?_) (fun c1 => absurd (by rw [e636, e646]; exact (t_noted hr v635).symm) c1)
  exact kr_wide (Nat.le_add_right u.1 1) (Nat.le_add_right u.2 6) (kk X (xI x 6 0) f hw (rel_6 hr 0))
set_option maxHeartbeats 4000000 in
set_option maxRecDepth 100000 in
theorem lc_count {p : Program} {l : Launch} {e : Env} {s : State} {m : MethodId} {args : Array Value} {below : List Frame} {meth : Method} {c : Code} {Q : State → Prop} {D : va_G} {cI cZ cJ : ClassId} {A : Nat → Prop} {u : Nat × Nat} {b L o : Nat} {xs : Nat → Int32} {q r : Nat → Nat} {i : Int32} {t : Nat} {X x : xSt} {f : Nat → Int64} (h : kc_C p s m args c cL_law 7 RL D vwCl (tyL cI cZ cJ) A) (hst : l.stackTraces = false) (hT : kc_T A s) (hX : va_X b L xs s s.heap) (hbl : b < s.heap.size) (hbA : ¬ A b) (hL : L ≤ 2560) (h5 : 5 * t + 5 ≤ L) (hi : i = nI (5 * t)) (hw : xWF X) (hr : yRel X x) (hu1 : u.1 + 1 ≤ room_1.cells) (hu2 : u.2 + 6 ≤ room_1.slots) (kk : ∀ (X' x' : xSt) (f' : Nat → Int64), xWF X' → yRel X' x' → kc_W p l e room_1 s m args below meth c D vwCl A 7 Q 679 [(4, .int i), (3, .ref o), (2, .ref (r 0)), (1, .ref (q 0)), (0, .ref b)] [] (WL cI cZ cJ q r o X' x' f') (u.1 + 1, u.2 + 6)) : kc_W p l e room_1 s m args below meth c D vwCl A 7 Q 654 [(4, .int i), (3, .ref o), (2, .ref (r 0)), (1, .ref (q 0)), (0, .ref b)] [] (WL cI cZ cJ q r o X x f) u := by
  have hu3 := Nat.le_of_succ_le hu1
  have hu4 := Nat.le_trans (Nat.le_add_right u.2 6) hu2
  refine kr_aload_n h dL_law_654 rfl 3 rfl ?_
  refine kr_aload_n h dL_law_655 rfl 4 rfl ?_
  refine kr_iload h dL_law_656 0 rfl ?_
  refine kr_iconst (v := 1) h dL_law_658 (by decide) ?_
  refine kr_iadd h dL_law_659 (fun v659 e659 => ?_)
  refine kr_sld h hX hbl hbA dL_law_660 (idx_in (k := 1) h5 hL (by decide) hi e659) (fun v660 e660 => ?_)
  refine kr_iP (wr := wY cI cZ r x ++ [(o, .inl (cJ, 1, .inr (.inl f)))]) (ws' := (WL cI cZ cJ q r o X x f)) h (kc_rV h (c_count l D cI cZ cJ q X v660 ) mlL_85 yvX0_count dL_law_661 rfl rfl ⟨Nat.le_of_ble_eq_true rfl, Nat.le_of_ble_eq_true rfl⟩ ⟨hu3, hu4⟩ (Nat.le_of_ble_eq_true rfl) lwQ (lwQ_e cI cZ cJ q r o X x f) lwQ_n 0 rfl rfl rfl) lwQ lwQr lwQp (lwQ_e cI cZ cJ q r o X x f) (lwQ_r cI cZ cJ q r o X x f) lwQ_rn lwQ_d (lwQ_p cI cZ cJ q r o X x f) lwQ_pn (fun v661 e661 => ?_)
  refine kr_aload_n h dL_law_664 rfl 2 rfl ?_
  refine kr_aload_n h dL_law_665 rfl 4 rfl ?_
  refine kr_iload h dL_law_666 0 rfl ?_
  refine kr_iconst (v := 1) h dL_law_668 (by decide) ?_
  refine kr_iadd h dL_law_669 (fun v669 e669 => ?_)
  refine kr_sld h hX hbl hbA dL_law_670 (idx_in (k := 1) h5 hL (by decide) hi e669) (fun v670 e670 => ?_)
  obtain rfl : v660 = v670 := by rw [e660, e670, e659, e669]
  refine kr_iP (wr := wX cI cZ q X ++ [(o, .inl (cJ, 1, .inr (.inl f)))]) (ws' := (WL cI cZ cJ q r o X (xI x 6 0) f)) h (kc_rV h (m_count l D cI cZ cJ r x v660 ) mlL_88 yvX1_count dL_law_671 rfl rfl ⟨Nat.le_of_ble_eq_true rfl, Nat.le_of_ble_eq_true rfl⟩ ⟨hu3, hu4⟩ (Nat.le_of_ble_eq_true rfl) lwM (lwM_e cI cZ cJ q r o X x f) lwM_n 12 rfl rfl rfl) lwM lwMr lwMp (lwM_e cI cZ cJ q r o X x f) (lwM_r cI cZ cJ q r o X x f) lwM_rn lwM_d (lwM_p cI cZ cJ q r o X (xI x 6 0) f) lwM_pn (fun v671 e671 => ?_)
  refine kr_icmp_eq h 679 dL_law_674 (by decide) (fun c1 => ?_) (fun c1 => absurd (by rw [e661, e671]; exact (t_count hr v660).symm) c1)
  exact kr_wide (Nat.le_add_right u.1 1) (Nat.le_add_right u.2 6) (kk X (xI x 6 0) f hw (rel_6 hr 0))
