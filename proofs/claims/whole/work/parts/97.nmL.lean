def RL : String := "PolicyMonitorLaw"
abbrev cL_table : ByteArray := method_3_code
def yL_table : MethodName := ⟨RL, "table", "(LPolicyMonitor;IIII[J)I"⟩
abbrev cL_policy : ByteArray := method_4_code
def yL_policy : MethodName := ⟨RL, "policy", "(LPolicyMonitor;IIII[J)I"⟩
abbrev cL_install : ByteArray := method_5_code
def yL_install : MethodName := ⟨RL, "install", "(LPolicyMonitor;I[J)I"⟩
abbrev cL_act : ByteArray := method_6_code
def yL_act : MethodName := ⟨RL, "act", "(LPolicyMonitor;II[J)I"⟩
abbrev cL_ask : ByteArray := method_7_code
def yL_ask : MethodName := ⟨RL, "ask", "(LPolicyMonitor;II[J)I"⟩
abbrev cL_detail : ByteArray := method_8_code
def yL_detail : MethodName := ⟨RL, "detail", "(LPolicyMonitor;III[J)I"⟩
abbrev cL_total : ByteArray := method_9_code
def yL_total : MethodName := ⟨RL, "total", "(LPolicyMonitor;I[J)I"⟩
abbrev cL_law : ByteArray := code
def yL_law : MethodName := ⟨RL, "law", "([I)Z"⟩
theorem mlL_42 : Cond.methodLink RL 42 yX0_init ∈ tw := tw_t 13 (by decide +kernel) (by decide +kernel)
theorem mlL_77 : Cond.methodLink RL 77 yX0_state ∈ tw := tw_t 79 (by decide +kernel) (by decide +kernel)
theorem mlL_81 : Cond.methodLink RL 81 yX0_noted ∈ tw := tw_t 90 (by decide +kernel) (by decide +kernel)
theorem mlL_85 : Cond.methodLink RL 85 yX0_count ∈ tw := tw_t 97 (by decide +kernel) (by decide +kernel)
theorem mlL_46 : Cond.methodLink RL 46 yL_table ∈ tw := tw_t 101 (by decide +kernel) (by decide +kernel)
theorem mlL_7 : Cond.methodLink RL 7 yX0_table ∈ tw := tw_t 105 (by decide +kernel) (by decide +kernel)
theorem mlL_56 : Cond.methodLink RL 56 yL_policy ∈ tw := tw_t 187 (by decide +kernel) (by decide +kernel)
theorem mlL_15 : Cond.methodLink RL 15 yX0_policy ∈ tw := tw_t 193 (by decide +kernel) (by decide +kernel)
theorem mlL_59 : Cond.methodLink RL 59 yL_install ∈ tw := tw_t 280 (by decide +kernel) (by decide +kernel)
theorem mlL_24 : Cond.methodLink RL 24 yX0_install ∈ tw := tw_t 283 (by decide +kernel) (by decide +kernel)
theorem mlL_63 : Cond.methodLink RL 63 yL_act ∈ tw := tw_t 288 (by decide +kernel) (by decide +kernel)
theorem mlL_28 : Cond.methodLink RL 28 yX0_act ∈ tw := tw_t 291 (by decide +kernel) (by decide +kernel)
theorem mlL_67 : Cond.methodLink RL 67 yL_ask ∈ tw := tw_t 364 (by decide +kernel) (by decide +kernel)
theorem mlL_32 : Cond.methodLink RL 32 yX0_ask ∈ tw := tw_t 367 (by decide +kernel) (by decide +kernel)
theorem mlL_70 : Cond.methodLink RL 70 yL_detail ∈ tw := tw_t 375 (by decide +kernel) (by decide +kernel)
theorem mlL_35 : Cond.methodLink RL 35 yX0_detail ∈ tw := tw_t 378 (by decide +kernel) (by decide +kernel)
theorem mlL_74 : Cond.methodLink RL 74 yL_total ∈ tw := tw_t 384 (by decide +kernel) (by decide +kernel)
theorem mlL_39 : Cond.methodLink RL 39 yX0_total ∈ tw := tw_t 387 (by decide +kernel) (by decide +kernel)
theorem mlL_45 : Cond.methodLink RL 45 yX1_init ∈ tw := tw_t 393 (by decide +kernel) (by decide +kernel)
theorem mlL_52 : Cond.methodLink RL 52 yX1_thrown ∈ tw := tw_t 482 (by decide +kernel) (by decide +kernel)
theorem mlL_51 : Cond.methodLink RL 51 yX1_table ∈ tw := tw_t 486 (by decide +kernel) (by decide +kernel)
theorem mlL_58 : Cond.methodLink RL 58 yX1_policy ∈ tw := tw_t 502 (by decide +kernel) (by decide +kernel)
theorem mlL_62 : Cond.methodLink RL 62 yX1_install ∈ tw := tw_t 522 (by decide +kernel) (by decide +kernel)
theorem mlL_66 : Cond.methodLink RL 66 yX1_act ∈ tw := tw_t 526 (by decide +kernel) (by decide +kernel)
theorem mlL_69 : Cond.methodLink RL 69 yX1_ask ∈ tw := tw_t 574 (by decide +kernel) (by decide +kernel)
theorem mlL_73 : Cond.methodLink RL 73 yX1_detail ∈ tw := tw_t 578 (by decide +kernel) (by decide +kernel)
theorem mlL_76 : Cond.methodLink RL 76 yX1_total ∈ tw := tw_t 582 (by decide +kernel) (by decide +kernel)
theorem mlL_80 : Cond.methodLink RL 80 yX1_state ∈ tw := tw_t 586 (by decide +kernel) (by decide +kernel)
theorem mlL_84 : Cond.methodLink RL 84 yX1_noted ∈ tw := tw_t 590 (by decide +kernel) (by decide +kernel)
theorem mlL_88 : Cond.methodLink RL 88 yX1_count ∈ tw := tw_t 594 (by decide +kernel) (by decide +kernel)
theorem cwL_table : Cond.codeWith yL_table cL_table 7 (some .int) [(0, 14, 17, 13)] ∈ tw := tw_t 103 (by decide +kernel) (by decide +kernel)
theorem stL_table : Cond.static yL_table ∈ tw := tw_t 102 (by decide +kernel) (by decide +kernel)
theorem cwL_policy : Cond.codeWith yL_policy cL_policy 7 (some .int) [(0, 14, 17, 13), (0, 14, 21, 18), (0, 14, 25, 20), (0, 14, 29, 22)] ∈ tw := tw_t 189 (by decide +kernel) (by decide +kernel)
theorem stL_policy : Cond.static yL_policy ∈ tw := tw_t 188 (by decide +kernel) (by decide +kernel)
theorem cwL_install : Cond.codeWith yL_install cL_install 4 (some .int) [(0, 9, 12, 13)] ∈ tw := tw_t 282 (by decide +kernel) (by decide +kernel)
theorem stL_install : Cond.static yL_install ∈ tw := tw_t 281 (by decide +kernel) (by decide +kernel)
theorem cwL_act : Cond.codeWith yL_act cL_act 5 (some .int) [(0, 10, 13, 13), (0, 10, 17, 20), (0, 10, 21, 18), (0, 10, 25, 22)] ∈ tw := tw_t 290 (by decide +kernel) (by decide +kernel)
theorem stL_act : Cond.static yL_act ∈ tw := tw_t 289 (by decide +kernel) (by decide +kernel)
theorem cwL_ask : Cond.codeWith yL_ask cL_ask 5 (some .int) [(0, 10, 13, 13)] ∈ tw := tw_t 366 (by decide +kernel) (by decide +kernel)
theorem stL_ask : Cond.static yL_ask ∈ tw := tw_t 365 (by decide +kernel) (by decide +kernel)
theorem cwL_detail : Cond.codeWith yL_detail cL_detail 6 (some .int) [(0, 12, 15, 13), (0, 12, 19, 18)] ∈ tw := tw_t 377 (by decide +kernel) (by decide +kernel)
theorem stL_detail : Cond.static yL_detail ∈ tw := tw_t 376 (by decide +kernel) (by decide +kernel)
theorem cwL_total : Cond.codeWith yL_total cL_total 4 (some .int) [(0, 9, 12, 13)] ∈ tw := tw_t 386 (by decide +kernel) (by decide +kernel)
theorem stL_total : Cond.static yL_total ∈ tw := tw_t 385 (by decide +kernel) (by decide +kernel)
theorem fw_l {w : Cond} (h : w ∈ lw_tbl) (g : (w.onTables && w.keepsFace) = true) : w ∈ fw := List.mem_filter.mpr ⟨h, g⟩
abbrev eIA : String := "java/lang/IllegalArgumentException"
abbrev eIS : String := "java/lang/IllegalStateException"
abbrev eUO : String := "java/lang/UnsupportedOperationException"
abbrev eAE : String := "java/lang/ArithmeticException"
theorem clL_13 : Cond.classLink RL 13 eIA ∈ tw := tw_l (by decide +kernel) (by decide +kernel)
theorem clL_18 : Cond.classLink RL 18 eIS ∈ tw := tw_l (by decide +kernel) (by decide +kernel)
theorem clL_20 : Cond.classLink RL 20 eUO ∈ tw := tw_l (by decide +kernel) (by decide +kernel)
theorem clL_22 : Cond.classLink RL 22 eAE ∈ tw := tw_l (by decide +kernel) (by decide +kernel)
theorem ctL_IA : Cond.castable eIA eIA ∈ fw := fw_l (by decide +kernel) (by decide +kernel)
theorem ctL_IS : Cond.castable eIS eIS ∈ fw := fw_l (by decide +kernel) (by decide +kernel)
theorem ctL_UO : Cond.castable eUO eUO ∈ fw := fw_l (by decide +kernel) (by decide +kernel)
theorem ctL_AE : Cond.castable eAE eAE ∈ fw := fw_l (by decide +kernel) (by decide +kernel)
theorem inL : Cond.initialized RL ∈ tw := tw_l (by decide +kernel) (by decide +kernel)
theorem inX0 : Cond.initialized RX0 ∈ tw := tw_l (by decide +kernel) (by decide +kernel)
theorem inX1 : Cond.initialized RX1 ∈ tw := tw_l (by decide +kernel) (by decide +kernel)
theorem clL_8 : Cond.classLink RL 8 RX0 ∈ tw := tw_l (by decide +kernel) (by decide +kernel)
theorem clL_43 : Cond.classLink RL 43 RX1 ∈ tw := tw_l (by decide +kernel) (by decide +kernel)
theorem isX0 : Cond.instantiable RX0 19 ∈ tw := tw_l (by decide +kernel) (by decide +kernel)
theorem isX1 : Cond.instantiable RX1 28 ∈ tw := tw_l (by decide +kernel) (by decide +kernel)
/-- what a wrapper answers, and what it leaves in its long -/
def kO (cd : String → Int32) (o : Int32 ⊕ String) : Int32 := match o with
  | .inl _ => 0
  | .inr E => cd E
def fO (o : Int32 ⊕ String) (f : Nat → Int64) : Nat → Int64 := match o with
  | .inl v => vp_updL f 0 v.toInt64
  | .inr _ => f
theorem xTabO_e {X : xSt} {k t s n : Int32} {E : String} (h : xTabO X k t s n = .inr E) : E = eIA := by
  unfold xTabO at h
  split at h
  · cases h
  · cases h; rfl
theorem xInsO_e {X : xSt} {p : Int32} {E : String} (h : xInsO X p = .inr E) : E = eIA := by
  unfold xInsO at h
  split at h
  · cases h
  · cases h; rfl
theorem xAskO_e {X : xSt} {s v : Int32} {E : String} (h : xAskO X s v = .inr E) : E = eIA := by
  unfold xAskO at h
  split at h
  · cases h
  · cases h; rfl
theorem xTotO_e {X : xSt} {s : Int32} {E : String} (h : xTotO X s = .inr E) : E = eIA := by
  unfold xTotO at h
  split at h
  · cases h
  · cases h; rfl
theorem xDetO_e {X : xSt} {s v w : Int32} {E : String} (h : xDetO X s v w = .inr E) : E = eIA ∨ E = eIS := by
  by_cases h1 : pBelow s 8 ∧ pBelow w 3
  · by_cases h2 : xKind (xNow X s v) = (if w = 2 then 3 else 2)
    · by_cases h3 : w = 1
      · rw [xDetO, if_pos h1, if_pos h2, if_pos h3] at h; cases h
      · rw [xDetO, if_pos h1, if_pos h2, if_neg h3] at h; cases h
    · rw [xDetO, if_pos h1, if_neg h2] at h; cases h; exact Or.inr rfl
  · rw [xDetO, if_neg h1] at h; cases h; exact Or.inl rfl
theorem xPolO_e {X : xSt} {k a b c : Int32} {E : String} (h : xPolO X k a b c = .inr E) : E = eIA ∨ E = eIS ∨ E = eUO ∨ E = eAE := by
  unfold xPolO at h
  split at h
  · split at h
    · cases h; exact Or.inr (Or.inl rfl)
    · split at h
      · split at h
        · cases h
        · cases h; exact Or.inr (Or.inr (Or.inr rfl))
      · cases h; exact Or.inr (Or.inr (Or.inl rfl))
  · cases h; exact Or.inl rfl
theorem xActO_e {X : xSt} {s v : Int32} {E : String} (h : xActO X s v = .inr E) : E = eIA ∨ E = eUO ∨ E = eIS ∨ E = eAE := by
  unfold xActO at h
  split at h
  · split at h
    · cases h
    · split at h
      · cases h; exact Or.inr (Or.inl rfl)
      · split at h
        · cases h; exact Or.inr (Or.inr (Or.inl rfl))
        · cases h; exact Or.inr (Or.inr (Or.inr rfl))
  · cases h; exact Or.inl rfl
