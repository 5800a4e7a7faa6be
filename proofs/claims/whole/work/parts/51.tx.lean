theorem ta_63 : ∀ w ∈ vx_atS "PolicyMonitor" 63 "java/lang/IllegalArgumentException" ["java/lang/RuntimeException", "java/lang/Exception"], w ∈ lw_tbl ∧ (goodWord w || (w.onTables && w.keepsFace)) = true := by decide +kernel
theorem tx_63 : kc_tx "PolicyMonitor" 59 63 "java/lang/IllegalArgumentException" := by
  refine ⟨by decide +kernel, tw_l (by decide +kernel) (by decide +kernel), tw_l (by decide +kernel) (by decide +kernel), fun w hw => ?_, by decide +kernel⟩
  obtain ⟨h1, h2⟩ := ta_63 w hw
  rcases (Bool.or_eq_true _ _).mp h2 with q | q
  · exact Or.inl (tw_l h1 q)
  · exact Or.inr (List.mem_filter.mpr ⟨h1, q⟩)
theorem ta_84 : ∀ w ∈ vx_atS "PolicyMonitor" 84 "java/lang/IllegalStateException" ["java/lang/RuntimeException", "java/lang/Exception"], w ∈ lw_tbl ∧ (goodWord w || (w.onTables && w.keepsFace)) = true := by decide +kernel
theorem tx_84 : kc_tx "PolicyMonitor" 80 84 "java/lang/IllegalStateException" := by
  refine ⟨by decide +kernel, tw_l (by decide +kernel) (by decide +kernel), tw_l (by decide +kernel) (by decide +kernel), fun w hw => ?_, by decide +kernel⟩
  obtain ⟨h1, h2⟩ := ta_84 w hw
  rcases (Bool.or_eq_true _ _).mp h2 with q | q
  · exact Or.inl (tw_l h1 q)
  · exact Or.inr (List.mem_filter.mpr ⟨h1, q⟩)
theorem ta_92 : ∀ w ∈ vx_atS "PolicyMonitor" 92 "java/lang/UnsupportedOperationException" ["java/lang/RuntimeException", "java/lang/Exception"], w ∈ lw_tbl ∧ (goodWord w || (w.onTables && w.keepsFace)) = true := by decide +kernel
theorem tx_92 : kc_tx "PolicyMonitor" 88 92 "java/lang/UnsupportedOperationException" := by
  refine ⟨by decide +kernel, tw_l (by decide +kernel) (by decide +kernel), tw_l (by decide +kernel) (by decide +kernel), fun w hw => ?_, by decide +kernel⟩
  obtain ⟨h1, h2⟩ := ta_92 w hw
  rcases (Bool.or_eq_true _ _).mp h2 with q | q
  · exact Or.inl (tw_l h1 q)
  · exact Or.inr (List.mem_filter.mpr ⟨h1, q⟩)
theorem ta_100 : ∀ w ∈ vx_atS "PolicyMonitor" 100 "java/lang/ArithmeticException" ["java/lang/RuntimeException", "java/lang/Exception"], w ∈ lw_tbl ∧ (goodWord w || (w.onTables && w.keepsFace)) = true := by decide +kernel
theorem tx_100 : kc_tx "PolicyMonitor" 96 100 "java/lang/ArithmeticException" := by
  refine ⟨by decide +kernel, tw_l (by decide +kernel) (by decide +kernel), tw_l (by decide +kernel) (by decide +kernel), fun w hw => ?_, by decide +kernel⟩
  obtain ⟨h1, h2⟩ := ta_100 w hw
  rcases (Bool.or_eq_true _ _).mp h2 with q | q
  · exact Or.inl (tw_l h1 q)
  · exact Or.inr (List.mem_filter.mpr ⟨h1, q⟩)
