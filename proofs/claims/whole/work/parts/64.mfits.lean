set_option maxHeartbeats 4000000 in
set_option maxRecDepth 100000 in
theorem m_fits (l : Launch) (D : va_G) (cI cZ cJ : ClassId) (q : Nat → Nat) (x : xSt) (k a b c : Int32) : kc_M l yX1_fits cX1_fits 5 (some .boolean) 1 23 0 0 [.ref (q 0), .int k, .int a, .int b, .int c] D vwCl (tyL cI cZ cJ) (wY cI cZ q x) (some (.int (yFits x k a b c))) (wY cI cZ q (x)) := by
  refine kc_start RX1 (by decide +kernel) rfl (Nat.le_of_ble_eq_true rfl) ?_
  intro zp ze zs zm zb zt zc h hr hlk hnm
  refine kr_aload_n h dX1_fits_0 rfl 0 rfl ?_
  refine kr_iload_n h dX1_fits_1 rfl 1 rfl ?_
  refine kr_iconst (v := 0) h dX1_fits_2 (by decide) ?_
  refine kr_bipush (v := 14) h dX1_fits_3 (by decide) ?_
  refine kr_iA h (kc_rV h (m_out l D cI cZ cJ q x k 0 14) mlX1_97 yvX1_out dX1_fits_5 rfl rfl ⟨Nat.le_of_ble_eq_true rfl, Nat.le_of_ble_eq_true rfl⟩ ⟨Nat.le_of_ble_eq_true rfl, Nat.le_of_ble_eq_true rfl⟩ (Nat.le_of_ble_eq_true rfl) [0, 1, 2, 3, 4, 5, 6, 7, 8, 9, 10, 11, 12, 13, 14, 15, 16, 17, 18, 19] rfl rfl 0 rfl rfl rfl) (fun v5 e5 => ?_)
  refine kr_if_ne h 43 dX1_fits_8 (by decide) (fun c8 => ?_) (fun c8 => ?_)
  · refine kr_iconst (v := 0) h dX1_fits_43 (by decide) ?_
    exact kr_zret h hr hlk dX1_fits_44 (rfl) (by rw [yFits, if_pos (by first | exact Or.inl (xb_t e5 c8) | exact Or.inr (Or.inl ⟨xb_t e13 c16, xb_t e21 c24⟩) | exact Or.inr (Or.inr ⟨xb_t e29 c32, xb_t e37 c40⟩))]) (rfl)
  · refine kr_aload_n h dX1_fits_11 rfl 0 rfl ?_
    refine kr_iload_n h dX1_fits_12 rfl 1 rfl ?_
    refine kr_iA h (kc_rV h (m_namesA l D cI cZ cJ q x k) mlX1_108 yvX1_namesA dX1_fits_13 rfl rfl ⟨Nat.le_of_ble_eq_true rfl, Nat.le_of_ble_eq_true rfl⟩ ⟨Nat.le_of_ble_eq_true rfl, Nat.le_of_ble_eq_true rfl⟩ (Nat.le_of_ble_eq_true rfl) [0, 1, 2, 3, 4, 5, 6, 7, 8, 9, 10, 11, 12, 13, 14, 15, 16, 17, 18, 19] rfl rfl 0 rfl rfl rfl) (fun v13 e13 => ?_)
    refine kr_if_eq h 27 dX1_fits_16 (by decide) (fun c16 => ?_) (fun c16 => ?_)
    · refine kr_aload_n h dX1_fits_27 rfl 0 rfl ?_
      refine kr_iload_n h dX1_fits_28 rfl 1 rfl ?_
      refine kr_iA h (kc_rV h (m_namesB l D cI cZ cJ q x k) mlX1_115 yvX1_namesB dX1_fits_29 rfl rfl ⟨Nat.le_of_ble_eq_true rfl, Nat.le_of_ble_eq_true rfl⟩ ⟨Nat.le_of_ble_eq_true rfl, Nat.le_of_ble_eq_true rfl⟩ (Nat.le_of_ble_eq_true rfl) [0, 1, 2, 3, 4, 5, 6, 7, 8, 9, 10, 11, 12, 13, 14, 15, 16, 17, 18, 19] rfl rfl 0 rfl rfl rfl) (fun v29 e29 => ?_)
      refine kr_if_eq h 45 dX1_fits_32 (by decide) (fun c32 => ?_) (fun c32 => ?_)
      · refine kr_iload_n h dX1_fits_45 rfl 1 rfl ?_
        refine kr_bipush (v := 6) h dX1_fits_46 (by decide) ?_
        refine kr_icmp_ne h 67 dX1_fits_48 (by decide) (fun c48 => ?_) (fun c48 => ?_)
        · refine kr_iload_n h dX1_fits_67 rfl 1 rfl ?_
          refine kr_bipush (v := 14) h dX1_fits_68 (by decide) ?_
          refine kr_icmp_ne h 117 dX1_fits_70 (by decide) (fun c70 => ?_) (fun c70 => ?_)
          · refine kr_aload_n h dX1_fits_117 rfl 0 rfl ?_
            refine kr_iload_n h dX1_fits_118 rfl 1 rfl ?_
            refine kr_iA h (kc_rV h (m_namesA l D cI cZ cJ q x k) mlX1_108 yvX1_namesA dX1_fits_119 rfl rfl ⟨Nat.le_of_ble_eq_true rfl, Nat.le_of_ble_eq_true rfl⟩ ⟨Nat.le_of_ble_eq_true rfl, Nat.le_of_ble_eq_true rfl⟩ (Nat.le_of_ble_eq_true rfl) [0, 1, 2, 3, 4, 5, 6, 7, 8, 9, 10, 11, 12, 13, 14, 15, 16, 17, 18, 19] rfl rfl 0 rfl rfl rfl) (fun v119 e119 => ?_)
            refine kr_if_ne h 139 dX1_fits_122 (by decide) (fun c122 => ?_) (fun c122 => ?_)
            · refine kr_iload_n h dX1_fits_139 rfl 1 rfl ?_
              refine kr_iconst (v := 3) h dX1_fits_140 (by decide) ?_
              refine kr_icmp_ne h 161 dX1_fits_141 (by decide) (fun c141 => ?_) (fun c141 => ?_)
              · refine kr_iload_n h dX1_fits_161 rfl 1 rfl ?_
                refine kr_iconst (v := 5) h dX1_fits_162 (by decide) ?_
                refine kr_icmp_ne h 177 dX1_fits_163 (by decide) (fun c163 => ?_) (fun c163 => ?_)
                · refine kr_iconst (v := 1) h dX1_fits_177 (by decide) ?_
                  refine kr_goto h 182 dX1_fits_178 (by decide) ?_
                  exact kr_zret h hr hlk dX1_fits_182 (rfl) (by rw [yFits, if_neg (fun z => by rcases z with z | z | z <;> first | exact xb_f e5 c8 z | exact xb_f e13 c16 z.1 | exact xb_f e21 c24 z.2 | exact xb_f e29 c32 z.1 | exact xb_f e37 c40 z.2), if_neg c48, if_neg c70, if_neg (fun z => by first | exact z.1 (xb_t e119 c122) | exact xb_f e131 c134 z.2), if_neg c141]; first | exact (if_neg (fun z => c163 z.1)).symm | exact (if_pos ⟨c163, xb_t e171 c174⟩).symm | exact (if_neg (fun z => xb_f e171 c174 z.2)).symm) (rfl)
                · refine kr_aload_n h dX1_fits_166 rfl 0 rfl ?_
                  refine kr_iload_n h dX1_fits_167 rfl 3 rfl ?_
                  refine kr_iconst (v := 0) h dX1_fits_168 (by decide) ?_
                  refine kr_bipush (v := 7) h dX1_fits_169 (by decide) ?_
                  refine kr_iA h (kc_rV h (m_out l D cI cZ cJ q x b 0 7) mlX1_97 yvX1_out dX1_fits_171 rfl rfl ⟨Nat.le_of_ble_eq_true rfl, Nat.le_of_ble_eq_true rfl⟩ ⟨Nat.le_of_ble_eq_true rfl, Nat.le_of_ble_eq_true rfl⟩ (Nat.le_of_ble_eq_true rfl) [0, 1, 2, 3, 4, 5, 6, 7, 8, 9, 10, 11, 12, 13, 14, 15, 16, 17, 18, 19] rfl rfl 0 rfl rfl rfl) (fun v171 e171 => ?_)
                  refine kr_if_ne h 181 dX1_fits_174 (by decide) (fun c174 => ?_) (fun c174 => ?_)
                  · refine kr_iconst (v := 0) h dX1_fits_181 (by decide) ?_
                    exact kr_zret h hr hlk dX1_fits_182 (rfl) (by rw [yFits, if_neg (fun z => by rcases z with z | z | z <;> first | exact xb_f e5 c8 z | exact xb_f e13 c16 z.1 | exact xb_f e21 c24 z.2 | exact xb_f e29 c32 z.1 | exact xb_f e37 c40 z.2), if_neg c48, if_neg c70, if_neg (fun z => by first | exact z.1 (xb_t e119 c122) | exact xb_f e131 c134 z.2), if_neg c141]; first | exact (if_neg (fun z => c163 z.1)).symm | exact (if_pos ⟨c163, xb_t e171 c174⟩).symm | exact (if_neg (fun z => xb_f e171 c174 z.2)).symm) (rfl)
                  · refine kr_iconst (v := 1) h dX1_fits_177 (by decide) ?_
                    refine kr_goto h 182 dX1_fits_178 (by decide) ?_
                    exact kr_zret h hr hlk dX1_fits_182 (rfl) (by rw [yFits, if_neg (fun z => by rcases z with z | z | z <;> first | exact xb_f e5 c8 z | exact xb_f e13 c16 z.1 | exact xb_f e21 c24 z.2 | exact xb_f e29 c32 z.1 | exact xb_f e37 c40 z.2), if_neg c48, if_neg c70, if_neg (fun z => by first | exact z.1 (xb_t e119 c122) | exact xb_f e131 c134 z.2), if_neg c141]; first | exact (if_neg (fun z => c163 z.1)).symm | exact (if_pos ⟨c163, xb_t e171 c174⟩).symm | exact (if_neg (fun z => xb_f e171 c174 z.2)).symm) (rfl)
              · refine kr_aload_n h dX1_fits_144 rfl 0 rfl ?_
                refine kr_iload_n h dX1_fits_145 rfl 3 rfl ?_
                refine kr_iconst (v := 0) h dX1_fits_146 (by decide) ?_
                refine kr_bipush (v := 99) h dX1_fits_147 (by decide) ?_
                refine kr_iA h (kc_rV h (m_out l D cI cZ cJ q x b 0 99) mlX1_97 yvX1_out dX1_fits_149 rfl rfl ⟨Nat.le_of_ble_eq_true rfl, Nat.le_of_ble_eq_true rfl⟩ ⟨Nat.le_of_ble_eq_true rfl, Nat.le_of_ble_eq_true rfl⟩ (Nat.le_of_ble_eq_true rfl) [0, 1, 2, 3, 4, 5, 6, 7, 8, 9, 10, 11, 12, 13, 14, 15, 16, 17, 18, 19] rfl rfl 0 rfl rfl rfl) (fun v149 e149 => ?_)
                refine kr_if_ne h 159 dX1_fits_152 (by decide) (fun c152 => ?_) (fun c152 => ?_)
                · refine kr_iconst (v := 0) h dX1_fits_159 (by decide) ?_
                  exact kr_zret h hr hlk dX1_fits_160 (rfl) (by rw [yFits, if_neg (fun z => by rcases z with z | z | z <;> first | exact xb_f e5 c8 z | exact xb_f e13 c16 z.1 | exact xb_f e21 c24 z.2 | exact xb_f e29 c32 z.1 | exact xb_f e37 c40 z.2), if_neg c48, if_neg c70, if_neg (fun z => by first | exact z.1 (xb_t e119 c122) | exact xb_f e131 c134 z.2), if_pos c141]; first | exact (if_pos (xb_t e149 c152)).symm | exact (if_neg (xb_f e149 c152)).symm) (rfl)
                · refine kr_iconst (v := 1) h dX1_fits_155 (by decide) ?_
                  refine kr_goto h 160 dX1_fits_156 (by decide) ?_
                  exact kr_zret h hr hlk dX1_fits_160 (rfl) (by rw [yFits, if_neg (fun z => by rcases z with z | z | z <;> first | exact xb_f e5 c8 z | exact xb_f e13 c16 z.1 | exact xb_f e21 c24 z.2 | exact xb_f e29 c32 z.1 | exact xb_f e37 c40 z.2), if_neg c48, if_neg c70, if_neg (fun z => by first | exact z.1 (xb_t e119 c122) | exact xb_f e131 c134 z.2), if_pos c141]; first | exact (if_pos (xb_t e149 c152)).symm | exact (if_neg (xb_f e149 c152)).symm) (rfl)
            · refine kr_aload_n h dX1_fits_125 rfl 0 rfl ?_
              refine kr_iload_n h dX1_fits_126 rfl 2 rfl ?_
              refine kr_iconst (v := 0) h dX1_fits_127 (by decide) ?_
              refine kr_sipush (v := 255) h dX1_fits_128 (by decide) ?_
              refine kr_iA h (kc_rV h (m_out l D cI cZ cJ q x a 0 255) mlX1_97 yvX1_out dX1_fits_131 rfl rfl ⟨Nat.le_of_ble_eq_true rfl, Nat.le_of_ble_eq_true rfl⟩ ⟨Nat.le_of_ble_eq_true rfl, Nat.le_of_ble_eq_true rfl⟩ (Nat.le_of_ble_eq_true rfl) [0, 1, 2, 3, 4, 5, 6, 7, 8, 9, 10, 11, 12, 13, 14, 15, 16, 17, 18, 19] rfl rfl 0 rfl rfl rfl) (fun v131 e131 => ?_)
              refine kr_if_eq h 139 dX1_fits_134 (by decide) (fun c134 => ?_) (fun c134 => ?_)
              · refine kr_iload_n h dX1_fits_139 rfl 1 rfl ?_
                refine kr_iconst (v := 3) h dX1_fits_140 (by decide) ?_
                refine kr_icmp_ne h 161 dX1_fits_141 (by decide) (fun c141 => ?_) (fun c141 => ?_)
                · refine kr_iload_n h dX1_fits_161 rfl 1 rfl ?_
                  refine kr_iconst (v := 5) h dX1_fits_162 (by decide) ?_
                  refine kr_icmp_ne h 177 dX1_fits_163 (by decide) (fun c163 => ?_) (fun c163 => ?_)
                  · refine kr_iconst (v := 1) h dX1_fits_177 (by decide) ?_
                    refine kr_goto h 182 dX1_fits_178 (by decide) ?_
                    exact kr_zret h hr hlk dX1_fits_182 (rfl) (by rw [yFits, if_neg (fun z => by rcases z with z | z | z <;> first | exact xb_f e5 c8 z | exact xb_f e13 c16 z.1 | exact xb_f e21 c24 z.2 | exact xb_f e29 c32 z.1 | exact xb_f e37 c40 z.2), if_neg c48, if_neg c70, if_neg (fun z => by first | exact z.1 (xb_t e119 c122) | exact xb_f e131 c134 z.2), if_neg c141]; first | exact (if_neg (fun z => c163 z.1)).symm | exact (if_pos ⟨c163, xb_t e171 c174⟩).symm | exact (if_neg (fun z => xb_f e171 c174 z.2)).symm) (rfl)
                  · refine kr_aload_n h dX1_fits_166 rfl 0 rfl ?_
                    refine kr_iload_n h dX1_fits_167 rfl 3 rfl ?_
                    refine kr_iconst (v := 0) h dX1_fits_168 (by decide) ?_
                    refine kr_bipush (v := 7) h dX1_fits_169 (by decide) ?_
                    refine kr_iA h (kc_rV h (m_out l D cI cZ cJ q x b 0 7) mlX1_97 yvX1_out dX1_fits_171 rfl rfl ⟨Nat.le_of_ble_eq_true rfl, Nat.le_of_ble_eq_true rfl⟩ ⟨Nat.le_of_ble_eq_true rfl, Nat.le_of_ble_eq_true rfl⟩ (Nat.le_of_ble_eq_true rfl) [0, 1, 2, 3, 4, 5, 6, 7, 8, 9, 10, 11, 12, 13, 14, 15, 16, 17, 18, 19] rfl rfl 0 rfl rfl rfl) (fun v171 e171 => ?_)
                    refine kr_if_ne h 181 dX1_fits_174 (by decide) (fun c174 => ?_) (fun c174 => ?_)
                    · refine kr_iconst (v := 0) h dX1_fits_181 (by decide) ?_
                      exact kr_zret h hr hlk dX1_fits_182 (rfl) (by rw [yFits, if_neg (fun z => by rcases z with z | z | z <;> first | exact xb_f e5 c8 z | exact xb_f e13 c16 z.1 | exact xb_f e21 c24 z.2 | exact xb_f e29 c32 z.1 | exact xb_f e37 c40 z.2), if_neg c48, if_neg c70, if_neg (fun z => by first | exact z.1 (xb_t e119 c122) | exact xb_f e131 c134 z.2), if_neg c141]; first | exact (if_neg (fun z => c163 z.1)).symm | exact (if_pos ⟨c163, xb_t e171 c174⟩).symm | exact (if_neg (fun z => xb_f e171 c174 z.2)).symm) (rfl)
                    · refine kr_iconst (v := 1) h dX1_fits_177 (by decide) ?_
                      refine kr_goto h 182 dX1_fits_178 (by decide) ?_
                      exact kr_zret h hr hlk dX1_fits_182 (rfl) (by rw [yFits, if_neg (fun z => by rcases z with z | z | z <;> first | exact xb_f e5 c8 z | exact xb_f e13 c16 z.1 | exact xb_f e21 c24 z.2 | exact xb_f e29 c32 z.1 | exact xb_f e37 c40 z.2), if_neg c48, if_neg c70, if_neg (fun z => by first | exact z.1 (xb_t e119 c122) | exact xb_f e131 c134 z.2), if_neg c141]; first | exact (if_neg (fun z => c163 z.1)).symm | exact (if_pos ⟨c163, xb_t e171 c174⟩).symm | exact (if_neg (fun z => xb_f e171 c174 z.2)).symm) (rfl)
                · refine kr_aload_n h dX1_fits_144 rfl 0 rfl ?_
                  refine kr_iload_n h dX1_fits_145 rfl 3 rfl ?_
                  refine kr_iconst (v := 0) h dX1_fits_146 (by decide) ?_
                  refine kr_bipush (v := 99) h dX1_fits_147 (by decide) ?_
                  refine kr_iA h (kc_rV h (m_out l D cI cZ cJ q x b 0 99) mlX1_97 yvX1_out dX1_fits_149 rfl rfl ⟨Nat.le_of_ble_eq_true rfl, Nat.le_of_ble_eq_true rfl⟩ ⟨Nat.le_of_ble_eq_true rfl, Nat.le_of_ble_eq_true rfl⟩ (Nat.le_of_ble_eq_true rfl) [0, 1, 2, 3, 4, 5, 6, 7, 8, 9, 10, 11, 12, 13, 14, 15, 16, 17, 18, 19] rfl rfl 0 rfl rfl rfl) (fun v149 e149 => ?_)
                  refine kr_if_ne h 159 dX1_fits_152 (by decide) (fun c152 => ?_) (fun c152 => ?_)
                  · refine kr_iconst (v := 0) h dX1_fits_159 (by decide) ?_
                    exact kr_zret h hr hlk dX1_fits_160 (rfl) (by rw [yFits, if_neg (fun z => by rcases z with z | z | z <;> first | exact xb_f e5 c8 z | exact xb_f e13 c16 z.1 | exact xb_f e21 c24 z.2 | exact xb_f e29 c32 z.1 | exact xb_f e37 c40 z.2), if_neg c48, if_neg c70, if_neg (fun z => by first | exact z.1 (xb_t e119 c122) | exact xb_f e131 c134 z.2), if_pos c141]; first | exact (if_pos (xb_t e149 c152)).symm | exact (if_neg (xb_f e149 c152)).symm) (rfl)
                  · refine kr_iconst (v := 1) h dX1_fits_155 (by decide) ?_
                    refine kr_goto h 160 dX1_fits_156 (by decide) ?_
                    exact kr_zret h hr hlk dX1_fits_160 (rfl) (by rw [yFits, if_neg (fun z => by rcases z with z | z | z <;> first | exact xb_f e5 c8 z | exact xb_f e13 c16 z.1 | exact xb_f e21 c24 z.2 | exact xb_f e29 c32 z.1 | exact xb_f e37 c40 z.2), if_neg c48, if_neg c70, if_neg (fun z => by first | exact z.1 (xb_t e119 c122) | exact xb_f e131 c134 z.2), if_pos c141]; first | exact (if_pos (xb_t e149 c152)).symm | exact (if_neg (xb_f e149 c152)).symm) (rfl)
              · refine kr_iconst (v := 0) h dX1_fits_137 (by decide) ?_
                exact kr_zret h hr hlk dX1_fits_138 (rfl) (by rw [yFits, if_neg (fun z => by rcases z with z | z | z <;> first | exact xb_f e5 c8 z | exact xb_f e13 c16 z.1 | exact xb_f e21 c24 z.2 | exact xb_f e29 c32 z.1 | exact xb_f e37 c40 z.2), if_neg c48, if_neg c70, if_pos ⟨xb_f e119 c122, xb_t e131 c134⟩]) (rfl)
          · refine kr_iload_n h dX1_fits_73 rfl 3 rfl ?_
            refine kr_iconst (v := 1) h dX1_fits_74 (by decide) ?_
            refine kr_icmp_eq h 88 dX1_fits_75 (by decide) (fun c75 => ?_) (fun c75 => ?_)
            · refine kr_iload h dX1_fits_88 4 rfl ?_
              refine kr_if_eq h 111 dX1_fits_90 (by decide) (fun c90 => ?_) (fun c90 => ?_)
              · refine kr_iconst (v := 1) h dX1_fits_111 (by decide) ?_
                refine kr_goto h 116 dX1_fits_112 (by decide) ?_
                exact kr_zret h hr hlk dX1_fits_116 (rfl) (by rw [yFits, if_neg (fun z => by rcases z with z | z | z <;> first | exact xb_f e5 c8 z | exact xb_f e13 c16 z.1 | exact xb_f e21 c24 z.2 | exact xb_f e29 c32 z.1 | exact xb_f e37 c40 z.2), if_neg c48, if_pos c70]; first | exact xb_1 ⟨by first | exact Or.inl c75 | exact Or.inr (Or.inl c80) | exact Or.inr (Or.inr c85), by first | exact Or.inl c90 | exact Or.inr (Or.inl c96) | exact Or.inr (Or.inr (Or.inl c102)) | exact Or.inr (Or.inr (Or.inr c108))⟩ | exact xb_0 (fun z => z.1.elim c75 (fun z => z.elim c80 c85)) | exact xb_0 (fun z => z.2.elim c90 (fun z => z.elim c96 (fun z => z.elim c102 c108)))) (rfl)
              · refine kr_iload h dX1_fits_93 4 rfl ?_
                refine kr_iconst (v := 1) h dX1_fits_95 (by decide) ?_
                refine kr_icmp_eq h 111 dX1_fits_96 (by decide) (fun c96 => ?_) (fun c96 => ?_)
                · refine kr_iconst (v := 1) h dX1_fits_111 (by decide) ?_
                  refine kr_goto h 116 dX1_fits_112 (by decide) ?_
                  exact kr_zret h hr hlk dX1_fits_116 (rfl) (by rw [yFits, if_neg (fun z => by rcases z with z | z | z <;> first | exact xb_f e5 c8 z | exact xb_f e13 c16 z.1 | exact xb_f e21 c24 z.2 | exact xb_f e29 c32 z.1 | exact xb_f e37 c40 z.2), if_neg c48, if_pos c70]; first | exact xb_1 ⟨by first | exact Or.inl c75 | exact Or.inr (Or.inl c80) | exact Or.inr (Or.inr c85), by first | exact Or.inl c90 | exact Or.inr (Or.inl c96) | exact Or.inr (Or.inr (Or.inl c102)) | exact Or.inr (Or.inr (Or.inr c108))⟩ | exact xb_0 (fun z => z.1.elim c75 (fun z => z.elim c80 c85)) | exact xb_0 (fun z => z.2.elim c90 (fun z => z.elim c96 (fun z => z.elim c102 c108)))) (rfl)
                · refine kr_iload h dX1_fits_99 4 rfl ?_
                  refine kr_iconst (v := 4) h dX1_fits_101 (by decide) ?_
                  refine kr_icmp_eq h 111 dX1_fits_102 (by decide) (fun c102 => ?_) (fun c102 => ?_)
                  · refine kr_iconst (v := 1) h dX1_fits_111 (by decide) ?_
                    refine kr_goto h 116 dX1_fits_112 (by decide) ?_
                    exact kr_zret h hr hlk dX1_fits_116 (rfl) (by rw [yFits, if_neg (fun z => by rcases z with z | z | z <;> first | exact xb_f e5 c8 z | exact xb_f e13 c16 z.1 | exact xb_f e21 c24 z.2 | exact xb_f e29 c32 z.1 | exact xb_f e37 c40 z.2), if_neg c48, if_pos c70]; first | exact xb_1 ⟨by first | exact Or.inl c75 | exact Or.inr (Or.inl c80) | exact Or.inr (Or.inr c85), by first | exact Or.inl c90 | exact Or.inr (Or.inl c96) | exact Or.inr (Or.inr (Or.inl c102)) | exact Or.inr (Or.inr (Or.inr c108))⟩ | exact xb_0 (fun z => z.1.elim c75 (fun z => z.elim c80 c85)) | exact xb_0 (fun z => z.2.elim c90 (fun z => z.elim c96 (fun z => z.elim c102 c108)))) (rfl)
                  · refine kr_iload h dX1_fits_105 4 rfl ?_
                    refine kr_iconst (v := 5) h dX1_fits_107 (by decide) ?_
                    refine kr_icmp_ne h 115 dX1_fits_108 (by decide) (fun c108 => ?_) (fun c108 => ?_)
                    · refine kr_iconst (v := 0) h dX1_fits_115 (by decide) ?_
                      exact kr_zret h hr hlk dX1_fits_116 (rfl) (by rw [yFits, if_neg (fun z => by rcases z with z | z | z <;> first | exact xb_f e5 c8 z | exact xb_f e13 c16 z.1 | exact xb_f e21 c24 z.2 | exact xb_f e29 c32 z.1 | exact xb_f e37 c40 z.2), if_neg c48, if_pos c70]; first | exact xb_1 ⟨by first | exact Or.inl c75 | exact Or.inr (Or.inl c80) | exact Or.inr (Or.inr c85), by first | exact Or.inl c90 | exact Or.inr (Or.inl c96) | exact Or.inr (Or.inr (Or.inl c102)) | exact Or.inr (Or.inr (Or.inr c108))⟩ | exact xb_0 (fun z => z.1.elim c75 (fun z => z.elim c80 c85)) | exact xb_0 (fun z => z.2.elim c90 (fun z => z.elim c96 (fun z => z.elim c102 c108)))) (rfl)
                    · refine kr_iconst (v := 1) h dX1_fits_111 (by decide) ?_
                      refine kr_goto h 116 dX1_fits_112 (by decide) ?_
                      exact kr_zret h hr hlk dX1_fits_116 (rfl) (by rw [yFits, if_neg (fun z => by rcases z with z | z | z <;> first | exact xb_f e5 c8 z | exact xb_f e13 c16 z.1 | exact xb_f e21 c24 z.2 | exact xb_f e29 c32 z.1 | exact xb_f e37 c40 z.2), if_neg c48, if_pos c70]; first | exact xb_1 ⟨by first | exact Or.inl c75 | exact Or.inr (Or.inl c80) | exact Or.inr (Or.inr c85), by first | exact Or.inl c90 | exact Or.inr (Or.inl c96) | exact Or.inr (Or.inr (Or.inl c102)) | exact Or.inr (Or.inr (Or.inr c108))⟩ | exact xb_0 (fun z => z.1.elim c75 (fun z => z.elim c80 c85)) | exact xb_0 (fun z => z.2.elim c90 (fun z => z.elim c96 (fun z => z.elim c102 c108)))) (rfl)
            · refine kr_iload_n h dX1_fits_78 rfl 3 rfl ?_
              refine kr_iconst (v := 4) h dX1_fits_79 (by decide) ?_
              refine kr_icmp_eq h 88 dX1_fits_80 (by decide) (fun c80 => ?_) (fun c80 => ?_)
              · refine kr_iload h dX1_fits_88 4 rfl ?_
                refine kr_if_eq h 111 dX1_fits_90 (by decide) (fun c90 => ?_) (fun c90 => ?_)
                · refine kr_iconst (v := 1) h dX1_fits_111 (by decide) ?_
                  refine kr_goto h 116 dX1_fits_112 (by decide) ?_
                  exact kr_zret h hr hlk dX1_fits_116 (rfl) (by rw [yFits, if_neg (fun z => by rcases z with z | z | z <;> first | exact xb_f e5 c8 z | exact xb_f e13 c16 z.1 | exact xb_f e21 c24 z.2 | exact xb_f e29 c32 z.1 | exact xb_f e37 c40 z.2), if_neg c48, if_pos c70]; first | exact xb_1 ⟨by first | exact Or.inl c75 | exact Or.inr (Or.inl c80) | exact Or.inr (Or.inr c85), by first | exact Or.inl c90 | exact Or.inr (Or.inl c96) | exact Or.inr (Or.inr (Or.inl c102)) | exact Or.inr (Or.inr (Or.inr c108))⟩ | exact xb_0 (fun z => z.1.elim c75 (fun z => z.elim c80 c85)) | exact xb_0 (fun z => z.2.elim c90 (fun z => z.elim c96 (fun z => z.elim c102 c108)))) (rfl)
                · refine kr_iload h dX1_fits_93 4 rfl ?_
                  refine kr_iconst (v := 1) h dX1_fits_95 (by decide) ?_
                  refine kr_icmp_eq h 111 dX1_fits_96 (by decide) (fun c96 => ?_) (fun c96 => ?_)
                  · refine kr_iconst (v := 1) h dX1_fits_111 (by decide) ?_
                    refine kr_goto h 116 dX1_fits_112 (by decide) ?_
                    exact kr_zret h hr hlk dX1_fits_116 (rfl) (by rw [yFits, if_neg (fun z => by rcases z with z | z | z <;> first | exact xb_f e5 c8 z | exact xb_f e13 c16 z.1 | exact xb_f e21 c24 z.2 | exact xb_f e29 c32 z.1 | exact xb_f e37 c40 z.2), if_neg c48, if_pos c70]; first | exact xb_1 ⟨by first | exact Or.inl c75 | exact Or.inr (Or.inl c80) | exact Or.inr (Or.inr c85), by first | exact Or.inl c90 | exact Or.inr (Or.inl c96) | exact Or.inr (Or.inr (Or.inl c102)) | exact Or.inr (Or.inr (Or.inr c108))⟩ | exact xb_0 (fun z => z.1.elim c75 (fun z => z.elim c80 c85)) | exact xb_0 (fun z => z.2.elim c90 (fun z => z.elim c96 (fun z => z.elim c102 c108)))) (rfl)
                  · refine kr_iload h dX1_fits_99 4 rfl ?_
                    refine kr_iconst (v := 4) h dX1_fits_101 (by decide) ?_
                    refine kr_icmp_eq h 111 dX1_fits_102 (by decide) (fun c102 => ?_) (fun c102 => ?_)
                    · refine kr_iconst (v := 1) h dX1_fits_111 (by decide) ?_
                      refine kr_goto h 116 dX1_fits_112 (by decide) ?_
                      exact kr_zret h hr hlk dX1_fits_116 (rfl) (by rw [yFits, if_neg (fun z => by rcases z with z | z | z <;> first | exact xb_f e5 c8 z | exact xb_f e13 c16 z.1 | exact xb_f e21 c24 z.2 | exact xb_f e29 c32 z.1 | exact xb_f e37 c40 z.2), if_neg c48, if_pos c70]; first | exact xb_1 ⟨by first | exact Or.inl c75 | exact Or.inr (Or.inl c80) | exact Or.inr (Or.inr c85), by first | exact Or.inl c90 | exact Or.inr (Or.inl c96) | exact Or.inr (Or.inr (Or.inl c102)) | exact Or.inr (Or.inr (Or.inr c108))⟩ | exact xb_0 (fun z => z.1.elim c75 (fun z => z.elim c80 c85)) | exact xb_0 (fun z => z.2.elim c90 (fun z => z.elim c96 (fun z => z.elim c102 c108)))) (rfl)
                    · refine kr_iload h dX1_fits_105 4 rfl ?_
                      refine kr_iconst (v := 5) h dX1_fits_107 (by decide) ?_
                      refine kr_icmp_ne h 115 dX1_fits_108 (by decide) (fun c108 => ?_) (fun c108 => ?_)
                      · refine kr_iconst (v := 0) h dX1_fits_115 (by decide) ?_
                        exact kr_zret h hr hlk dX1_fits_116 (rfl) (by rw [yFits, if_neg (fun z => by rcases z with z | z | z <;> first | exact xb_f e5 c8 z | exact xb_f e13 c16 z.1 | exact xb_f e21 c24 z.2 | exact xb_f e29 c32 z.1 | exact xb_f e37 c40 z.2), if_neg c48, if_pos c70]; first | exact xb_1 ⟨by first | exact Or.inl c75 | exact Or.inr (Or.inl c80) | exact Or.inr (Or.inr c85), by first | exact Or.inl c90 | exact Or.inr (Or.inl c96) | exact Or.inr (Or.inr (Or.inl c102)) | exact Or.inr (Or.inr (Or.inr c108))⟩ | exact xb_0 (fun z => z.1.elim c75 (fun z => z.elim c80 c85)) | exact xb_0 (fun z => z.2.elim c90 (fun z => z.elim c96 (fun z => z.elim c102 c108)))) (rfl)
                      · refine kr_iconst (v := 1) h dX1_fits_111 (by decide) ?_
                        refine kr_goto h 116 dX1_fits_112 (by decide) ?_
                        exact kr_zret h hr hlk dX1_fits_116 (rfl) (by rw [yFits, if_neg (fun z => by rcases z with z | z | z <;> first | exact xb_f e5 c8 z | exact xb_f e13 c16 z.1 | exact xb_f e21 c24 z.2 | exact xb_f e29 c32 z.1 | exact xb_f e37 c40 z.2), if_neg c48, if_pos c70]; first | exact xb_1 ⟨by first | exact Or.inl c75 | exact Or.inr (Or.inl c80) | exact Or.inr (Or.inr c85), by first | exact Or.inl c90 | exact Or.inr (Or.inl c96) | exact Or.inr (Or.inr (Or.inl c102)) | exact Or.inr (Or.inr (Or.inr c108))⟩ | exact xb_0 (fun z => z.1.elim c75 (fun z => z.elim c80 c85)) | exact xb_0 (fun z => z.2.elim c90 (fun z => z.elim c96 (fun z => z.elim c102 c108)))) (rfl)
              · refine kr_iload_n h dX1_fits_83 rfl 3 rfl ?_
                refine kr_iconst (v := 5) h dX1_fits_84 (by decide) ?_
                refine kr_icmp_ne h 115 dX1_fits_85 (by decide) (fun c85 => ?_) (fun c85 => ?_)
                · refine kr_iconst (v := 0) h dX1_fits_115 (by decide) ?_
                  exact kr_zret h hr hlk dX1_fits_116 (rfl) (by rw [yFits, if_neg (fun z => by rcases z with z | z | z <;> first | exact xb_f e5 c8 z | exact xb_f e13 c16 z.1 | exact xb_f e21 c24 z.2 | exact xb_f e29 c32 z.1 | exact xb_f e37 c40 z.2), if_neg c48, if_pos c70]; first | exact xb_1 ⟨by first | exact Or.inl c75 | exact Or.inr (Or.inl c80) | exact Or.inr (Or.inr c85), by first | exact Or.inl c90 | exact Or.inr (Or.inl c96) | exact Or.inr (Or.inr (Or.inl c102)) | exact Or.inr (Or.inr (Or.inr c108))⟩ | exact xb_0 (fun z => z.1.elim c75 (fun z => z.elim c80 c85)) | exact xb_0 (fun z => z.2.elim c90 (fun z => z.elim c96 (fun z => z.elim c102 c108)))) (rfl)
                · refine kr_iload h dX1_fits_88 4 rfl ?_
                  refine kr_if_eq h 111 dX1_fits_90 (by decide) (fun c90 => ?_) (fun c90 => ?_)
                  · refine kr_iconst (v := 1) h dX1_fits_111 (by decide) ?_
                    refine kr_goto h 116 dX1_fits_112 (by decide) ?_
                    exact kr_zret h hr hlk dX1_fits_116 (rfl) (by rw [yFits, if_neg (fun z => by rcases z with z | z | z <;> first | exact xb_f e5 c8 z | exact xb_f e13 c16 z.1 | exact xb_f e21 c24 z.2 | exact xb_f e29 c32 z.1 | exact xb_f e37 c40 z.2), if_neg c48, if_pos c70]; first | exact xb_1 ⟨by first | exact Or.inl c75 | exact Or.inr (Or.inl c80) | exact Or.inr (Or.inr c85), by first | exact Or.inl c90 | exact Or.inr (Or.inl c96) | exact Or.inr (Or.inr (Or.inl c102)) | exact Or.inr (Or.inr (Or.inr c108))⟩ | exact xb_0 (fun z => z.1.elim c75 (fun z => z.elim c80 c85)) | exact xb_0 (fun z => z.2.elim c90 (fun z => z.elim c96 (fun z => z.elim c102 c108)))) (rfl)
                  · refine kr_iload h dX1_fits_93 4 rfl ?_
                    refine kr_iconst (v := 1) h dX1_fits_95 (by decide) ?_
                    refine kr_icmp_eq h 111 dX1_fits_96 (by decide) (fun c96 => ?_) (fun c96 => ?_)
                    · refine kr_iconst (v := 1) h dX1_fits_111 (by decide) ?_
                      refine kr_goto h 116 dX1_fits_112 (by decide) ?_
                      exact kr_zret h hr hlk dX1_fits_116 (rfl) (by rw [yFits, if_neg (fun z => by rcases z with z | z | z <;> first | exact xb_f e5 c8 z | exact xb_f e13 c16 z.1 | exact xb_f e21 c24 z.2 | exact xb_f e29 c32 z.1 | exact xb_f e37 c40 z.2), if_neg c48, if_pos c70]; first | exact xb_1 ⟨by first | exact Or.inl c75 | exact Or.inr (Or.inl c80) | exact Or.inr (Or.inr c85), by first | exact Or.inl c90 | exact Or.inr (Or.inl c96) | exact Or.inr (Or.inr (Or.inl c102)) | exact Or.inr (Or.inr (Or.inr c108))⟩ | exact xb_0 (fun z => z.1.elim c75 (fun z => z.elim c80 c85)) | exact xb_0 (fun z => z.2.elim c90 (fun z => z.elim c96 (fun z => z.elim c102 c108)))) (rfl)
                    · refine kr_iload h dX1_fits_99 4 rfl ?_
                      refine kr_iconst (v := 4) h dX1_fits_101 (by decide) ?_
                      refine kr_icmp_eq h 111 dX1_fits_102 (by decide) (fun c102 => ?_) (fun c102 => ?_)
                      · refine kr_iconst (v := 1) h dX1_fits_111 (by decide) ?_
                        refine kr_goto h 116 dX1_fits_112 (by decide) ?_
                        exact kr_zret h hr hlk dX1_fits_116 (rfl) (by rw [yFits, if_neg (fun z => by rcases z with z | z | z <;> first | exact xb_f e5 c8 z | exact xb_f e13 c16 z.1 | exact xb_f e21 c24 z.2 | exact xb_f e29 c32 z.1 | exact xb_f e37 c40 z.2), if_neg c48, if_pos c70]; first | exact xb_1 ⟨by first | exact Or.inl c75 | exact Or.inr (Or.inl c80) | exact Or.inr (Or.inr c85), by first | exact Or.inl c90 | exact Or.inr (Or.inl c96) | exact Or.inr (Or.inr (Or.inl c102)) | exact Or.inr (Or.inr (Or.inr c108))⟩ | exact xb_0 (fun z => z.1.elim c75 (fun z => z.elim c80 c85)) | exact xb_0 (fun z => z.2.elim c90 (fun z => z.elim c96 (fun z => z.elim c102 c108)))) (rfl)
                      · refine kr_iload h dX1_fits_105 4 rfl ?_
                        refine kr_iconst (v := 5) h dX1_fits_107 (by decide) ?_
                        refine kr_icmp_ne h 115 dX1_fits_108 (by decide) (fun c108 => ?_) (fun c108 => ?_)
                        · refine kr_iconst (v := 0) h dX1_fits_115 (by decide) ?_
                          exact kr_zret h hr hlk dX1_fits_116 (rfl) (by rw [yFits, if_neg (fun z => by rcases z with z | z | z <;> first | exact xb_f e5 c8 z | exact xb_f e13 c16 z.1 | exact xb_f e21 c24 z.2 | exact xb_f e29 c32 z.1 | exact xb_f e37 c40 z.2), if_neg c48, if_pos c70]; first | exact xb_1 ⟨by first | exact Or.inl c75 | exact Or.inr (Or.inl c80) | exact Or.inr (Or.inr c85), by first | exact Or.inl c90 | exact Or.inr (Or.inl c96) | exact Or.inr (Or.inr (Or.inl c102)) | exact Or.inr (Or.inr (Or.inr c108))⟩ | exact xb_0 (fun z => z.1.elim c75 (fun z => z.elim c80 c85)) | exact xb_0 (fun z => z.2.elim c90 (fun z => z.elim c96 (fun z => z.elim c102 c108)))) (rfl)
                        · refine kr_iconst (v := 1) h dX1_fits_111 (by decide) ?_
                          refine kr_goto h 116 dX1_fits_112 (by decide) ?_
                          exact kr_zret h hr hlk dX1_fits_116 (rfl) (by rw [yFits, if_neg (fun z => by rcases z with z | z | z <;> first | exact xb_f e5 c8 z | exact xb_f e13 c16 z.1 | exact xb_f e21 c24 z.2 | exact xb_f e29 c32 z.1 | exact xb_f e37 c40 z.2), if_neg c48, if_pos c70]; first | exact xb_1 ⟨by first | exact Or.inl c75 | exact Or.inr (Or.inl c80) | exact Or.inr (Or.inr c85), by first | exact Or.inl c90 | exact Or.inr (Or.inl c96) | exact Or.inr (Or.inr (Or.inl c102)) | exact Or.inr (Or.inr (Or.inr c108))⟩ | exact xb_0 (fun z => z.1.elim c75 (fun z => z.elim c80 c85)) | exact xb_0 (fun z => z.2.elim c90 (fun z => z.elim c96 (fun z => z.elim c102 c108)))) (rfl)
        · refine kr_aload_n h dX1_fits_51 rfl 0 rfl ?_
          refine kr_iload_n h dX1_fits_52 rfl 2 rfl ?_
          refine kr_iconst (v := 0) h dX1_fits_53 (by decide) ?_
          refine kr_iconst (v := 2) h dX1_fits_54 (by decide) ?_
          refine kr_iA h (kc_rV h (m_out l D cI cZ cJ q x a 0 2) mlX1_97 yvX1_out dX1_fits_55 rfl rfl ⟨Nat.le_of_ble_eq_true rfl, Nat.le_of_ble_eq_true rfl⟩ ⟨Nat.le_of_ble_eq_true rfl, Nat.le_of_ble_eq_true rfl⟩ (Nat.le_of_ble_eq_true rfl) [0, 1, 2, 3, 4, 5, 6, 7, 8, 9, 10, 11, 12, 13, 14, 15, 16, 17, 18, 19] rfl rfl 0 rfl rfl rfl) (fun v55 e55 => ?_)
          refine kr_if_ne h 65 dX1_fits_58 (by decide) (fun c58 => ?_) (fun c58 => ?_)
          · refine kr_iconst (v := 0) h dX1_fits_65 (by decide) ?_
            exact kr_zret h hr hlk dX1_fits_66 (rfl) (by rw [yFits, if_neg (fun z => by rcases z with z | z | z <;> first | exact xb_f e5 c8 z | exact xb_f e13 c16 z.1 | exact xb_f e21 c24 z.2 | exact xb_f e29 c32 z.1 | exact xb_f e37 c40 z.2), if_pos c48]; first | exact (if_pos (xb_t e55 c58)).symm | exact (if_neg (xb_f e55 c58)).symm) (rfl)
          · refine kr_iconst (v := 1) h dX1_fits_61 (by decide) ?_
            refine kr_goto h 66 dX1_fits_62 (by decide) ?_
            exact kr_zret h hr hlk dX1_fits_66 (rfl) (by rw [yFits, if_neg (fun z => by rcases z with z | z | z <;> first | exact xb_f e5 c8 z | exact xb_f e13 c16 z.1 | exact xb_f e21 c24 z.2 | exact xb_f e29 c32 z.1 | exact xb_f e37 c40 z.2), if_pos c48]; first | exact (if_pos (xb_t e55 c58)).symm | exact (if_neg (xb_f e55 c58)).symm) (rfl)
      · refine kr_aload_n h dX1_fits_35 rfl 0 rfl ?_
        refine kr_iload_n h dX1_fits_36 rfl 3 rfl ?_
        refine kr_iA h (kc_rV h (m_no l D cI cZ cJ q x b) mlX1_112 yvX1_no dX1_fits_37 rfl rfl ⟨Nat.le_of_ble_eq_true rfl, Nat.le_of_ble_eq_true rfl⟩ ⟨Nat.le_of_ble_eq_true rfl, Nat.le_of_ble_eq_true rfl⟩ (Nat.le_of_ble_eq_true rfl) [0, 1, 2, 3, 4, 5, 6, 7, 8, 9, 10, 11, 12, 13, 14, 15, 16, 17, 18, 19] rfl rfl 0 rfl rfl rfl) (fun v37 e37 => ?_)
        refine kr_if_eq h 45 dX1_fits_40 (by decide) (fun c40 => ?_) (fun c40 => ?_)
        · refine kr_iload_n h dX1_fits_45 rfl 1 rfl ?_
          refine kr_bipush (v := 6) h dX1_fits_46 (by decide) ?_
          refine kr_icmp_ne h 67 dX1_fits_48 (by decide) (fun c48 => ?_) (fun c48 => ?_)
          · refine kr_iload_n h dX1_fits_67 rfl 1 rfl ?_
            refine kr_bipush (v := 14) h dX1_fits_68 (by decide) ?_
            refine kr_icmp_ne h 117 dX1_fits_70 (by decide) (fun c70 => ?_) (fun c70 => ?_)
            · refine kr_aload_n h dX1_fits_117 rfl 0 rfl ?_
              refine kr_iload_n h dX1_fits_118 rfl 1 rfl ?_
              refine kr_iA h (kc_rV h (m_namesA l D cI cZ cJ q x k) mlX1_108 yvX1_namesA dX1_fits_119 rfl rfl ⟨Nat.le_of_ble_eq_true rfl, Nat.le_of_ble_eq_true rfl⟩ ⟨Nat.le_of_ble_eq_true rfl, Nat.le_of_ble_eq_true rfl⟩ (Nat.le_of_ble_eq_true rfl) [0, 1, 2, 3, 4, 5, 6, 7, 8, 9, 10, 11, 12, 13, 14, 15, 16, 17, 18, 19] rfl rfl 0 rfl rfl rfl) (fun v119 e119 => ?_)
              refine kr_if_ne h 139 dX1_fits_122 (by decide) (fun c122 => ?_) (fun c122 => ?_)
              · refine kr_iload_n h dX1_fits_139 rfl 1 rfl ?_
                refine kr_iconst (v := 3) h dX1_fits_140 (by decide) ?_
                refine kr_icmp_ne h 161 dX1_fits_141 (by decide) (fun c141 => ?_) (fun c141 => ?_)
                · refine kr_iload_n h dX1_fits_161 rfl 1 rfl ?_
                  refine kr_iconst (v := 5) h dX1_fits_162 (by decide) ?_
                  refine kr_icmp_ne h 177 dX1_fits_163 (by decide) (fun c163 => ?_) (fun c163 => ?_)
                  · refine kr_iconst (v := 1) h dX1_fits_177 (by decide) ?_
                    refine kr_goto h 182 dX1_fits_178 (by decide) ?_
                    exact kr_zret h hr hlk dX1_fits_182 (rfl) (by rw [yFits, if_neg (fun z => by rcases z with z | z | z <;> first | exact xb_f e5 c8 z | exact xb_f e13 c16 z.1 | exact xb_f e21 c24 z.2 | exact xb_f e29 c32 z.1 | exact xb_f e37 c40 z.2), if_neg c48, if_neg c70, if_neg (fun z => by first | exact z.1 (xb_t e119 c122) | exact xb_f e131 c134 z.2), if_neg c141]; first | exact (if_neg (fun z => c163 z.1)).symm | exact (if_pos ⟨c163, xb_t e171 c174⟩).symm | exact (if_neg (fun z => xb_f e171 c174 z.2)).symm) (rfl)
                  · refine kr_aload_n h dX1_fits_166 rfl 0 rfl ?_
                    refine kr_iload_n h dX1_fits_167 rfl 3 rfl ?_
                    refine kr_iconst (v := 0) h dX1_fits_168 (by decide) ?_
                    refine kr_bipush (v := 7) h dX1_fits_169 (by decide) ?_
                    refine kr_iA h (kc_rV h (m_out l D cI cZ cJ q x b 0 7) mlX1_97 yvX1_out dX1_fits_171 rfl rfl ⟨Nat.le_of_ble_eq_true rfl, Nat.le_of_ble_eq_true rfl⟩ ⟨Nat.le_of_ble_eq_true rfl, Nat.le_of_ble_eq_true rfl⟩ (Nat.le_of_ble_eq_true rfl) [0, 1, 2, 3, 4, 5, 6, 7, 8, 9, 10, 11, 12, 13, 14, 15, 16, 17, 18, 19] rfl rfl 0 rfl rfl rfl) (fun v171 e171 => ?_)
                    refine kr_if_ne h 181 dX1_fits_174 (by decide) (fun c174 => ?_) (fun c174 => ?_)
                    · refine kr_iconst (v := 0) h dX1_fits_181 (by decide) ?_
                      exact kr_zret h hr hlk dX1_fits_182 (rfl) (by rw [yFits, if_neg (fun z => by rcases z with z | z | z <;> first | exact xb_f e5 c8 z | exact xb_f e13 c16 z.1 | exact xb_f e21 c24 z.2 | exact xb_f e29 c32 z.1 | exact xb_f e37 c40 z.2), if_neg c48, if_neg c70, if_neg (fun z => by first | exact z.1 (xb_t e119 c122) | exact xb_f e131 c134 z.2), if_neg c141]; first | exact (if_neg (fun z => c163 z.1)).symm | exact (if_pos ⟨c163, xb_t e171 c174⟩).symm | exact (if_neg (fun z => xb_f e171 c174 z.2)).symm) (rfl)
                    · refine kr_iconst (v := 1) h dX1_fits_177 (by decide) ?_
                      refine kr_goto h 182 dX1_fits_178 (by decide) ?_
                      exact kr_zret h hr hlk dX1_fits_182 (rfl) (by rw [yFits, if_neg (fun z => by rcases z with z | z | z <;> first | exact xb_f e5 c8 z | exact xb_f e13 c16 z.1 | exact xb_f e21 c24 z.2 | exact xb_f e29 c32 z.1 | exact xb_f e37 c40 z.2), if_neg c48, if_neg c70, if_neg (fun z => by first | exact z.1 (xb_t e119 c122) | exact xb_f e131 c134 z.2), if_neg c141]; first | exact (if_neg (fun z => c163 z.1)).symm | exact (if_pos ⟨c163, xb_t e171 c174⟩).symm | exact (if_neg (fun z => xb_f e171 c174 z.2)).symm) (rfl)
                · refine kr_aload_n h dX1_fits_144 rfl 0 rfl ?_
                  refine kr_iload_n h dX1_fits_145 rfl 3 rfl ?_
                  refine kr_iconst (v := 0) h dX1_fits_146 (by decide) ?_
                  refine kr_bipush (v := 99) h dX1_fits_147 (by decide) ?_
                  refine kr_iA h (kc_rV h (m_out l D cI cZ cJ q x b 0 99) mlX1_97 yvX1_out dX1_fits_149 rfl rfl ⟨Nat.le_of_ble_eq_true rfl, Nat.le_of_ble_eq_true rfl⟩ ⟨Nat.le_of_ble_eq_true rfl, Nat.le_of_ble_eq_true rfl⟩ (Nat.le_of_ble_eq_true rfl) [0, 1, 2, 3, 4, 5, 6, 7, 8, 9, 10, 11, 12, 13, 14, 15, 16, 17, 18, 19] rfl rfl 0 rfl rfl rfl) (fun v149 e149 => ?_)
                  refine kr_if_ne h 159 dX1_fits_152 (by decide) (fun c152 => ?_) (fun c152 => ?_)
                  · refine kr_iconst (v := 0) h dX1_fits_159 (by decide) ?_
                    exact kr_zret h hr hlk dX1_fits_160 (rfl) (by rw [yFits, if_neg (fun z => by rcases z with z | z | z <;> first | exact xb_f e5 c8 z | exact xb_f e13 c16 z.1 | exact xb_f e21 c24 z.2 | exact xb_f e29 c32 z.1 | exact xb_f e37 c40 z.2), if_neg c48, if_neg c70, if_neg (fun z => by first | exact z.1 (xb_t e119 c122) | exact xb_f e131 c134 z.2), if_pos c141]; first | exact (if_pos (xb_t e149 c152)).symm | exact (if_neg (xb_f e149 c152)).symm) (rfl)
                  · refine kr_iconst (v := 1) h dX1_fits_155 (by decide) ?_
                    refine kr_goto h 160 dX1_fits_156 (by decide) ?_
                    exact kr_zret h hr hlk dX1_fits_160 (rfl) (by rw [yFits, if_neg (fun z => by rcases z with z | z | z <;> first | exact xb_f e5 c8 z | exact xb_f e13 c16 z.1 | exact xb_f e21 c24 z.2 | exact xb_f e29 c32 z.1 | exact xb_f e37 c40 z.2), if_neg c48, if_neg c70, if_neg (fun z => by first | exact z.1 (xb_t e119 c122) | exact xb_f e131 c134 z.2), if_pos c141]; first | exact (if_pos (xb_t e149 c152)).symm | exact (if_neg (xb_f e149 c152)).symm) (rfl)
              · refine kr_aload_n h dX1_fits_125 rfl 0 rfl ?_
                refine kr_iload_n h dX1_fits_126 rfl 2 rfl ?_
                refine kr_iconst (v := 0) h dX1_fits_127 (by decide) ?_
                refine kr_sipush (v := 255) h dX1_fits_128 (by decide) ?_
                refine kr_iA h (kc_rV h (m_out l D cI cZ cJ q x a 0 255) mlX1_97 yvX1_out dX1_fits_131 rfl rfl ⟨Nat.le_of_ble_eq_true rfl, Nat.le_of_ble_eq_true rfl⟩ ⟨Nat.le_of_ble_eq_true rfl, Nat.le_of_ble_eq_true rfl⟩ (Nat.le_of_ble_eq_true rfl) [0, 1, 2, 3, 4, 5, 6, 7, 8, 9, 10, 11, 12, 13, 14, 15, 16, 17, 18, 19] rfl rfl 0 rfl rfl rfl) (fun v131 e131 => ?_)
                refine kr_if_eq h 139 dX1_fits_134 (by decide) (fun c134 => ?_) (fun c134 => ?_)
                · refine kr_iload_n h dX1_fits_139 rfl 1 rfl ?_
                  refine kr_iconst (v := 3) h dX1_fits_140 (by decide) ?_
                  refine kr_icmp_ne h 161 dX1_fits_141 (by decide) (fun c141 => ?_) (fun c141 => ?_)
                  · refine kr_iload_n h dX1_fits_161 rfl 1 rfl ?_
                    refine kr_iconst (v := 5) h dX1_fits_162 (by decide) ?_
                    refine kr_icmp_ne h 177 dX1_fits_163 (by decide) (fun c163 => ?_) (fun c163 => ?_)
                    · refine kr_iconst (v := 1) h dX1_fits_177 (by decide) ?_
                      refine kr_goto h 182 dX1_fits_178 (by decide) ?_
                      exact kr_zret h hr hlk dX1_fits_182 (rfl) (by rw [yFits, if_neg (fun z => by rcases z with z | z | z <;> first | exact xb_f e5 c8 z | exact xb_f e13 c16 z.1 | exact xb_f e21 c24 z.2 | exact xb_f e29 c32 z.1 | exact xb_f e37 c40 z.2), if_neg c48, if_neg c70, if_neg (fun z => by first | exact z.1 (xb_t e119 c122) | exact xb_f e131 c134 z.2), if_neg c141]; first | exact (if_neg (fun z => c163 z.1)).symm | exact (if_pos ⟨c163, xb_t e171 c174⟩).symm | exact (if_neg (fun z => xb_f e171 c174 z.2)).symm) (rfl)
                    · refine kr_aload_n h dX1_fits_166 rfl 0 rfl ?_
                      refine kr_iload_n h dX1_fits_167 rfl 3 rfl ?_
                      refine kr_iconst (v := 0) h dX1_fits_168 (by decide) ?_
                      refine kr_bipush (v := 7) h dX1_fits_169 (by decide) ?_
                      refine kr_iA h (kc_rV h (m_out l D cI cZ cJ q x b 0 7) mlX1_97 yvX1_out dX1_fits_171 rfl rfl ⟨Nat.le_of_ble_eq_true rfl, Nat.le_of_ble_eq_true rfl⟩ ⟨Nat.le_of_ble_eq_true rfl, Nat.le_of_ble_eq_true rfl⟩ (Nat.le_of_ble_eq_true rfl) [0, 1, 2, 3, 4, 5, 6, 7, 8, 9, 10, 11, 12, 13, 14, 15, 16, 17, 18, 19] rfl rfl 0 rfl rfl rfl) (fun v171 e171 => ?_)
                      refine kr_if_ne h 181 dX1_fits_174 (by decide) (fun c174 => ?_) (fun c174 => ?_)
                      · refine kr_iconst (v := 0) h dX1_fits_181 (by decide) ?_
                        exact kr_zret h hr hlk dX1_fits_182 (rfl) (by rw [yFits, if_neg (fun z => by rcases z with z | z | z <;> first | exact xb_f e5 c8 z | exact xb_f e13 c16 z.1 | exact xb_f e21 c24 z.2 | exact xb_f e29 c32 z.1 | exact xb_f e37 c40 z.2), if_neg c48, if_neg c70, if_neg (fun z => by first | exact z.1 (xb_t e119 c122) | exact xb_f e131 c134 z.2), if_neg c141]; first | exact (if_neg (fun z => c163 z.1)).symm | exact (if_pos ⟨c163, xb_t e171 c174⟩).symm | exact (if_neg (fun z => xb_f e171 c174 z.2)).symm) (rfl)
                      · refine kr_iconst (v := 1) h dX1_fits_177 (by decide) ?_
                        refine kr_goto h 182 dX1_fits_178 (by decide) ?_
                        exact kr_zret h hr hlk dX1_fits_182 (rfl) (by rw [yFits, if_neg (fun z => by rcases z with z | z | z <;> first | exact xb_f e5 c8 z | exact xb_f e13 c16 z.1 | exact xb_f e21 c24 z.2 | exact xb_f e29 c32 z.1 | exact xb_f e37 c40 z.2), if_neg c48, if_neg c70, if_neg (fun z => by first | exact z.1 (xb_t e119 c122) | exact xb_f e131 c134 z.2), if_neg c141]; first | exact (if_neg (fun z => c163 z.1)).symm | exact (if_pos ⟨c163, xb_t e171 c174⟩).symm | exact (if_neg (fun z => xb_f e171 c174 z.2)).symm) (rfl)
                  · refine kr_aload_n h dX1_fits_144 rfl 0 rfl ?_
                    refine kr_iload_n h dX1_fits_145 rfl 3 rfl ?_
                    refine kr_iconst (v := 0) h dX1_fits_146 (by decide) ?_
                    refine kr_bipush (v := 99) h dX1_fits_147 (by decide) ?_
                    refine kr_iA h (kc_rV h (m_out l D cI cZ cJ q x b 0 99) mlX1_97 yvX1_out dX1_fits_149 rfl rfl ⟨Nat.le_of_ble_eq_true rfl, Nat.le_of_ble_eq_true rfl⟩ ⟨Nat.le_of_ble_eq_true rfl, Nat.le_of_ble_eq_true rfl⟩ (Nat.le_of_ble_eq_true rfl) [0, 1, 2, 3, 4, 5, 6, 7, 8, 9, 10, 11, 12, 13, 14, 15, 16, 17, 18, 19] rfl rfl 0 rfl rfl rfl) (fun v149 e149 => ?_)
                    refine kr_if_ne h 159 dX1_fits_152 (by decide) (fun c152 => ?_) (fun c152 => ?_)
                    · refine kr_iconst (v := 0) h dX1_fits_159 (by decide) ?_
                      exact kr_zret h hr hlk dX1_fits_160 (rfl) (by rw [yFits, if_neg (fun z => by rcases z with z | z | z <;> first | exact xb_f e5 c8 z | exact xb_f e13 c16 z.1 | exact xb_f e21 c24 z.2 | exact xb_f e29 c32 z.1 | exact xb_f e37 c40 z.2), if_neg c48, if_neg c70, if_neg (fun z => by first | exact z.1 (xb_t e119 c122) | exact xb_f e131 c134 z.2), if_pos c141]; first | exact (if_pos (xb_t e149 c152)).symm | exact (if_neg (xb_f e149 c152)).symm) (rfl)
                    · refine kr_iconst (v := 1) h dX1_fits_155 (by decide) ?_
                      refine kr_goto h 160 dX1_fits_156 (by decide) ?_
                      exact kr_zret h hr hlk dX1_fits_160 (rfl) (by rw [yFits, if_neg (fun z => by rcases z with z | z | z <;> first | exact xb_f e5 c8 z | exact xb_f e13 c16 z.1 | exact xb_f e21 c24 z.2 | exact xb_f e29 c32 z.1 | exact xb_f e37 c40 z.2), if_neg c48, if_neg c70, if_neg (fun z => by first | exact z.1 (xb_t e119 c122) | exact xb_f e131 c134 z.2), if_pos c141]; first | exact (if_pos (xb_t e149 c152)).symm | exact (if_neg (xb_f e149 c152)).symm) (rfl)
                · refine kr_iconst (v := 0) h dX1_fits_137 (by decide) ?_
                  exact kr_zret h hr hlk dX1_fits_138 (rfl) (by rw [yFits, if_neg (fun z => by rcases z with z | z | z <;> first | exact xb_f e5 c8 z | exact xb_f e13 c16 z.1 | exact xb_f e21 c24 z.2 | exact xb_f e29 c32 z.1 | exact xb_f e37 c40 z.2), if_neg c48, if_neg c70, if_pos ⟨xb_f e119 c122, xb_t e131 c134⟩]) (rfl)
            · refine kr_iload_n h dX1_fits_73 rfl 3 rfl ?_
              refine kr_iconst (v := 1) h dX1_fits_74 (by decide) ?_
              refine kr_icmp_eq h 88 dX1_fits_75 (by decide) (fun c75 => ?_) (fun c75 => ?_)
              · refine kr_iload h dX1_fits_88 4 rfl ?_
                refine kr_if_eq h 111 dX1_fits_90 (by decide) (fun c90 => ?_) (fun c90 => ?_)
                · refine kr_iconst (v := 1) h dX1_fits_111 (by decide) ?_
                  refine kr_goto h 116 dX1_fits_112 (by decide) ?_
                  exact kr_zret h hr hlk dX1_fits_116 (rfl) (by rw [yFits, if_neg (fun z => by rcases z with z | z | z <;> first | exact xb_f e5 c8 z | exact xb_f e13 c16 z.1 | exact xb_f e21 c24 z.2 | exact xb_f e29 c32 z.1 | exact xb_f e37 c40 z.2), if_neg c48, if_pos c70]; first | exact xb_1 ⟨by first | exact Or.inl c75 | exact Or.inr (Or.inl c80) | exact Or.inr (Or.inr c85), by first | exact Or.inl c90 | exact Or.inr (Or.inl c96) | exact Or.inr (Or.inr (Or.inl c102)) | exact Or.inr (Or.inr (Or.inr c108))⟩ | exact xb_0 (fun z => z.1.elim c75 (fun z => z.elim c80 c85)) | exact xb_0 (fun z => z.2.elim c90 (fun z => z.elim c96 (fun z => z.elim c102 c108)))) (rfl)
                · refine kr_iload h dX1_fits_93 4 rfl ?_
                  refine kr_iconst (v := 1) h dX1_fits_95 (by decide) ?_
                  refine kr_icmp_eq h 111 dX1_fits_96 (by decide) (fun c96 => ?_) (fun c96 => ?_)
                  · refine kr_iconst (v := 1) h dX1_fits_111 (by decide) ?_
                    refine kr_goto h 116 dX1_fits_112 (by decide) ?_
                    exact kr_zret h hr hlk dX1_fits_116 (rfl) (by rw [yFits, if_neg (fun z => by rcases z with z | z | z <;> first | exact xb_f e5 c8 z | exact xb_f e13 c16 z.1 | exact xb_f e21 c24 z.2 | exact xb_f e29 c32 z.1 | exact xb_f e37 c40 z.2), if_neg c48, if_pos c70]; first | exact xb_1 ⟨by first | exact Or.inl c75 | exact Or.inr (Or.inl c80) | exact Or.inr (Or.inr c85), by first | exact Or.inl c90 | exact Or.inr (Or.inl c96) | exact Or.inr (Or.inr (Or.inl c102)) | exact Or.inr (Or.inr (Or.inr c108))⟩ | exact xb_0 (fun z => z.1.elim c75 (fun z => z.elim c80 c85)) | exact xb_0 (fun z => z.2.elim c90 (fun z => z.elim c96 (fun z => z.elim c102 c108)))) (rfl)
                  · refine kr_iload h dX1_fits_99 4 rfl ?_
                    refine kr_iconst (v := 4) h dX1_fits_101 (by decide) ?_
                    refine kr_icmp_eq h 111 dX1_fits_102 (by decide) (fun c102 => ?_) (fun c102 => ?_)
                    · refine kr_iconst (v := 1) h dX1_fits_111 (by decide) ?_
                      refine kr_goto h 116 dX1_fits_112 (by decide) ?_
                      exact kr_zret h hr hlk dX1_fits_116 (rfl) (by rw [yFits, if_neg (fun z => by rcases z with z | z | z <;> first | exact xb_f e5 c8 z | exact xb_f e13 c16 z.1 | exact xb_f e21 c24 z.2 | exact xb_f e29 c32 z.1 | exact xb_f e37 c40 z.2), if_neg c48, if_pos c70]; first | exact xb_1 ⟨by first | exact Or.inl c75 | exact Or.inr (Or.inl c80) | exact Or.inr (Or.inr c85), by first | exact Or.inl c90 | exact Or.inr (Or.inl c96) | exact Or.inr (Or.inr (Or.inl c102)) | exact Or.inr (Or.inr (Or.inr c108))⟩ | exact xb_0 (fun z => z.1.elim c75 (fun z => z.elim c80 c85)) | exact xb_0 (fun z => z.2.elim c90 (fun z => z.elim c96 (fun z => z.elim c102 c108)))) (rfl)
                    · refine kr_iload h dX1_fits_105 4 rfl ?_
                      refine kr_iconst (v := 5) h dX1_fits_107 (by decide) ?_
                      refine kr_icmp_ne h 115 dX1_fits_108 (by decide) (fun c108 => ?_) (fun c108 => ?_)
                      · refine kr_iconst (v := 0) h dX1_fits_115 (by decide) ?_
                        exact kr_zret h hr hlk dX1_fits_116 (rfl) (by rw [yFits, if_neg (fun z => by rcases z with z | z | z <;> first | exact xb_f e5 c8 z | exact xb_f e13 c16 z.1 | exact xb_f e21 c24 z.2 | exact xb_f e29 c32 z.1 | exact xb_f e37 c40 z.2), if_neg c48, if_pos c70]; first | exact xb_1 ⟨by first | exact Or.inl c75 | exact Or.inr (Or.inl c80) | exact Or.inr (Or.inr c85), by first | exact Or.inl c90 | exact Or.inr (Or.inl c96) | exact Or.inr (Or.inr (Or.inl c102)) | exact Or.inr (Or.inr (Or.inr c108))⟩ | exact xb_0 (fun z => z.1.elim c75 (fun z => z.elim c80 c85)) | exact xb_0 (fun z => z.2.elim c90 (fun z => z.elim c96 (fun z => z.elim c102 c108)))) (rfl)
                      · refine kr_iconst (v := 1) h dX1_fits_111 (by decide) ?_
                        refine kr_goto h 116 dX1_fits_112 (by decide) ?_
                        exact kr_zret h hr hlk dX1_fits_116 (rfl) (by rw [yFits, if_neg (fun z => by rcases z with z | z | z <;> first | exact xb_f e5 c8 z | exact xb_f e13 c16 z.1 | exact xb_f e21 c24 z.2 | exact xb_f e29 c32 z.1 | exact xb_f e37 c40 z.2), if_neg c48, if_pos c70]; first | exact xb_1 ⟨by first | exact Or.inl c75 | exact Or.inr (Or.inl c80) | exact Or.inr (Or.inr c85), by first | exact Or.inl c90 | exact Or.inr (Or.inl c96) | exact Or.inr (Or.inr (Or.inl c102)) | exact Or.inr (Or.inr (Or.inr c108))⟩ | exact xb_0 (fun z => z.1.elim c75 (fun z => z.elim c80 c85)) | exact xb_0 (fun z => z.2.elim c90 (fun z => z.elim c96 (fun z => z.elim c102 c108)))) (rfl)
              · refine kr_iload_n h dX1_fits_78 rfl 3 rfl ?_
                refine kr_iconst (v := 4) h dX1_fits_79 (by decide) ?_
                refine kr_icmp_eq h 88 dX1_fits_80 (by decide) (fun c80 => ?_) (fun c80 => ?_)
                · refine kr_iload h dX1_fits_88 4 rfl ?_
                  refine kr_if_eq h 111 dX1_fits_90 (by decide) (fun c90 => ?_) (fun c90 => ?_)
                  · refine kr_iconst (v := 1) h dX1_fits_111 (by decide) ?_
                    refine kr_goto h 116 dX1_fits_112 (by decide) ?_
                    exact kr_zret h hr hlk dX1_fits_116 (rfl) (by rw [yFits, if_neg (fun z => by rcases z with z | z | z <;> first | exact xb_f e5 c8 z | exact xb_f e13 c16 z.1 | exact xb_f e21 c24 z.2 | exact xb_f e29 c32 z.1 | exact xb_f e37 c40 z.2), if_neg c48, if_pos c70]; first | exact xb_1 ⟨by first | exact Or.inl c75 | exact Or.inr (Or.inl c80) | exact Or.inr (Or.inr c85), by first | exact Or.inl c90 | exact Or.inr (Or.inl c96) | exact Or.inr (Or.inr (Or.inl c102)) | exact Or.inr (Or.inr (Or.inr c108))⟩ | exact xb_0 (fun z => z.1.elim c75 (fun z => z.elim c80 c85)) | exact xb_0 (fun z => z.2.elim c90 (fun z => z.elim c96 (fun z => z.elim c102 c108)))) (rfl)
                  · refine kr_iload h dX1_fits_93 4 rfl ?_
                    refine kr_iconst (v := 1) h dX1_fits_95 (by decide) ?_
                    refine kr_icmp_eq h 111 dX1_fits_96 (by decide) (fun c96 => ?_) (fun c96 => ?_)
                    · refine kr_iconst (v := 1) h dX1_fits_111 (by decide) ?_
                      refine kr_goto h 116 dX1_fits_112 (by decide) ?_
                      exact kr_zret h hr hlk dX1_fits_116 (rfl) (by rw [yFits, if_neg (fun z => by rcases z with z | z | z <;> first | exact xb_f e5 c8 z | exact xb_f e13 c16 z.1 | exact xb_f e21 c24 z.2 | exact xb_f e29 c32 z.1 | exact xb_f e37 c40 z.2), if_neg c48, if_pos c70]; first | exact xb_1 ⟨by first | exact Or.inl c75 | exact Or.inr (Or.inl c80) | exact Or.inr (Or.inr c85), by first | exact Or.inl c90 | exact Or.inr (Or.inl c96) | exact Or.inr (Or.inr (Or.inl c102)) | exact Or.inr (Or.inr (Or.inr c108))⟩ | exact xb_0 (fun z => z.1.elim c75 (fun z => z.elim c80 c85)) | exact xb_0 (fun z => z.2.elim c90 (fun z => z.elim c96 (fun z => z.elim c102 c108)))) (rfl)
                    · refine kr_iload h dX1_fits_99 4 rfl ?_
                      refine kr_iconst (v := 4) h dX1_fits_101 (by decide) ?_
                      refine kr_icmp_eq h 111 dX1_fits_102 (by decide) (fun c102 => ?_) (fun c102 => ?_)
                      · refine kr_iconst (v := 1) h dX1_fits_111 (by decide) ?_
                        refine kr_goto h 116 dX1_fits_112 (by decide) ?_
                        exact kr_zret h hr hlk dX1_fits_116 (rfl) (by rw [yFits, if_neg (fun z => by rcases z with z | z | z <;> first | exact xb_f e5 c8 z | exact xb_f e13 c16 z.1 | exact xb_f e21 c24 z.2 | exact xb_f e29 c32 z.1 | exact xb_f e37 c40 z.2), if_neg c48, if_pos c70]; first | exact xb_1 ⟨by first | exact Or.inl c75 | exact Or.inr (Or.inl c80) | exact Or.inr (Or.inr c85), by first | exact Or.inl c90 | exact Or.inr (Or.inl c96) | exact Or.inr (Or.inr (Or.inl c102)) | exact Or.inr (Or.inr (Or.inr c108))⟩ | exact xb_0 (fun z => z.1.elim c75 (fun z => z.elim c80 c85)) | exact xb_0 (fun z => z.2.elim c90 (fun z => z.elim c96 (fun z => z.elim c102 c108)))) (rfl)
                      · refine kr_iload h dX1_fits_105 4 rfl ?_
                        refine kr_iconst (v := 5) h dX1_fits_107 (by decide) ?_
                        refine kr_icmp_ne h 115 dX1_fits_108 (by decide) (fun c108 => ?_) (fun c108 => ?_)
                        · refine kr_iconst (v := 0) h dX1_fits_115 (by decide) ?_
                          exact kr_zret h hr hlk dX1_fits_116 (rfl) (by rw [yFits, if_neg (fun z => by rcases z with z | z | z <;> first | exact xb_f e5 c8 z | exact xb_f e13 c16 z.1 | exact xb_f e21 c24 z.2 | exact xb_f e29 c32 z.1 | exact xb_f e37 c40 z.2), if_neg c48, if_pos c70]; first | exact xb_1 ⟨by first | exact Or.inl c75 | exact Or.inr (Or.inl c80) | exact Or.inr (Or.inr c85), by first | exact Or.inl c90 | exact Or.inr (Or.inl c96) | exact Or.inr (Or.inr (Or.inl c102)) | exact Or.inr (Or.inr (Or.inr c108))⟩ | exact xb_0 (fun z => z.1.elim c75 (fun z => z.elim c80 c85)) | exact xb_0 (fun z => z.2.elim c90 (fun z => z.elim c96 (fun z => z.elim c102 c108)))) (rfl)
                        · refine kr_iconst (v := 1) h dX1_fits_111 (by decide) ?_
                          refine kr_goto h 116 dX1_fits_112 (by decide) ?_
                          exact kr_zret h hr hlk dX1_fits_116 (rfl) (by rw [yFits, if_neg (fun z => by rcases z with z | z | z <;> first | exact xb_f e5 c8 z | exact xb_f e13 c16 z.1 | exact xb_f e21 c24 z.2 | exact xb_f e29 c32 z.1 | exact xb_f e37 c40 z.2), if_neg c48, if_pos c70]; first | exact xb_1 ⟨by first | exact Or.inl c75 | exact Or.inr (Or.inl c80) | exact Or.inr (Or.inr c85), by first | exact Or.inl c90 | exact Or.inr (Or.inl c96) | exact Or.inr (Or.inr (Or.inl c102)) | exact Or.inr (Or.inr (Or.inr c108))⟩ | exact xb_0 (fun z => z.1.elim c75 (fun z => z.elim c80 c85)) | exact xb_0 (fun z => z.2.elim c90 (fun z => z.elim c96 (fun z => z.elim c102 c108)))) (rfl)
                · refine kr_iload_n h dX1_fits_83 rfl 3 rfl ?_
                  refine kr_iconst (v := 5) h dX1_fits_84 (by decide) ?_
                  refine kr_icmp_ne h 115 dX1_fits_85 (by decide) (fun c85 => ?_) (fun c85 => ?_)
                  · refine kr_iconst (v := 0) h dX1_fits_115 (by decide) ?_
                    exact kr_zret h hr hlk dX1_fits_116 (rfl) (by rw [yFits, if_neg (fun z => by rcases z with z | z | z <;> first | exact xb_f e5 c8 z | exact xb_f e13 c16 z.1 | exact xb_f e21 c24 z.2 | exact xb_f e29 c32 z.1 | exact xb_f e37 c40 z.2), if_neg c48, if_pos c70]; first | exact xb_1 ⟨by first | exact Or.inl c75 | exact Or.inr (Or.inl c80) | exact Or.inr (Or.inr c85), by first | exact Or.inl c90 | exact Or.inr (Or.inl c96) | exact Or.inr (Or.inr (Or.inl c102)) | exact Or.inr (Or.inr (Or.inr c108))⟩ | exact xb_0 (fun z => z.1.elim c75 (fun z => z.elim c80 c85)) | exact xb_0 (fun z => z.2.elim c90 (fun z => z.elim c96 (fun z => z.elim c102 c108)))) (rfl)
                  · refine kr_iload h dX1_fits_88 4 rfl ?_
                    refine kr_if_eq h 111 dX1_fits_90 (by decide) (fun c90 => ?_) (fun c90 => ?_)
                    · refine kr_iconst (v := 1) h dX1_fits_111 (by decide) ?_
                      refine kr_goto h 116 dX1_fits_112 (by decide) ?_
                      exact kr_zret h hr hlk dX1_fits_116 (rfl) (by rw [yFits, if_neg (fun z => by rcases z with z | z | z <;> first | exact xb_f e5 c8 z | exact xb_f e13 c16 z.1 | exact xb_f e21 c24 z.2 | exact xb_f e29 c32 z.1 | exact xb_f e37 c40 z.2), if_neg c48, if_pos c70]; first | exact xb_1 ⟨by first | exact Or.inl c75 | exact Or.inr (Or.inl c80) | exact Or.inr (Or.inr c85), by first | exact Or.inl c90 | exact Or.inr (Or.inl c96) | exact Or.inr (Or.inr (Or.inl c102)) | exact Or.inr (Or.inr (Or.inr c108))⟩ | exact xb_0 (fun z => z.1.elim c75 (fun z => z.elim c80 c85)) | exact xb_0 (fun z => z.2.elim c90 (fun z => z.elim c96 (fun z => z.elim c102 c108)))) (rfl)
                    · refine kr_iload h dX1_fits_93 4 rfl ?_
                      refine kr_iconst (v := 1) h dX1_fits_95 (by decide) ?_
                      refine kr_icmp_eq h 111 dX1_fits_96 (by decide) (fun c96 => ?_) (fun c96 => ?_)
                      · refine kr_iconst (v := 1) h dX1_fits_111 (by decide) ?_
                        refine kr_goto h 116 dX1_fits_112 (by decide) ?_
                        exact kr_zret h hr hlk dX1_fits_116 (rfl) (by rw [yFits, if_neg (fun z => by rcases z with z | z | z <;> first | exact xb_f e5 c8 z | exact xb_f e13 c16 z.1 | exact xb_f e21 c24 z.2 | exact xb_f e29 c32 z.1 | exact xb_f e37 c40 z.2), if_neg c48, if_pos c70]; first | exact xb_1 ⟨by first | exact Or.inl c75 | exact Or.inr (Or.inl c80) | exact Or.inr (Or.inr c85), by first | exact Or.inl c90 | exact Or.inr (Or.inl c96) | exact Or.inr (Or.inr (Or.inl c102)) | exact Or.inr (Or.inr (Or.inr c108))⟩ | exact xb_0 (fun z => z.1.elim c75 (fun z => z.elim c80 c85)) | exact xb_0 (fun z => z.2.elim c90 (fun z => z.elim c96 (fun z => z.elim c102 c108)))) (rfl)
                      · refine kr_iload h dX1_fits_99 4 rfl ?_
                        refine kr_iconst (v := 4) h dX1_fits_101 (by decide) ?_
                        refine kr_icmp_eq h 111 dX1_fits_102 (by decide) (fun c102 => ?_) (fun c102 => ?_)
                        · refine kr_iconst (v := 1) h dX1_fits_111 (by decide) ?_
                          refine kr_goto h 116 dX1_fits_112 (by decide) ?_
                          exact kr_zret h hr hlk dX1_fits_116 (rfl) (by rw [yFits, if_neg (fun z => by rcases z with z | z | z <;> first | exact xb_f e5 c8 z | exact xb_f e13 c16 z.1 | exact xb_f e21 c24 z.2 | exact xb_f e29 c32 z.1 | exact xb_f e37 c40 z.2), if_neg c48, if_pos c70]; first | exact xb_1 ⟨by first | exact Or.inl c75 | exact Or.inr (Or.inl c80) | exact Or.inr (Or.inr c85), by first | exact Or.inl c90 | exact Or.inr (Or.inl c96) | exact Or.inr (Or.inr (Or.inl c102)) | exact Or.inr (Or.inr (Or.inr c108))⟩ | exact xb_0 (fun z => z.1.elim c75 (fun z => z.elim c80 c85)) | exact xb_0 (fun z => z.2.elim c90 (fun z => z.elim c96 (fun z => z.elim c102 c108)))) (rfl)
                        · refine kr_iload h dX1_fits_105 4 rfl ?_
                          refine kr_iconst (v := 5) h dX1_fits_107 (by decide) ?_
                          refine kr_icmp_ne h 115 dX1_fits_108 (by decide) (fun c108 => ?_) (fun c108 => ?_)
                          · refine kr_iconst (v := 0) h dX1_fits_115 (by decide) ?_
                            exact kr_zret h hr hlk dX1_fits_116 (rfl) (by rw [yFits, if_neg (fun z => by rcases z with z | z | z <;> first | exact xb_f e5 c8 z | exact xb_f e13 c16 z.1 | exact xb_f e21 c24 z.2 | exact xb_f e29 c32 z.1 | exact xb_f e37 c40 z.2), if_neg c48, if_pos c70]; first | exact xb_1 ⟨by first | exact Or.inl c75 | exact Or.inr (Or.inl c80) | exact Or.inr (Or.inr c85), by first | exact Or.inl c90 | exact Or.inr (Or.inl c96) | exact Or.inr (Or.inr (Or.inl c102)) | exact Or.inr (Or.inr (Or.inr c108))⟩ | exact xb_0 (fun z => z.1.elim c75 (fun z => z.elim c80 c85)) | exact xb_0 (fun z => z.2.elim c90 (fun z => z.elim c96 (fun z => z.elim c102 c108)))) (rfl)
                          · refine kr_iconst (v := 1) h dX1_fits_111 (by decide) ?_
                            refine kr_goto h 116 dX1_fits_112 (by decide) ?_
                            exact kr_zret h hr hlk dX1_fits_116 (rfl) (by rw [yFits, if_neg (fun z => by rcases z with z | z | z <;> first | exact xb_f e5 c8 z | exact xb_f e13 c16 z.1 | exact xb_f e21 c24 z.2 | exact xb_f e29 c32 z.1 | exact xb_f e37 c40 z.2), if_neg c48, if_pos c70]; first | exact xb_1 ⟨by first | exact Or.inl c75 | exact Or.inr (Or.inl c80) | exact Or.inr (Or.inr c85), by first | exact Or.inl c90 | exact Or.inr (Or.inl c96) | exact Or.inr (Or.inr (Or.inl c102)) | exact Or.inr (Or.inr (Or.inr c108))⟩ | exact xb_0 (fun z => z.1.elim c75 (fun z => z.elim c80 c85)) | exact xb_0 (fun z => z.2.elim c90 (fun z => z.elim c96 (fun z => z.elim c102 c108)))) (rfl)
          · refine kr_aload_n h dX1_fits_51 rfl 0 rfl ?_
            refine kr_iload_n h dX1_fits_52 rfl 2 rfl ?_
            refine kr_iconst (v := 0) h dX1_fits_53 (by decide) ?_
            refine kr_iconst (v := 2) h dX1_fits_54 (by decide) ?_
            refine kr_iA h (kc_rV h (m_out l D cI cZ cJ q x a 0 2) mlX1_97 yvX1_out dX1_fits_55 rfl rfl ⟨Nat.le_of_ble_eq_true rfl, Nat.le_of_ble_eq_true rfl⟩ ⟨Nat.le_of_ble_eq_true rfl, Nat.le_of_ble_eq_true rfl⟩ (Nat.le_of_ble_eq_true rfl) [0, 1, 2, 3, 4, 5, 6, 7, 8, 9, 10, 11, 12, 13, 14, 15, 16, 17, 18, 19] rfl rfl 0 rfl rfl rfl) (fun v55 e55 => ?_)
            refine kr_if_ne h 65 dX1_fits_58 (by decide) (fun c58 => ?_) (fun c58 => ?_)
            · refine kr_iconst (v := 0) h dX1_fits_65 (by decide) ?_
              exact kr_zret h hr hlk dX1_fits_66 (rfl) (by rw [yFits, if_neg (fun z => by rcases z with z | z | z <;> first | exact xb_f e5 c8 z | exact xb_f e13 c16 z.1 | exact xb_f e21 c24 z.2 | exact xb_f e29 c32 z.1 | exact xb_f e37 c40 z.2), if_pos c48]; first | exact (if_pos (xb_t e55 c58)).symm | exact (if_neg (xb_f e55 c58)).symm) (rfl)
            · refine kr_iconst (v := 1) h dX1_fits_61 (by decide) ?_
              refine kr_goto h 66 dX1_fits_62 (by decide) ?_
              exact kr_zret h hr hlk dX1_fits_66 (rfl) (by rw [yFits, if_neg (fun z => by rcases z with z | z | z <;> first | exact xb_f e5 c8 z | exact xb_f e13 c16 z.1 | exact xb_f e21 c24 z.2 | exact xb_f e29 c32 z.1 | exact xb_f e37 c40 z.2), if_pos c48]; first | exact (if_pos (xb_t e55 c58)).symm | exact (if_neg (xb_f e55 c58)).symm) (rfl)
        · refine kr_iconst (v := 0) h dX1_fits_43 (by decide) ?_
          exact kr_zret h hr hlk dX1_fits_44 (rfl) (by rw [yFits, if_pos (by first | exact Or.inl (xb_t e5 c8) | exact Or.inr (Or.inl ⟨xb_t e13 c16, xb_t e21 c24⟩) | exact Or.inr (Or.inr ⟨xb_t e29 c32, xb_t e37 c40⟩))]) (rfl)
    · refine kr_aload_n h dX1_fits_19 rfl 0 rfl ?_
      refine kr_iload_n h dX1_fits_20 rfl 2 rfl ?_
      refine kr_iA h (kc_rV h (m_no l D cI cZ cJ q x a) mlX1_112 yvX1_no dX1_fits_21 rfl rfl ⟨Nat.le_of_ble_eq_true rfl, Nat.le_of_ble_eq_true rfl⟩ ⟨Nat.le_of_ble_eq_true rfl, Nat.le_of_ble_eq_true rfl⟩ (Nat.le_of_ble_eq_true rfl) [0, 1, 2, 3, 4, 5, 6, 7, 8, 9, 10, 11, 12, 13, 14, 15, 16, 17, 18, 19] rfl rfl 0 rfl rfl rfl) (fun v21 e21 => ?_)
      refine kr_if_ne h 43 dX1_fits_24 (by decide) (fun c24 => ?_) (fun c24 => ?_)
      · refine kr_iconst (v := 0) h dX1_fits_43 (by decide) ?_
        exact kr_zret h hr hlk dX1_fits_44 (rfl) (by rw [yFits, if_pos (by first | exact Or.inl (xb_t e5 c8) | exact Or.inr (Or.inl ⟨xb_t e13 c16, xb_t e21 c24⟩) | exact Or.inr (Or.inr ⟨xb_t e29 c32, xb_t e37 c40⟩))]) (rfl)
      · refine kr_aload_n h dX1_fits_27 rfl 0 rfl ?_
        refine kr_iload_n h dX1_fits_28 rfl 1 rfl ?_
        refine kr_iA h (kc_rV h (m_namesB l D cI cZ cJ q x k) mlX1_115 yvX1_namesB dX1_fits_29 rfl rfl ⟨Nat.le_of_ble_eq_true rfl, Nat.le_of_ble_eq_true rfl⟩ ⟨Nat.le_of_ble_eq_true rfl, Nat.le_of_ble_eq_true rfl⟩ (Nat.le_of_ble_eq_true rfl) [0, 1, 2, 3, 4, 5, 6, 7, 8, 9, 10, 11, 12, 13, 14, 15, 16, 17, 18, 19] rfl rfl 0 rfl rfl rfl) (fun v29 e29 => ?_)
        refine kr_if_eq h 45 dX1_fits_32 (by decide) (fun c32 => ?_) (fun c32 => ?_)
        · refine kr_iload_n h dX1_fits_45 rfl 1 rfl ?_
          refine kr_bipush (v := 6) h dX1_fits_46 (by decide) ?_
          refine kr_icmp_ne h 67 dX1_fits_48 (by decide) (fun c48 => ?_) (fun c48 => ?_)
          · refine kr_iload_n h dX1_fits_67 rfl 1 rfl ?_
            refine kr_bipush (v := 14) h dX1_fits_68 (by decide) ?_
            refine kr_icmp_ne h 117 dX1_fits_70 (by decide) (fun c70 => ?_) (fun c70 => ?_)
            · refine kr_aload_n h dX1_fits_117 rfl 0 rfl ?_
              refine kr_iload_n h dX1_fits_118 rfl 1 rfl ?_
              refine kr_iA h (kc_rV h (m_namesA l D cI cZ cJ q x k) mlX1_108 yvX1_namesA dX1_fits_119 rfl rfl ⟨Nat.le_of_ble_eq_true rfl, Nat.le_of_ble_eq_true rfl⟩ ⟨Nat.le_of_ble_eq_true rfl, Nat.le_of_ble_eq_true rfl⟩ (Nat.le_of_ble_eq_true rfl) [0, 1, 2, 3, 4, 5, 6, 7, 8, 9, 10, 11, 12, 13, 14, 15, 16, 17, 18, 19] rfl rfl 0 rfl rfl rfl) (fun v119 e119 => ?_)
              refine kr_if_ne h 139 dX1_fits_122 (by decide) (fun c122 => ?_) (fun c122 => ?_)
              · refine kr_iload_n h dX1_fits_139 rfl 1 rfl ?_
                refine kr_iconst (v := 3) h dX1_fits_140 (by decide) ?_
                refine kr_icmp_ne h 161 dX1_fits_141 (by decide) (fun c141 => ?_) (fun c141 => ?_)
                · refine kr_iload_n h dX1_fits_161 rfl 1 rfl ?_
                  refine kr_iconst (v := 5) h dX1_fits_162 (by decide) ?_
                  refine kr_icmp_ne h 177 dX1_fits_163 (by decide) (fun c163 => ?_) (fun c163 => ?_)
                  · refine kr_iconst (v := 1) h dX1_fits_177 (by decide) ?_
                    refine kr_goto h 182 dX1_fits_178 (by decide) ?_
                    exact kr_zret h hr hlk dX1_fits_182 (rfl) (by rw [yFits, if_neg (fun z => by rcases z with z | z | z <;> first | exact xb_f e5 c8 z | exact xb_f e13 c16 z.1 | exact xb_f e21 c24 z.2 | exact xb_f e29 c32 z.1 | exact xb_f e37 c40 z.2), if_neg c48, if_neg c70, if_neg (fun z => by first | exact z.1 (xb_t e119 c122) | exact xb_f e131 c134 z.2), if_neg c141]; first | exact (if_neg (fun z => c163 z.1)).symm | exact (if_pos ⟨c163, xb_t e171 c174⟩).symm | exact (if_neg (fun z => xb_f e171 c174 z.2)).symm) (rfl)
                  · refine kr_aload_n h dX1_fits_166 rfl 0 rfl ?_
                    refine kr_iload_n h dX1_fits_167 rfl 3 rfl ?_
                    refine kr_iconst (v := 0) h dX1_fits_168 (by decide) ?_
                    refine kr_bipush (v := 7) h dX1_fits_169 (by decide) ?_
                    refine kr_iA h (kc_rV h (m_out l D cI cZ cJ q x b 0 7) mlX1_97 yvX1_out dX1_fits_171 rfl rfl ⟨Nat.le_of_ble_eq_true rfl, Nat.le_of_ble_eq_true rfl⟩ ⟨Nat.le_of_ble_eq_true rfl, Nat.le_of_ble_eq_true rfl⟩ (Nat.le_of_ble_eq_true rfl) [0, 1, 2, 3, 4, 5, 6, 7, 8, 9, 10, 11, 12, 13, 14, 15, 16, 17, 18, 19] rfl rfl 0 rfl rfl rfl) (fun v171 e171 => ?_)
                    refine kr_if_ne h 181 dX1_fits_174 (by decide) (fun c174 => ?_) (fun c174 => ?_)
                    · refine kr_iconst (v := 0) h dX1_fits_181 (by decide) ?_
                      exact kr_zret h hr hlk dX1_fits_182 (rfl) (by rw [yFits, if_neg (fun z => by rcases z with z | z | z <;> first | exact xb_f e5 c8 z | exact xb_f e13 c16 z.1 | exact xb_f e21 c24 z.2 | exact xb_f e29 c32 z.1 | exact xb_f e37 c40 z.2), if_neg c48, if_neg c70, if_neg (fun z => by first | exact z.1 (xb_t e119 c122) | exact xb_f e131 c134 z.2), if_neg c141]; first | exact (if_neg (fun z => c163 z.1)).symm | exact (if_pos ⟨c163, xb_t e171 c174⟩).symm | exact (if_neg (fun z => xb_f e171 c174 z.2)).symm) (rfl)
                    · refine kr_iconst (v := 1) h dX1_fits_177 (by decide) ?_
                      refine kr_goto h 182 dX1_fits_178 (by decide) ?_
                      exact kr_zret h hr hlk dX1_fits_182 (rfl) (by rw [yFits, if_neg (fun z => by rcases z with z | z | z <;> first | exact xb_f e5 c8 z | exact xb_f e13 c16 z.1 | exact xb_f e21 c24 z.2 | exact xb_f e29 c32 z.1 | exact xb_f e37 c40 z.2), if_neg c48, if_neg c70, if_neg (fun z => by first | exact z.1 (xb_t e119 c122) | exact xb_f e131 c134 z.2), if_neg c141]; first | exact (if_neg (fun z => c163 z.1)).symm | exact (if_pos ⟨c163, xb_t e171 c174⟩).symm | exact (if_neg (fun z => xb_f e171 c174 z.2)).symm) (rfl)
                · refine kr_aload_n h dX1_fits_144 rfl 0 rfl ?_
                  refine kr_iload_n h dX1_fits_145 rfl 3 rfl ?_
                  refine kr_iconst (v := 0) h dX1_fits_146 (by decide) ?_
                  refine kr_bipush (v := 99) h dX1_fits_147 (by decide) ?_
                  refine kr_iA h (kc_rV h (m_out l D cI cZ cJ q x b 0 99) mlX1_97 yvX1_out dX1_fits_149 rfl rfl ⟨Nat.le_of_ble_eq_true rfl, Nat.le_of_ble_eq_true rfl⟩ ⟨Nat.le_of_ble_eq_true rfl, Nat.le_of_ble_eq_true rfl⟩ (Nat.le_of_ble_eq_true rfl) [0, 1, 2, 3, 4, 5, 6, 7, 8, 9, 10, 11, 12, 13, 14, 15, 16, 17, 18, 19] rfl rfl 0 rfl rfl rfl) (fun v149 e149 => ?_)
                  refine kr_if_ne h 159 dX1_fits_152 (by decide) (fun c152 => ?_) (fun c152 => ?_)
                  · refine kr_iconst (v := 0) h dX1_fits_159 (by decide) ?_
                    exact kr_zret h hr hlk dX1_fits_160 (rfl) (by rw [yFits, if_neg (fun z => by rcases z with z | z | z <;> first | exact xb_f e5 c8 z | exact xb_f e13 c16 z.1 | exact xb_f e21 c24 z.2 | exact xb_f e29 c32 z.1 | exact xb_f e37 c40 z.2), if_neg c48, if_neg c70, if_neg (fun z => by first | exact z.1 (xb_t e119 c122) | exact xb_f e131 c134 z.2), if_pos c141]; first | exact (if_pos (xb_t e149 c152)).symm | exact (if_neg (xb_f e149 c152)).symm) (rfl)
                  · refine kr_iconst (v := 1) h dX1_fits_155 (by decide) ?_
                    refine kr_goto h 160 dX1_fits_156 (by decide) ?_
                    exact kr_zret h hr hlk dX1_fits_160 (rfl) (by rw [yFits, if_neg (fun z => by rcases z with z | z | z <;> first | exact xb_f e5 c8 z | exact xb_f e13 c16 z.1 | exact xb_f e21 c24 z.2 | exact xb_f e29 c32 z.1 | exact xb_f e37 c40 z.2), if_neg c48, if_neg c70, if_neg (fun z => by first | exact z.1 (xb_t e119 c122) | exact xb_f e131 c134 z.2), if_pos c141]; first | exact (if_pos (xb_t e149 c152)).symm | exact (if_neg (xb_f e149 c152)).symm) (rfl)
              · refine kr_aload_n h dX1_fits_125 rfl 0 rfl ?_
                refine kr_iload_n h dX1_fits_126 rfl 2 rfl ?_
                refine kr_iconst (v := 0) h dX1_fits_127 (by decide) ?_
                refine kr_sipush (v := 255) h dX1_fits_128 (by decide) ?_
                refine kr_iA h (kc_rV h (m_out l D cI cZ cJ q x a 0 255) mlX1_97 yvX1_out dX1_fits_131 rfl rfl ⟨Nat.le_of_ble_eq_true rfl, Nat.le_of_ble_eq_true rfl⟩ ⟨Nat.le_of_ble_eq_true rfl, Nat.le_of_ble_eq_true rfl⟩ (Nat.le_of_ble_eq_true rfl) [0, 1, 2, 3, 4, 5, 6, 7, 8, 9, 10, 11, 12, 13, 14, 15, 16, 17, 18, 19] rfl rfl 0 rfl rfl rfl) (fun v131 e131 => ?_)
                refine kr_if_eq h 139 dX1_fits_134 (by decide) (fun c134 => ?_) (fun c134 => ?_)
                · refine kr_iload_n h dX1_fits_139 rfl 1 rfl ?_
                  refine kr_iconst (v := 3) h dX1_fits_140 (by decide) ?_
                  refine kr_icmp_ne h 161 dX1_fits_141 (by decide) (fun c141 => ?_) (fun c141 => ?_)
                  · refine kr_iload_n h dX1_fits_161 rfl 1 rfl ?_
                    refine kr_iconst (v := 5) h dX1_fits_162 (by decide) ?_
                    refine kr_icmp_ne h 177 dX1_fits_163 (by decide) (fun c163 => ?_) (fun c163 => ?_)
                    · refine kr_iconst (v := 1) h dX1_fits_177 (by decide) ?_
                      refine kr_goto h 182 dX1_fits_178 (by decide) ?_
                      exact kr_zret h hr hlk dX1_fits_182 (rfl) (by rw [yFits, if_neg (fun z => by rcases z with z | z | z <;> first | exact xb_f e5 c8 z | exact xb_f e13 c16 z.1 | exact xb_f e21 c24 z.2 | exact xb_f e29 c32 z.1 | exact xb_f e37 c40 z.2), if_neg c48, if_neg c70, if_neg (fun z => by first | exact z.1 (xb_t e119 c122) | exact xb_f e131 c134 z.2), if_neg c141]; first | exact (if_neg (fun z => c163 z.1)).symm | exact (if_pos ⟨c163, xb_t e171 c174⟩).symm | exact (if_neg (fun z => xb_f e171 c174 z.2)).symm) (rfl)
                    · refine kr_aload_n h dX1_fits_166 rfl 0 rfl ?_
                      refine kr_iload_n h dX1_fits_167 rfl 3 rfl ?_
                      refine kr_iconst (v := 0) h dX1_fits_168 (by decide) ?_
                      refine kr_bipush (v := 7) h dX1_fits_169 (by decide) ?_
                      refine kr_iA h (kc_rV h (m_out l D cI cZ cJ q x b 0 7) mlX1_97 yvX1_out dX1_fits_171 rfl rfl ⟨Nat.le_of_ble_eq_true rfl, Nat.le_of_ble_eq_true rfl⟩ ⟨Nat.le_of_ble_eq_true rfl, Nat.le_of_ble_eq_true rfl⟩ (Nat.le_of_ble_eq_true rfl) [0, 1, 2, 3, 4, 5, 6, 7, 8, 9, 10, 11, 12, 13, 14, 15, 16, 17, 18, 19] rfl rfl 0 rfl rfl rfl) (fun v171 e171 => ?_)
                      refine kr_if_ne h 181 dX1_fits_174 (by decide) (fun c174 => ?_) (fun c174 => ?_)
                      · refine kr_iconst (v := 0) h dX1_fits_181 (by decide) ?_
                        exact kr_zret h hr hlk dX1_fits_182 (rfl) (by rw [yFits, if_neg (fun z => by rcases z with z | z | z <;> first | exact xb_f e5 c8 z | exact xb_f e13 c16 z.1 | exact xb_f e21 c24 z.2 | exact xb_f e29 c32 z.1 | exact xb_f e37 c40 z.2), if_neg c48, if_neg c70, if_neg (fun z => by first | exact z.1 (xb_t e119 c122) | exact xb_f e131 c134 z.2), if_neg c141]; first | exact (if_neg (fun z => c163 z.1)).symm | exact (if_pos ⟨c163, xb_t e171 c174⟩).symm | exact (if_neg (fun z => xb_f e171 c174 z.2)).symm) (rfl)
                      · refine kr_iconst (v := 1) h dX1_fits_177 (by decide) ?_
                        refine kr_goto h 182 dX1_fits_178 (by decide) ?_
                        exact kr_zret h hr hlk dX1_fits_182 (rfl) (by rw [yFits, if_neg (fun z => by rcases z with z | z | z <;> first | exact xb_f e5 c8 z | exact xb_f e13 c16 z.1 | exact xb_f e21 c24 z.2 | exact xb_f e29 c32 z.1 | exact xb_f e37 c40 z.2), if_neg c48, if_neg c70, if_neg (fun z => by first | exact z.1 (xb_t e119 c122) | exact xb_f e131 c134 z.2), if_neg c141]; first | exact (if_neg (fun z => c163 z.1)).symm | exact (if_pos ⟨c163, xb_t e171 c174⟩).symm | exact (if_neg (fun z => xb_f e171 c174 z.2)).symm) (rfl)
                  · refine kr_aload_n h dX1_fits_144 rfl 0 rfl ?_
                    refine kr_iload_n h dX1_fits_145 rfl 3 rfl ?_
                    refine kr_iconst (v := 0) h dX1_fits_146 (by decide) ?_
                    refine kr_bipush (v := 99) h dX1_fits_147 (by decide) ?_
                    refine kr_iA h (kc_rV h (m_out l D cI cZ cJ q x b 0 99) mlX1_97 yvX1_out dX1_fits_149 rfl rfl ⟨Nat.le_of_ble_eq_true rfl, Nat.le_of_ble_eq_true rfl⟩ ⟨Nat.le_of_ble_eq_true rfl, Nat.le_of_ble_eq_true rfl⟩ (Nat.le_of_ble_eq_true rfl) [0, 1, 2, 3, 4, 5, 6, 7, 8, 9, 10, 11, 12, 13, 14, 15, 16, 17, 18, 19] rfl rfl 0 rfl rfl rfl) (fun v149 e149 => ?_)
                    refine kr_if_ne h 159 dX1_fits_152 (by decide) (fun c152 => ?_) (fun c152 => ?_)
                    · refine kr_iconst (v := 0) h dX1_fits_159 (by decide) ?_
                      exact kr_zret h hr hlk dX1_fits_160 (rfl) (by rw [yFits, if_neg (fun z => by rcases z with z | z | z <;> first | exact xb_f e5 c8 z | exact xb_f e13 c16 z.1 | exact xb_f e21 c24 z.2 | exact xb_f e29 c32 z.1 | exact xb_f e37 c40 z.2), if_neg c48, if_neg c70, if_neg (fun z => by first | exact z.1 (xb_t e119 c122) | exact xb_f e131 c134 z.2), if_pos c141]; first | exact (if_pos (xb_t e149 c152)).symm | exact (if_neg (xb_f e149 c152)).symm) (rfl)
                    · refine kr_iconst (v := 1) h dX1_fits_155 (by decide) ?_
                      refine kr_goto h 160 dX1_fits_156 (by decide) ?_
                      exact kr_zret h hr hlk dX1_fits_160 (rfl) (by rw [yFits, if_neg (fun z => by rcases z with z | z | z <;> first | exact xb_f e5 c8 z | exact xb_f e13 c16 z.1 | exact xb_f e21 c24 z.2 | exact xb_f e29 c32 z.1 | exact xb_f e37 c40 z.2), if_neg c48, if_neg c70, if_neg (fun z => by first | exact z.1 (xb_t e119 c122) | exact xb_f e131 c134 z.2), if_pos c141]; first | exact (if_pos (xb_t e149 c152)).symm | exact (if_neg (xb_f e149 c152)).symm) (rfl)
                · refine kr_iconst (v := 0) h dX1_fits_137 (by decide) ?_
                  exact kr_zret h hr hlk dX1_fits_138 (rfl) (by rw [yFits, if_neg (fun z => by rcases z with z | z | z <;> first | exact xb_f e5 c8 z | exact xb_f e13 c16 z.1 | exact xb_f e21 c24 z.2 | exact xb_f e29 c32 z.1 | exact xb_f e37 c40 z.2), if_neg c48, if_neg c70, if_pos ⟨xb_f e119 c122, xb_t e131 c134⟩]) (rfl)
            · refine kr_iload_n h dX1_fits_73 rfl 3 rfl ?_
              refine kr_iconst (v := 1) h dX1_fits_74 (by decide) ?_
              refine kr_icmp_eq h 88 dX1_fits_75 (by decide) (fun c75 => ?_) (fun c75 => ?_)
              · refine kr_iload h dX1_fits_88 4 rfl ?_
                refine kr_if_eq h 111 dX1_fits_90 (by decide) (fun c90 => ?_) (fun c90 => ?_)
                · refine kr_iconst (v := 1) h dX1_fits_111 (by decide) ?_
                  refine kr_goto h 116 dX1_fits_112 (by decide) ?_
                  exact kr_zret h hr hlk dX1_fits_116 (rfl) (by rw [yFits, if_neg (fun z => by rcases z with z | z | z <;> first | exact xb_f e5 c8 z | exact xb_f e13 c16 z.1 | exact xb_f e21 c24 z.2 | exact xb_f e29 c32 z.1 | exact xb_f e37 c40 z.2), if_neg c48, if_pos c70]; first | exact xb_1 ⟨by first | exact Or.inl c75 | exact Or.inr (Or.inl c80) | exact Or.inr (Or.inr c85), by first | exact Or.inl c90 | exact Or.inr (Or.inl c96) | exact Or.inr (Or.inr (Or.inl c102)) | exact Or.inr (Or.inr (Or.inr c108))⟩ | exact xb_0 (fun z => z.1.elim c75 (fun z => z.elim c80 c85)) | exact xb_0 (fun z => z.2.elim c90 (fun z => z.elim c96 (fun z => z.elim c102 c108)))) (rfl)
                · refine kr_iload h dX1_fits_93 4 rfl ?_
                  refine kr_iconst (v := 1) h dX1_fits_95 (by decide) ?_
                  refine kr_icmp_eq h 111 dX1_fits_96 (by decide) (fun c96 => ?_) (fun c96 => ?_)
                  · refine kr_iconst (v := 1) h dX1_fits_111 (by decide) ?_
                    refine kr_goto h 116 dX1_fits_112 (by decide) ?_
                    exact kr_zret h hr hlk dX1_fits_116 (rfl) (by rw [yFits, if_neg (fun z => by rcases z with z | z | z <;> first | exact xb_f e5 c8 z | exact xb_f e13 c16 z.1 | exact xb_f e21 c24 z.2 | exact xb_f e29 c32 z.1 | exact xb_f e37 c40 z.2), if_neg c48, if_pos c70]; first | exact xb_1 ⟨by first | exact Or.inl c75 | exact Or.inr (Or.inl c80) | exact Or.inr (Or.inr c85), by first | exact Or.inl c90 | exact Or.inr (Or.inl c96) | exact Or.inr (Or.inr (Or.inl c102)) | exact Or.inr (Or.inr (Or.inr c108))⟩ | exact xb_0 (fun z => z.1.elim c75 (fun z => z.elim c80 c85)) | exact xb_0 (fun z => z.2.elim c90 (fun z => z.elim c96 (fun z => z.elim c102 c108)))) (rfl)
                  · refine kr_iload h dX1_fits_99 4 rfl ?_
                    refine kr_iconst (v := 4) h dX1_fits_101 (by decide) ?_
                    refine kr_icmp_eq h 111 dX1_fits_102 (by decide) (fun c102 => ?_) (fun c102 => ?_)
                    · refine kr_iconst (v := 1) h dX1_fits_111 (by decide) ?_
                      refine kr_goto h 116 dX1_fits_112 (by decide) ?_
                      exact kr_zret h hr hlk dX1_fits_116 (rfl) (by rw [yFits, if_neg (fun z => by rcases z with z | z | z <;> first | exact xb_f e5 c8 z | exact xb_f e13 c16 z.1 | exact xb_f e21 c24 z.2 | exact xb_f e29 c32 z.1 | exact xb_f e37 c40 z.2), if_neg c48, if_pos c70]; first | exact xb_1 ⟨by first | exact Or.inl c75 | exact Or.inr (Or.inl c80) | exact Or.inr (Or.inr c85), by first | exact Or.inl c90 | exact Or.inr (Or.inl c96) | exact Or.inr (Or.inr (Or.inl c102)) | exact Or.inr (Or.inr (Or.inr c108))⟩ | exact xb_0 (fun z => z.1.elim c75 (fun z => z.elim c80 c85)) | exact xb_0 (fun z => z.2.elim c90 (fun z => z.elim c96 (fun z => z.elim c102 c108)))) (rfl)
                    · refine kr_iload h dX1_fits_105 4 rfl ?_
                      refine kr_iconst (v := 5) h dX1_fits_107 (by decide) ?_
                      refine kr_icmp_ne h 115 dX1_fits_108 (by decide) (fun c108 => ?_) (fun c108 => ?_)
                      · refine kr_iconst (v := 0) h dX1_fits_115 (by decide) ?_
                        exact kr_zret h hr hlk dX1_fits_116 (rfl) (by rw [yFits, if_neg (fun z => by rcases z with z | z | z <;> first | exact xb_f e5 c8 z | exact xb_f e13 c16 z.1 | exact xb_f e21 c24 z.2 | exact xb_f e29 c32 z.1 | exact xb_f e37 c40 z.2), if_neg c48, if_pos c70]; first | exact xb_1 ⟨by first | exact Or.inl c75 | exact Or.inr (Or.inl c80) | exact Or.inr (Or.inr c85), by first | exact Or.inl c90 | exact Or.inr (Or.inl c96) | exact Or.inr (Or.inr (Or.inl c102)) | exact Or.inr (Or.inr (Or.inr c108))⟩ | exact xb_0 (fun z => z.1.elim c75 (fun z => z.elim c80 c85)) | exact xb_0 (fun z => z.2.elim c90 (fun z => z.elim c96 (fun z => z.elim c102 c108)))) (rfl)
                      · refine kr_iconst (v := 1) h dX1_fits_111 (by decide) ?_
                        refine kr_goto h 116 dX1_fits_112 (by decide) ?_
                        exact kr_zret h hr hlk dX1_fits_116 (rfl) (by rw [yFits, if_neg (fun z => by rcases z with z | z | z <;> first | exact xb_f e5 c8 z | exact xb_f e13 c16 z.1 | exact xb_f e21 c24 z.2 | exact xb_f e29 c32 z.1 | exact xb_f e37 c40 z.2), if_neg c48, if_pos c70]; first | exact xb_1 ⟨by first | exact Or.inl c75 | exact Or.inr (Or.inl c80) | exact Or.inr (Or.inr c85), by first | exact Or.inl c90 | exact Or.inr (Or.inl c96) | exact Or.inr (Or.inr (Or.inl c102)) | exact Or.inr (Or.inr (Or.inr c108))⟩ | exact xb_0 (fun z => z.1.elim c75 (fun z => z.elim c80 c85)) | exact xb_0 (fun z => z.2.elim c90 (fun z => z.elim c96 (fun z => z.elim c102 c108)))) (rfl)
              · refine kr_iload_n h dX1_fits_78 rfl 3 rfl ?_
                refine kr_iconst (v := 4) h dX1_fits_79 (by decide) ?_
                refine kr_icmp_eq h 88 dX1_fits_80 (by decide) (fun c80 => ?_) (fun c80 => ?_)
                · refine kr_iload h dX1_fits_88 4 rfl ?_
                  refine kr_if_eq h 111 dX1_fits_90 (by decide) (fun c90 => ?_) (fun c90 => ?_)
                  · refine kr_iconst (v := 1) h dX1_fits_111 (by decide) ?_
                    refine kr_goto h 116 dX1_fits_112 (by decide) ?_
                    exact kr_zret h hr hlk dX1_fits_116 (rfl) (by rw [yFits, if_neg (fun z => by rcases z with z | z | z <;> first | exact xb_f e5 c8 z | exact xb_f e13 c16 z.1 | exact xb_f e21 c24 z.2 | exact xb_f e29 c32 z.1 | exact xb_f e37 c40 z.2), if_neg c48, if_pos c70]; first | exact xb_1 ⟨by first | exact Or.inl c75 | exact Or.inr (Or.inl c80) | exact Or.inr (Or.inr c85), by first | exact Or.inl c90 | exact Or.inr (Or.inl c96) | exact Or.inr (Or.inr (Or.inl c102)) | exact Or.inr (Or.inr (Or.inr c108))⟩ | exact xb_0 (fun z => z.1.elim c75 (fun z => z.elim c80 c85)) | exact xb_0 (fun z => z.2.elim c90 (fun z => z.elim c96 (fun z => z.elim c102 c108)))) (rfl)
                  · refine kr_iload h dX1_fits_93 4 rfl ?_
                    refine kr_iconst (v := 1) h dX1_fits_95 (by decide) ?_
                    refine kr_icmp_eq h 111 dX1_fits_96 (by decide) (fun c96 => ?_) (fun c96 => ?_)
                    · refine kr_iconst (v := 1) h dX1_fits_111 (by decide) ?_
                      refine kr_goto h 116 dX1_fits_112 (by decide) ?_
                      exact kr_zret h hr hlk dX1_fits_116 (rfl) (by rw [yFits, if_neg (fun z => by rcases z with z | z | z <;> first | exact xb_f e5 c8 z | exact xb_f e13 c16 z.1 | exact xb_f e21 c24 z.2 | exact xb_f e29 c32 z.1 | exact xb_f e37 c40 z.2), if_neg c48, if_pos c70]; first | exact xb_1 ⟨by first | exact Or.inl c75 | exact Or.inr (Or.inl c80) | exact Or.inr (Or.inr c85), by first | exact Or.inl c90 | exact Or.inr (Or.inl c96) | exact Or.inr (Or.inr (Or.inl c102)) | exact Or.inr (Or.inr (Or.inr c108))⟩ | exact xb_0 (fun z => z.1.elim c75 (fun z => z.elim c80 c85)) | exact xb_0 (fun z => z.2.elim c90 (fun z => z.elim c96 (fun z => z.elim c102 c108)))) (rfl)
                    · refine kr_iload h dX1_fits_99 4 rfl ?_
                      refine kr_iconst (v := 4) h dX1_fits_101 (by decide) ?_
                      refine kr_icmp_eq h 111 dX1_fits_102 (by decide) (fun c102 => ?_) (fun c102 => ?_)
                      · refine kr_iconst (v := 1) h dX1_fits_111 (by decide) ?_
                        refine kr_goto h 116 dX1_fits_112 (by decide) ?_
                        exact kr_zret h hr hlk dX1_fits_116 (rfl) (by rw [yFits, if_neg (fun z => by rcases z with z | z | z <;> first | exact xb_f e5 c8 z | exact xb_f e13 c16 z.1 | exact xb_f e21 c24 z.2 | exact xb_f e29 c32 z.1 | exact xb_f e37 c40 z.2), if_neg c48, if_pos c70]; first | exact xb_1 ⟨by first | exact Or.inl c75 | exact Or.inr (Or.inl c80) | exact Or.inr (Or.inr c85), by first | exact Or.inl c90 | exact Or.inr (Or.inl c96) | exact Or.inr (Or.inr (Or.inl c102)) | exact Or.inr (Or.inr (Or.inr c108))⟩ | exact xb_0 (fun z => z.1.elim c75 (fun z => z.elim c80 c85)) | exact xb_0 (fun z => z.2.elim c90 (fun z => z.elim c96 (fun z => z.elim c102 c108)))) (rfl)
                      · refine kr_iload h dX1_fits_105 4 rfl ?_
                        refine kr_iconst (v := 5) h dX1_fits_107 (by decide) ?_
                        refine kr_icmp_ne h 115 dX1_fits_108 (by decide) (fun c108 => ?_) (fun c108 => ?_)
                        · refine kr_iconst (v := 0) h dX1_fits_115 (by decide) ?_
                          exact kr_zret h hr hlk dX1_fits_116 (rfl) (by rw [yFits, if_neg (fun z => by rcases z with z | z | z <;> first | exact xb_f e5 c8 z | exact xb_f e13 c16 z.1 | exact xb_f e21 c24 z.2 | exact xb_f e29 c32 z.1 | exact xb_f e37 c40 z.2), if_neg c48, if_pos c70]; first | exact xb_1 ⟨by first | exact Or.inl c75 | exact Or.inr (Or.inl c80) | exact Or.inr (Or.inr c85), by first | exact Or.inl c90 | exact Or.inr (Or.inl c96) | exact Or.inr (Or.inr (Or.inl c102)) | exact Or.inr (Or.inr (Or.inr c108))⟩ | exact xb_0 (fun z => z.1.elim c75 (fun z => z.elim c80 c85)) | exact xb_0 (fun z => z.2.elim c90 (fun z => z.elim c96 (fun z => z.elim c102 c108)))) (rfl)
                        · refine kr_iconst (v := 1) h dX1_fits_111 (by decide) ?_
                          refine kr_goto h 116 dX1_fits_112 (by decide) ?_
                          exact kr_zret h hr hlk dX1_fits_116 (rfl) (by rw [yFits, if_neg (fun z => by rcases z with z | z | z <;> first | exact xb_f e5 c8 z | exact xb_f e13 c16 z.1 | exact xb_f e21 c24 z.2 | exact xb_f e29 c32 z.1 | exact xb_f e37 c40 z.2), if_neg c48, if_pos c70]; first | exact xb_1 ⟨by first | exact Or.inl c75 | exact Or.inr (Or.inl c80) | exact Or.inr (Or.inr c85), by first | exact Or.inl c90 | exact Or.inr (Or.inl c96) | exact Or.inr (Or.inr (Or.inl c102)) | exact Or.inr (Or.inr (Or.inr c108))⟩ | exact xb_0 (fun z => z.1.elim c75 (fun z => z.elim c80 c85)) | exact xb_0 (fun z => z.2.elim c90 (fun z => z.elim c96 (fun z => z.elim c102 c108)))) (rfl)
                · refine kr_iload_n h dX1_fits_83 rfl 3 rfl ?_
                  refine kr_iconst (v := 5) h dX1_fits_84 (by decide) ?_
                  refine kr_icmp_ne h 115 dX1_fits_85 (by decide) (fun c85 => ?_) (fun c85 => ?_)
                  · refine kr_iconst (v := 0) h dX1_fits_115 (by decide) ?_
                    exact kr_zret h hr hlk dX1_fits_116 (rfl) (by rw [yFits, if_neg (fun z => by rcases z with z | z | z <;> first | exact xb_f e5 c8 z | exact xb_f e13 c16 z.1 | exact xb_f e21 c24 z.2 | exact xb_f e29 c32 z.1 | exact xb_f e37 c40 z.2), if_neg c48, if_pos c70]; first | exact xb_1 ⟨by first | exact Or.inl c75 | exact Or.inr (Or.inl c80) | exact Or.inr (Or.inr c85), by first | exact Or.inl c90 | exact Or.inr (Or.inl c96) | exact Or.inr (Or.inr (Or.inl c102)) | exact Or.inr (Or.inr (Or.inr c108))⟩ | exact xb_0 (fun z => z.1.elim c75 (fun z => z.elim c80 c85)) | exact xb_0 (fun z => z.2.elim c90 (fun z => z.elim c96 (fun z => z.elim c102 c108)))) (rfl)
                  · refine kr_iload h dX1_fits_88 4 rfl ?_
                    refine kr_if_eq h 111 dX1_fits_90 (by decide) (fun c90 => ?_) (fun c90 => ?_)
                    · refine kr_iconst (v := 1) h dX1_fits_111 (by decide) ?_
                      refine kr_goto h 116 dX1_fits_112 (by decide) ?_
                      exact kr_zret h hr hlk dX1_fits_116 (rfl) (by rw [yFits, if_neg (fun z => by rcases z with z | z | z <;> first | exact xb_f e5 c8 z | exact xb_f e13 c16 z.1 | exact xb_f e21 c24 z.2 | exact xb_f e29 c32 z.1 | exact xb_f e37 c40 z.2), if_neg c48, if_pos c70]; first | exact xb_1 ⟨by first | exact Or.inl c75 | exact Or.inr (Or.inl c80) | exact Or.inr (Or.inr c85), by first | exact Or.inl c90 | exact Or.inr (Or.inl c96) | exact Or.inr (Or.inr (Or.inl c102)) | exact Or.inr (Or.inr (Or.inr c108))⟩ | exact xb_0 (fun z => z.1.elim c75 (fun z => z.elim c80 c85)) | exact xb_0 (fun z => z.2.elim c90 (fun z => z.elim c96 (fun z => z.elim c102 c108)))) (rfl)
                    · refine kr_iload h dX1_fits_93 4 rfl ?_
                      refine kr_iconst (v := 1) h dX1_fits_95 (by decide) ?_
                      refine kr_icmp_eq h 111 dX1_fits_96 (by decide) (fun c96 => ?_) (fun c96 => ?_)
                      · refine kr_iconst (v := 1) h dX1_fits_111 (by decide) ?_
                        refine kr_goto h 116 dX1_fits_112 (by decide) ?_
                        exact kr_zret h hr hlk dX1_fits_116 (rfl) (by rw [yFits, if_neg (fun z => by rcases z with z | z | z <;> first | exact xb_f e5 c8 z | exact xb_f e13 c16 z.1 | exact xb_f e21 c24 z.2 | exact xb_f e29 c32 z.1 | exact xb_f e37 c40 z.2), if_neg c48, if_pos c70]; first | exact xb_1 ⟨by first | exact Or.inl c75 | exact Or.inr (Or.inl c80) | exact Or.inr (Or.inr c85), by first | exact Or.inl c90 | exact Or.inr (Or.inl c96) | exact Or.inr (Or.inr (Or.inl c102)) | exact Or.inr (Or.inr (Or.inr c108))⟩ | exact xb_0 (fun z => z.1.elim c75 (fun z => z.elim c80 c85)) | exact xb_0 (fun z => z.2.elim c90 (fun z => z.elim c96 (fun z => z.elim c102 c108)))) (rfl)
                      · refine kr_iload h dX1_fits_99 4 rfl ?_
                        refine kr_iconst (v := 4) h dX1_fits_101 (by decide) ?_
                        refine kr_icmp_eq h 111 dX1_fits_102 (by decide) (fun c102 => ?_) (fun c102 => ?_)
                        · refine kr_iconst (v := 1) h dX1_fits_111 (by decide) ?_
                          refine kr_goto h 116 dX1_fits_112 (by decide) ?_
                          exact kr_zret h hr hlk dX1_fits_116 (rfl) (by rw [yFits, if_neg (fun z => by rcases z with z | z | z <;> first | exact xb_f e5 c8 z | exact xb_f e13 c16 z.1 | exact xb_f e21 c24 z.2 | exact xb_f e29 c32 z.1 | exact xb_f e37 c40 z.2), if_neg c48, if_pos c70]; first | exact xb_1 ⟨by first | exact Or.inl c75 | exact Or.inr (Or.inl c80) | exact Or.inr (Or.inr c85), by first | exact Or.inl c90 | exact Or.inr (Or.inl c96) | exact Or.inr (Or.inr (Or.inl c102)) | exact Or.inr (Or.inr (Or.inr c108))⟩ | exact xb_0 (fun z => z.1.elim c75 (fun z => z.elim c80 c85)) | exact xb_0 (fun z => z.2.elim c90 (fun z => z.elim c96 (fun z => z.elim c102 c108)))) (rfl)
                        · refine kr_iload h dX1_fits_105 4 rfl ?_
                          refine kr_iconst (v := 5) h dX1_fits_107 (by decide) ?_
                          refine kr_icmp_ne h 115 dX1_fits_108 (by decide) (fun c108 => ?_) (fun c108 => ?_)
                          · refine kr_iconst (v := 0) h dX1_fits_115 (by decide) ?_
                            exact kr_zret h hr hlk dX1_fits_116 (rfl) (by rw [yFits, if_neg (fun z => by rcases z with z | z | z <;> first | exact xb_f e5 c8 z | exact xb_f e13 c16 z.1 | exact xb_f e21 c24 z.2 | exact xb_f e29 c32 z.1 | exact xb_f e37 c40 z.2), if_neg c48, if_pos c70]; first | exact xb_1 ⟨by first | exact Or.inl c75 | exact Or.inr (Or.inl c80) | exact Or.inr (Or.inr c85), by first | exact Or.inl c90 | exact Or.inr (Or.inl c96) | exact Or.inr (Or.inr (Or.inl c102)) | exact Or.inr (Or.inr (Or.inr c108))⟩ | exact xb_0 (fun z => z.1.elim c75 (fun z => z.elim c80 c85)) | exact xb_0 (fun z => z.2.elim c90 (fun z => z.elim c96 (fun z => z.elim c102 c108)))) (rfl)
                          · refine kr_iconst (v := 1) h dX1_fits_111 (by decide) ?_
                            refine kr_goto h 116 dX1_fits_112 (by decide) ?_
                            exact kr_zret h hr hlk dX1_fits_116 (rfl) (by rw [yFits, if_neg (fun z => by rcases z with z | z | z <;> first | exact xb_f e5 c8 z | exact xb_f e13 c16 z.1 | exact xb_f e21 c24 z.2 | exact xb_f e29 c32 z.1 | exact xb_f e37 c40 z.2), if_neg c48, if_pos c70]; first | exact xb_1 ⟨by first | exact Or.inl c75 | exact Or.inr (Or.inl c80) | exact Or.inr (Or.inr c85), by first | exact Or.inl c90 | exact Or.inr (Or.inl c96) | exact Or.inr (Or.inr (Or.inl c102)) | exact Or.inr (Or.inr (Or.inr c108))⟩ | exact xb_0 (fun z => z.1.elim c75 (fun z => z.elim c80 c85)) | exact xb_0 (fun z => z.2.elim c90 (fun z => z.elim c96 (fun z => z.elim c102 c108)))) (rfl)
          · refine kr_aload_n h dX1_fits_51 rfl 0 rfl ?_
            refine kr_iload_n h dX1_fits_52 rfl 2 rfl ?_
            refine kr_iconst (v := 0) h dX1_fits_53 (by decide) ?_
            refine kr_iconst (v := 2) h dX1_fits_54 (by decide) ?_
            refine kr_iA h (kc_rV h (m_out l D cI cZ cJ q x a 0 2) mlX1_97 yvX1_out dX1_fits_55 rfl rfl ⟨Nat.le_of_ble_eq_true rfl, Nat.le_of_ble_eq_true rfl⟩ ⟨Nat.le_of_ble_eq_true rfl, Nat.le_of_ble_eq_true rfl⟩ (Nat.le_of_ble_eq_true rfl) [0, 1, 2, 3, 4, 5, 6, 7, 8, 9, 10, 11, 12, 13, 14, 15, 16, 17, 18, 19] rfl rfl 0 rfl rfl rfl) (fun v55 e55 => ?_)
            refine kr_if_ne h 65 dX1_fits_58 (by decide) (fun c58 => ?_) (fun c58 => ?_)
            · refine kr_iconst (v := 0) h dX1_fits_65 (by decide) ?_
              exact kr_zret h hr hlk dX1_fits_66 (rfl) (by rw [yFits, if_neg (fun z => by rcases z with z | z | z <;> first | exact xb_f e5 c8 z | exact xb_f e13 c16 z.1 | exact xb_f e21 c24 z.2 | exact xb_f e29 c32 z.1 | exact xb_f e37 c40 z.2), if_pos c48]; first | exact (if_pos (xb_t e55 c58)).symm | exact (if_neg (xb_f e55 c58)).symm) (rfl)
            · refine kr_iconst (v := 1) h dX1_fits_61 (by decide) ?_
              refine kr_goto h 66 dX1_fits_62 (by decide) ?_
              exact kr_zret h hr hlk dX1_fits_66 (rfl) (by rw [yFits, if_neg (fun z => by rcases z with z | z | z <;> first | exact xb_f e5 c8 z | exact xb_f e13 c16 z.1 | exact xb_f e21 c24 z.2 | exact xb_f e29 c32 z.1 | exact xb_f e37 c40 z.2), if_pos c48]; first | exact (if_pos (xb_t e55 c58)).symm | exact (if_neg (xb_f e55 c58)).symm) (rfl)
        · refine kr_aload_n h dX1_fits_35 rfl 0 rfl ?_
          refine kr_iload_n h dX1_fits_36 rfl 3 rfl ?_
          refine kr_iA h (kc_rV h (m_no l D cI cZ cJ q x b) mlX1_112 yvX1_no dX1_fits_37 rfl rfl ⟨Nat.le_of_ble_eq_true rfl, Nat.le_of_ble_eq_true rfl⟩ ⟨Nat.le_of_ble_eq_true rfl, Nat.le_of_ble_eq_true rfl⟩ (Nat.le_of_ble_eq_true rfl) [0, 1, 2, 3, 4, 5, 6, 7, 8, 9, 10, 11, 12, 13, 14, 15, 16, 17, 18, 19] rfl rfl 0 rfl rfl rfl) (fun v37 e37 => ?_)
          refine kr_if_eq h 45 dX1_fits_40 (by decide) (fun c40 => ?_) (fun c40 => ?_)
          · refine kr_iload_n h dX1_fits_45 rfl 1 rfl ?_
            refine kr_bipush (v := 6) h dX1_fits_46 (by decide) ?_
            refine kr_icmp_ne h 67 dX1_fits_48 (by decide) (fun c48 => ?_) (fun c48 => ?_)
            · refine kr_iload_n h dX1_fits_67 rfl 1 rfl ?_
              refine kr_bipush (v := 14) h dX1_fits_68 (by decide) ?_
              refine kr_icmp_ne h 117 dX1_fits_70 (by decide) (fun c70 => ?_) (fun c70 => ?_)
              · refine kr_aload_n h dX1_fits_117 rfl 0 rfl ?_
                refine kr_iload_n h dX1_fits_118 rfl 1 rfl ?_
                refine kr_iA h (kc_rV h (m_namesA l D cI cZ cJ q x k) mlX1_108 yvX1_namesA dX1_fits_119 rfl rfl ⟨Nat.le_of_ble_eq_true rfl, Nat.le_of_ble_eq_true rfl⟩ ⟨Nat.le_of_ble_eq_true rfl, Nat.le_of_ble_eq_true rfl⟩ (Nat.le_of_ble_eq_true rfl) [0, 1, 2, 3, 4, 5, 6, 7, 8, 9, 10, 11, 12, 13, 14, 15, 16, 17, 18, 19] rfl rfl 0 rfl rfl rfl) (fun v119 e119 => ?_)
                refine kr_if_ne h 139 dX1_fits_122 (by decide) (fun c122 => ?_) (fun c122 => ?_)
                · refine kr_iload_n h dX1_fits_139 rfl 1 rfl ?_
                  refine kr_iconst (v := 3) h dX1_fits_140 (by decide) ?_
                  refine kr_icmp_ne h 161 dX1_fits_141 (by decide) (fun c141 => ?_) (fun c141 => ?_)
                  · refine kr_iload_n h dX1_fits_161 rfl 1 rfl ?_
                    refine kr_iconst (v := 5) h dX1_fits_162 (by decide) ?_
                    refine kr_icmp_ne h 177 dX1_fits_163 (by decide) (fun c163 => ?_) (fun c163 => ?_)
                    · refine kr_iconst (v := 1) h dX1_fits_177 (by decide) ?_
                      refine kr_goto h 182 dX1_fits_178 (by decide) ?_
                      exact kr_zret h hr hlk dX1_fits_182 (rfl) (by rw [yFits, if_neg (fun z => by rcases z with z | z | z <;> first | exact xb_f e5 c8 z | exact xb_f e13 c16 z.1 | exact xb_f e21 c24 z.2 | exact xb_f e29 c32 z.1 | exact xb_f e37 c40 z.2), if_neg c48, if_neg c70, if_neg (fun z => by first | exact z.1 (xb_t e119 c122) | exact xb_f e131 c134 z.2), if_neg c141]; first | exact (if_neg (fun z => c163 z.1)).symm | exact (if_pos ⟨c163, xb_t e171 c174⟩).symm | exact (if_neg (fun z => xb_f e171 c174 z.2)).symm) (rfl)
                    · refine kr_aload_n h dX1_fits_166 rfl 0 rfl ?_
                      refine kr_iload_n h dX1_fits_167 rfl 3 rfl ?_
                      refine kr_iconst (v := 0) h dX1_fits_168 (by decide) ?_
                      refine kr_bipush (v := 7) h dX1_fits_169 (by decide) ?_
                      refine kr_iA h (kc_rV h (m_out l D cI cZ cJ q x b 0 7) mlX1_97 yvX1_out dX1_fits_171 rfl rfl ⟨Nat.le_of_ble_eq_true rfl, Nat.le_of_ble_eq_true rfl⟩ ⟨Nat.le_of_ble_eq_true rfl, Nat.le_of_ble_eq_true rfl⟩ (Nat.le_of_ble_eq_true rfl) [0, 1, 2, 3, 4, 5, 6, 7, 8, 9, 10, 11, 12, 13, 14, 15, 16, 17, 18, 19] rfl rfl 0 rfl rfl rfl) (fun v171 e171 => ?_)
                      refine kr_if_ne h 181 dX1_fits_174 (by decide) (fun c174 => ?_) (fun c174 => ?_)
                      · refine kr_iconst (v := 0) h dX1_fits_181 (by decide) ?_
                        exact kr_zret h hr hlk dX1_fits_182 (rfl) (by rw [yFits, if_neg (fun z => by rcases z with z | z | z <;> first | exact xb_f e5 c8 z | exact xb_f e13 c16 z.1 | exact xb_f e21 c24 z.2 | exact xb_f e29 c32 z.1 | exact xb_f e37 c40 z.2), if_neg c48, if_neg c70, if_neg (fun z => by first | exact z.1 (xb_t e119 c122) | exact xb_f e131 c134 z.2), if_neg c141]; first | exact (if_neg (fun z => c163 z.1)).symm | exact (if_pos ⟨c163, xb_t e171 c174⟩).symm | exact (if_neg (fun z => xb_f e171 c174 z.2)).symm) (rfl)
                      · refine kr_iconst (v := 1) h dX1_fits_177 (by decide) ?_
                        refine kr_goto h 182 dX1_fits_178 (by decide) ?_
                        exact kr_zret h hr hlk dX1_fits_182 (rfl) (by rw [yFits, if_neg (fun z => by rcases z with z | z | z <;> first | exact xb_f e5 c8 z | exact xb_f e13 c16 z.1 | exact xb_f e21 c24 z.2 | exact xb_f e29 c32 z.1 | exact xb_f e37 c40 z.2), if_neg c48, if_neg c70, if_neg (fun z => by first | exact z.1 (xb_t e119 c122) | exact xb_f e131 c134 z.2), if_neg c141]; first | exact (if_neg (fun z => c163 z.1)).symm | exact (if_pos ⟨c163, xb_t e171 c174⟩).symm | exact (if_neg (fun z => xb_f e171 c174 z.2)).symm) (rfl)
                  · refine kr_aload_n h dX1_fits_144 rfl 0 rfl ?_
                    refine kr_iload_n h dX1_fits_145 rfl 3 rfl ?_
                    refine kr_iconst (v := 0) h dX1_fits_146 (by decide) ?_
                    refine kr_bipush (v := 99) h dX1_fits_147 (by decide) ?_
                    refine kr_iA h (kc_rV h (m_out l D cI cZ cJ q x b 0 99) mlX1_97 yvX1_out dX1_fits_149 rfl rfl ⟨Nat.le_of_ble_eq_true rfl, Nat.le_of_ble_eq_true rfl⟩ ⟨Nat.le_of_ble_eq_true rfl, Nat.le_of_ble_eq_true rfl⟩ (Nat.le_of_ble_eq_true rfl) [0, 1, 2, 3, 4, 5, 6, 7, 8, 9, 10, 11, 12, 13, 14, 15, 16, 17, 18, 19] rfl rfl 0 rfl rfl rfl) (fun v149 e149 => ?_)
                    refine kr_if_ne h 159 dX1_fits_152 (by decide) (fun c152 => ?_) (fun c152 => ?_)
                    · refine kr_iconst (v := 0) h dX1_fits_159 (by decide) ?_
                      exact kr_zret h hr hlk dX1_fits_160 (rfl) (by rw [yFits, if_neg (fun z => by rcases z with z | z | z <;> first | exact xb_f e5 c8 z | exact xb_f e13 c16 z.1 | exact xb_f e21 c24 z.2 | exact xb_f e29 c32 z.1 | exact xb_f e37 c40 z.2), if_neg c48, if_neg c70, if_neg (fun z => by first | exact z.1 (xb_t e119 c122) | exact xb_f e131 c134 z.2), if_pos c141]; first | exact (if_pos (xb_t e149 c152)).symm | exact (if_neg (xb_f e149 c152)).symm) (rfl)
                    · refine kr_iconst (v := 1) h dX1_fits_155 (by decide) ?_
                      refine kr_goto h 160 dX1_fits_156 (by decide) ?_
                      exact kr_zret h hr hlk dX1_fits_160 (rfl) (by rw [yFits, if_neg (fun z => by rcases z with z | z | z <;> first | exact xb_f e5 c8 z | exact xb_f e13 c16 z.1 | exact xb_f e21 c24 z.2 | exact xb_f e29 c32 z.1 | exact xb_f e37 c40 z.2), if_neg c48, if_neg c70, if_neg (fun z => by first | exact z.1 (xb_t e119 c122) | exact xb_f e131 c134 z.2), if_pos c141]; first | exact (if_pos (xb_t e149 c152)).symm | exact (if_neg (xb_f e149 c152)).symm) (rfl)
                · refine kr_aload_n h dX1_fits_125 rfl 0 rfl ?_
                  refine kr_iload_n h dX1_fits_126 rfl 2 rfl ?_
                  refine kr_iconst (v := 0) h dX1_fits_127 (by decide) ?_
                  refine kr_sipush (v := 255) h dX1_fits_128 (by decide) ?_
                  refine kr_iA h (kc_rV h (m_out l D cI cZ cJ q x a 0 255) mlX1_97 yvX1_out dX1_fits_131 rfl rfl ⟨Nat.le_of_ble_eq_true rfl, Nat.le_of_ble_eq_true rfl⟩ ⟨Nat.le_of_ble_eq_true rfl, Nat.le_of_ble_eq_true rfl⟩ (Nat.le_of_ble_eq_true rfl) [0, 1, 2, 3, 4, 5, 6, 7, 8, 9, 10, 11, 12, 13, 14, 15, 16, 17, 18, 19] rfl rfl 0 rfl rfl rfl) (fun v131 e131 => ?_)
                  refine kr_if_eq h 139 dX1_fits_134 (by decide) (fun c134 => ?_) (fun c134 => ?_)
                  · refine kr_iload_n h dX1_fits_139 rfl 1 rfl ?_
                    refine kr_iconst (v := 3) h dX1_fits_140 (by decide) ?_
                    refine kr_icmp_ne h 161 dX1_fits_141 (by decide) (fun c141 => ?_) (fun c141 => ?_)
                    · refine kr_iload_n h dX1_fits_161 rfl 1 rfl ?_
                      refine kr_iconst (v := 5) h dX1_fits_162 (by decide) ?_
                      refine kr_icmp_ne h 177 dX1_fits_163 (by decide) (fun c163 => ?_) (fun c163 => ?_)
                      · refine kr_iconst (v := 1) h dX1_fits_177 (by decide) ?_
                        refine kr_goto h 182 dX1_fits_178 (by decide) ?_
                        exact kr_zret h hr hlk dX1_fits_182 (rfl) (by rw [yFits, if_neg (fun z => by rcases z with z | z | z <;> first | exact xb_f e5 c8 z | exact xb_f e13 c16 z.1 | exact xb_f e21 c24 z.2 | exact xb_f e29 c32 z.1 | exact xb_f e37 c40 z.2), if_neg c48, if_neg c70, if_neg (fun z => by first | exact z.1 (xb_t e119 c122) | exact xb_f e131 c134 z.2), if_neg c141]; first | exact (if_neg (fun z => c163 z.1)).symm | exact (if_pos ⟨c163, xb_t e171 c174⟩).symm | exact (if_neg (fun z => xb_f e171 c174 z.2)).symm) (rfl)
                      · refine kr_aload_n h dX1_fits_166 rfl 0 rfl ?_
                        refine kr_iload_n h dX1_fits_167 rfl 3 rfl ?_
                        refine kr_iconst (v := 0) h dX1_fits_168 (by decide) ?_
                        refine kr_bipush (v := 7) h dX1_fits_169 (by decide) ?_
                        refine kr_iA h (kc_rV h (m_out l D cI cZ cJ q x b 0 7) mlX1_97 yvX1_out dX1_fits_171 rfl rfl ⟨Nat.le_of_ble_eq_true rfl, Nat.le_of_ble_eq_true rfl⟩ ⟨Nat.le_of_ble_eq_true rfl, Nat.le_of_ble_eq_true rfl⟩ (Nat.le_of_ble_eq_true rfl) [0, 1, 2, 3, 4, 5, 6, 7, 8, 9, 10, 11, 12, 13, 14, 15, 16, 17, 18, 19] rfl rfl 0 rfl rfl rfl) (fun v171 e171 => ?_)
                        refine kr_if_ne h 181 dX1_fits_174 (by decide) (fun c174 => ?_) (fun c174 => ?_)
                        · refine kr_iconst (v := 0) h dX1_fits_181 (by decide) ?_
                          exact kr_zret h hr hlk dX1_fits_182 (rfl) (by rw [yFits, if_neg (fun z => by rcases z with z | z | z <;> first | exact xb_f e5 c8 z | exact xb_f e13 c16 z.1 | exact xb_f e21 c24 z.2 | exact xb_f e29 c32 z.1 | exact xb_f e37 c40 z.2), if_neg c48, if_neg c70, if_neg (fun z => by first | exact z.1 (xb_t e119 c122) | exact xb_f e131 c134 z.2), if_neg c141]; first | exact (if_neg (fun z => c163 z.1)).symm | exact (if_pos ⟨c163, xb_t e171 c174⟩).symm | exact (if_neg (fun z => xb_f e171 c174 z.2)).symm) (rfl)
                        · refine kr_iconst (v := 1) h dX1_fits_177 (by decide) ?_
                          refine kr_goto h 182 dX1_fits_178 (by decide) ?_
                          exact kr_zret h hr hlk dX1_fits_182 (rfl) (by rw [yFits, if_neg (fun z => by rcases z with z | z | z <;> first | exact xb_f e5 c8 z | exact xb_f e13 c16 z.1 | exact xb_f e21 c24 z.2 | exact xb_f e29 c32 z.1 | exact xb_f e37 c40 z.2), if_neg c48, if_neg c70, if_neg (fun z => by first | exact z.1 (xb_t e119 c122) | exact xb_f e131 c134 z.2), if_neg c141]; first | exact (if_neg (fun z => c163 z.1)).symm | exact (if_pos ⟨c163, xb_t e171 c174⟩).symm | exact (if_neg (fun z => xb_f e171 c174 z.2)).symm) (rfl)
                    · refine kr_aload_n h dX1_fits_144 rfl 0 rfl ?_
                      refine kr_iload_n h dX1_fits_145 rfl 3 rfl ?_
                      refine kr_iconst (v := 0) h dX1_fits_146 (by decide) ?_
                      refine kr_bipush (v := 99) h dX1_fits_147 (by decide) ?_
                      refine kr_iA h (kc_rV h (m_out l D cI cZ cJ q x b 0 99) mlX1_97 yvX1_out dX1_fits_149 rfl rfl ⟨Nat.le_of_ble_eq_true rfl, Nat.le_of_ble_eq_true rfl⟩ ⟨Nat.le_of_ble_eq_true rfl, Nat.le_of_ble_eq_true rfl⟩ (Nat.le_of_ble_eq_true rfl) [0, 1, 2, 3, 4, 5, 6, 7, 8, 9, 10, 11, 12, 13, 14, 15, 16, 17, 18, 19] rfl rfl 0 rfl rfl rfl) (fun v149 e149 => ?_)
                      refine kr_if_ne h 159 dX1_fits_152 (by decide) (fun c152 => ?_) (fun c152 => ?_)
                      · refine kr_iconst (v := 0) h dX1_fits_159 (by decide) ?_
                        exact kr_zret h hr hlk dX1_fits_160 (rfl) (by rw [yFits, if_neg (fun z => by rcases z with z | z | z <;> first | exact xb_f e5 c8 z | exact xb_f e13 c16 z.1 | exact xb_f e21 c24 z.2 | exact xb_f e29 c32 z.1 | exact xb_f e37 c40 z.2), if_neg c48, if_neg c70, if_neg (fun z => by first | exact z.1 (xb_t e119 c122) | exact xb_f e131 c134 z.2), if_pos c141]; first | exact (if_pos (xb_t e149 c152)).symm | exact (if_neg (xb_f e149 c152)).symm) (rfl)
                      · refine kr_iconst (v := 1) h dX1_fits_155 (by decide) ?_
                        refine kr_goto h 160 dX1_fits_156 (by decide) ?_
                        exact kr_zret h hr hlk dX1_fits_160 (rfl) (by rw [yFits, if_neg (fun z => by rcases z with z | z | z <;> first | exact xb_f e5 c8 z | exact xb_f e13 c16 z.1 | exact xb_f e21 c24 z.2 | exact xb_f e29 c32 z.1 | exact xb_f e37 c40 z.2), if_neg c48, if_neg c70, if_neg (fun z => by first | exact z.1 (xb_t e119 c122) | exact xb_f e131 c134 z.2), if_pos c141]; first | exact (if_pos (xb_t e149 c152)).symm | exact (if_neg (xb_f e149 c152)).symm) (rfl)
                  · refine kr_iconst (v := 0) h dX1_fits_137 (by decide) ?_
                    exact kr_zret h hr hlk dX1_fits_138 (rfl) (by rw [yFits, if_neg (fun z => by rcases z with z | z | z <;> first | exact xb_f e5 c8 z | exact xb_f e13 c16 z.1 | exact xb_f e21 c24 z.2 | exact xb_f e29 c32 z.1 | exact xb_f e37 c40 z.2), if_neg c48, if_neg c70, if_pos ⟨xb_f e119 c122, xb_t e131 c134⟩]) (rfl)
              · refine kr_iload_n h dX1_fits_73 rfl 3 rfl ?_
                refine kr_iconst (v := 1) h dX1_fits_74 (by decide) ?_
                refine kr_icmp_eq h 88 dX1_fits_75 (by decide) (fun c75 => ?_) (fun c75 => ?_)
                · refine kr_iload h dX1_fits_88 4 rfl ?_
                  refine kr_if_eq h 111 dX1_fits_90 (by decide) (fun c90 => ?_) (fun c90 => ?_)
                  · refine kr_iconst (v := 1) h dX1_fits_111 (by decide) ?_
                    refine kr_goto h 116 dX1_fits_112 (by decide) ?_
                    exact kr_zret h hr hlk dX1_fits_116 (rfl) (by rw [yFits, if_neg (fun z => by rcases z with z | z | z <;> first | exact xb_f e5 c8 z | exact xb_f e13 c16 z.1 | exact xb_f e21 c24 z.2 | exact xb_f e29 c32 z.1 | exact xb_f e37 c40 z.2), if_neg c48, if_pos c70]; first | exact xb_1 ⟨by first | exact Or.inl c75 | exact Or.inr (Or.inl c80) | exact Or.inr (Or.inr c85), by first | exact Or.inl c90 | exact Or.inr (Or.inl c96) | exact Or.inr (Or.inr (Or.inl c102)) | exact Or.inr (Or.inr (Or.inr c108))⟩ | exact xb_0 (fun z => z.1.elim c75 (fun z => z.elim c80 c85)) | exact xb_0 (fun z => z.2.elim c90 (fun z => z.elim c96 (fun z => z.elim c102 c108)))) (rfl)
                  · refine kr_iload h dX1_fits_93 4 rfl ?_
                    refine kr_iconst (v := 1) h dX1_fits_95 (by decide) ?_
                    refine kr_icmp_eq h 111 dX1_fits_96 (by decide) (fun c96 => ?_) (fun c96 => ?_)
                    · refine kr_iconst (v := 1) h dX1_fits_111 (by decide) ?_
                      refine kr_goto h 116 dX1_fits_112 (by decide) ?_
                      exact kr_zret h hr hlk dX1_fits_116 (rfl) (by rw [yFits, if_neg (fun z => by rcases z with z | z | z <;> first | exact xb_f e5 c8 z | exact xb_f e13 c16 z.1 | exact xb_f e21 c24 z.2 | exact xb_f e29 c32 z.1 | exact xb_f e37 c40 z.2), if_neg c48, if_pos c70]; first | exact xb_1 ⟨by first | exact Or.inl c75 | exact Or.inr (Or.inl c80) | exact Or.inr (Or.inr c85), by first | exact Or.inl c90 | exact Or.inr (Or.inl c96) | exact Or.inr (Or.inr (Or.inl c102)) | exact Or.inr (Or.inr (Or.inr c108))⟩ | exact xb_0 (fun z => z.1.elim c75 (fun z => z.elim c80 c85)) | exact xb_0 (fun z => z.2.elim c90 (fun z => z.elim c96 (fun z => z.elim c102 c108)))) (rfl)
                    · refine kr_iload h dX1_fits_99 4 rfl ?_
                      refine kr_iconst (v := 4) h dX1_fits_101 (by decide) ?_
                      refine kr_icmp_eq h 111 dX1_fits_102 (by decide) (fun c102 => ?_) (fun c102 => ?_)
                      · refine kr_iconst (v := 1) h dX1_fits_111 (by decide) ?_
                        refine kr_goto h 116 dX1_fits_112 (by decide) ?_
                        exact kr_zret h hr hlk dX1_fits_116 (rfl) (by rw [yFits, if_neg (fun z => by rcases z with z | z | z <;> first | exact xb_f e5 c8 z | exact xb_f e13 c16 z.1 | exact xb_f e21 c24 z.2 | exact xb_f e29 c32 z.1 | exact xb_f e37 c40 z.2), if_neg c48, if_pos c70]; first | exact xb_1 ⟨by first | exact Or.inl c75 | exact Or.inr (Or.inl c80) | exact Or.inr (Or.inr c85), by first | exact Or.inl c90 | exact Or.inr (Or.inl c96) | exact Or.inr (Or.inr (Or.inl c102)) | exact Or.inr (Or.inr (Or.inr c108))⟩ | exact xb_0 (fun z => z.1.elim c75 (fun z => z.elim c80 c85)) | exact xb_0 (fun z => z.2.elim c90 (fun z => z.elim c96 (fun z => z.elim c102 c108)))) (rfl)
                      · refine kr_iload h dX1_fits_105 4 rfl ?_
                        refine kr_iconst (v := 5) h dX1_fits_107 (by decide) ?_
                        refine kr_icmp_ne h 115 dX1_fits_108 (by decide) (fun c108 => ?_) (fun c108 => ?_)
                        · refine kr_iconst (v := 0) h dX1_fits_115 (by decide) ?_
                          exact kr_zret h hr hlk dX1_fits_116 (rfl) (by rw [yFits, if_neg (fun z => by rcases z with z | z | z <;> first | exact xb_f e5 c8 z | exact xb_f e13 c16 z.1 | exact xb_f e21 c24 z.2 | exact xb_f e29 c32 z.1 | exact xb_f e37 c40 z.2), if_neg c48, if_pos c70]; first | exact xb_1 ⟨by first | exact Or.inl c75 | exact Or.inr (Or.inl c80) | exact Or.inr (Or.inr c85), by first | exact Or.inl c90 | exact Or.inr (Or.inl c96) | exact Or.inr (Or.inr (Or.inl c102)) | exact Or.inr (Or.inr (Or.inr c108))⟩ | exact xb_0 (fun z => z.1.elim c75 (fun z => z.elim c80 c85)) | exact xb_0 (fun z => z.2.elim c90 (fun z => z.elim c96 (fun z => z.elim c102 c108)))) (rfl)
                        · refine kr_iconst (v := 1) h dX1_fits_111 (by decide) ?_
                          refine kr_goto h 116 dX1_fits_112 (by decide) ?_
                          exact kr_zret h hr hlk dX1_fits_116 (rfl) (by rw [yFits, if_neg (fun z => by rcases z with z | z | z <;> first | exact xb_f e5 c8 z | exact xb_f e13 c16 z.1 | exact xb_f e21 c24 z.2 | exact xb_f e29 c32 z.1 | exact xb_f e37 c40 z.2), if_neg c48, if_pos c70]; first | exact xb_1 ⟨by first | exact Or.inl c75 | exact Or.inr (Or.inl c80) | exact Or.inr (Or.inr c85), by first | exact Or.inl c90 | exact Or.inr (Or.inl c96) | exact Or.inr (Or.inr (Or.inl c102)) | exact Or.inr (Or.inr (Or.inr c108))⟩ | exact xb_0 (fun z => z.1.elim c75 (fun z => z.elim c80 c85)) | exact xb_0 (fun z => z.2.elim c90 (fun z => z.elim c96 (fun z => z.elim c102 c108)))) (rfl)
                · refine kr_iload_n h dX1_fits_78 rfl 3 rfl ?_
                  refine kr_iconst (v := 4) h dX1_fits_79 (by decide) ?_
                  refine kr_icmp_eq h 88 dX1_fits_80 (by decide) (fun c80 => ?_) (fun c80 => ?_)
                  · refine kr_iload h dX1_fits_88 4 rfl ?_
                    refine kr_if_eq h 111 dX1_fits_90 (by decide) (fun c90 => ?_) (fun c90 => ?_)
                    · refine kr_iconst (v := 1) h dX1_fits_111 (by decide) ?_
                      refine kr_goto h 116 dX1_fits_112 (by decide) ?_
                      exact kr_zret h hr hlk dX1_fits_116 (rfl) (by rw [yFits, if_neg (fun z => by rcases z with z | z | z <;> first | exact xb_f e5 c8 z | exact xb_f e13 c16 z.1 | exact xb_f e21 c24 z.2 | exact xb_f e29 c32 z.1 | exact xb_f e37 c40 z.2), if_neg c48, if_pos c70]; first | exact xb_1 ⟨by first | exact Or.inl c75 | exact Or.inr (Or.inl c80) | exact Or.inr (Or.inr c85), by first | exact Or.inl c90 | exact Or.inr (Or.inl c96) | exact Or.inr (Or.inr (Or.inl c102)) | exact Or.inr (Or.inr (Or.inr c108))⟩ | exact xb_0 (fun z => z.1.elim c75 (fun z => z.elim c80 c85)) | exact xb_0 (fun z => z.2.elim c90 (fun z => z.elim c96 (fun z => z.elim c102 c108)))) (rfl)
                    · refine kr_iload h dX1_fits_93 4 rfl ?_
                      refine kr_iconst (v := 1) h dX1_fits_95 (by decide) ?_
                      refine kr_icmp_eq h 111 dX1_fits_96 (by decide) (fun c96 => ?_) (fun c96 => ?_)
                      · refine kr_iconst (v := 1) h dX1_fits_111 (by decide) ?_
                        refine kr_goto h 116 dX1_fits_112 (by decide) ?_
                        exact kr_zret h hr hlk dX1_fits_116 (rfl) (by rw [yFits, if_neg (fun z => by rcases z with z | z | z <;> first | exact xb_f e5 c8 z | exact xb_f e13 c16 z.1 | exact xb_f e21 c24 z.2 | exact xb_f e29 c32 z.1 | exact xb_f e37 c40 z.2), if_neg c48, if_pos c70]; first | exact xb_1 ⟨by first | exact Or.inl c75 | exact Or.inr (Or.inl c80) | exact Or.inr (Or.inr c85), by first | exact Or.inl c90 | exact Or.inr (Or.inl c96) | exact Or.inr (Or.inr (Or.inl c102)) | exact Or.inr (Or.inr (Or.inr c108))⟩ | exact xb_0 (fun z => z.1.elim c75 (fun z => z.elim c80 c85)) | exact xb_0 (fun z => z.2.elim c90 (fun z => z.elim c96 (fun z => z.elim c102 c108)))) (rfl)
                      · refine kr_iload h dX1_fits_99 4 rfl ?_
                        refine kr_iconst (v := 4) h dX1_fits_101 (by decide) ?_
                        refine kr_icmp_eq h 111 dX1_fits_102 (by decide) (fun c102 => ?_) (fun c102 => ?_)
                        · refine kr_iconst (v := 1) h dX1_fits_111 (by decide) ?_
                          refine kr_goto h 116 dX1_fits_112 (by decide) ?_
                          exact kr_zret h hr hlk dX1_fits_116 (rfl) (by rw [yFits, if_neg (fun z => by rcases z with z | z | z <;> first | exact xb_f e5 c8 z | exact xb_f e13 c16 z.1 | exact xb_f e21 c24 z.2 | exact xb_f e29 c32 z.1 | exact xb_f e37 c40 z.2), if_neg c48, if_pos c70]; first | exact xb_1 ⟨by first | exact Or.inl c75 | exact Or.inr (Or.inl c80) | exact Or.inr (Or.inr c85), by first | exact Or.inl c90 | exact Or.inr (Or.inl c96) | exact Or.inr (Or.inr (Or.inl c102)) | exact Or.inr (Or.inr (Or.inr c108))⟩ | exact xb_0 (fun z => z.1.elim c75 (fun z => z.elim c80 c85)) | exact xb_0 (fun z => z.2.elim c90 (fun z => z.elim c96 (fun z => z.elim c102 c108)))) (rfl)
                        · refine kr_iload h dX1_fits_105 4 rfl ?_
                          refine kr_iconst (v := 5) h dX1_fits_107 (by decide) ?_
                          refine kr_icmp_ne h 115 dX1_fits_108 (by decide) (fun c108 => ?_) (fun c108 => ?_)
                          · refine kr_iconst (v := 0) h dX1_fits_115 (by decide) ?_
                            exact kr_zret h hr hlk dX1_fits_116 (rfl) (by rw [yFits, if_neg (fun z => by rcases z with z | z | z <;> first | exact xb_f e5 c8 z | exact xb_f e13 c16 z.1 | exact xb_f e21 c24 z.2 | exact xb_f e29 c32 z.1 | exact xb_f e37 c40 z.2), if_neg c48, if_pos c70]; first | exact xb_1 ⟨by first | exact Or.inl c75 | exact Or.inr (Or.inl c80) | exact Or.inr (Or.inr c85), by first | exact Or.inl c90 | exact Or.inr (Or.inl c96) | exact Or.inr (Or.inr (Or.inl c102)) | exact Or.inr (Or.inr (Or.inr c108))⟩ | exact xb_0 (fun z => z.1.elim c75 (fun z => z.elim c80 c85)) | exact xb_0 (fun z => z.2.elim c90 (fun z => z.elim c96 (fun z => z.elim c102 c108)))) (rfl)
                          · refine kr_iconst (v := 1) h dX1_fits_111 (by decide) ?_
                            refine kr_goto h 116 dX1_fits_112 (by decide) ?_
                            exact kr_zret h hr hlk dX1_fits_116 (rfl) (by rw [yFits, if_neg (fun z => by rcases z with z | z | z <;> first | exact xb_f e5 c8 z | exact xb_f e13 c16 z.1 | exact xb_f e21 c24 z.2 | exact xb_f e29 c32 z.1 | exact xb_f e37 c40 z.2), if_neg c48, if_pos c70]; first | exact xb_1 ⟨by first | exact Or.inl c75 | exact Or.inr (Or.inl c80) | exact Or.inr (Or.inr c85), by first | exact Or.inl c90 | exact Or.inr (Or.inl c96) | exact Or.inr (Or.inr (Or.inl c102)) | exact Or.inr (Or.inr (Or.inr c108))⟩ | exact xb_0 (fun z => z.1.elim c75 (fun z => z.elim c80 c85)) | exact xb_0 (fun z => z.2.elim c90 (fun z => z.elim c96 (fun z => z.elim c102 c108)))) (rfl)
                  · refine kr_iload_n h dX1_fits_83 rfl 3 rfl ?_
                    refine kr_iconst (v := 5) h dX1_fits_84 (by decide) ?_
                    refine kr_icmp_ne h 115 dX1_fits_85 (by decide) (fun c85 => ?_) (fun c85 => ?_)
                    · refine kr_iconst (v := 0) h dX1_fits_115 (by decide) ?_
                      exact kr_zret h hr hlk dX1_fits_116 (rfl) (by rw [yFits, if_neg (fun z => by rcases z with z | z | z <;> first | exact xb_f e5 c8 z | exact xb_f e13 c16 z.1 | exact xb_f e21 c24 z.2 | exact xb_f e29 c32 z.1 | exact xb_f e37 c40 z.2), if_neg c48, if_pos c70]; first | exact xb_1 ⟨by first | exact Or.inl c75 | exact Or.inr (Or.inl c80) | exact Or.inr (Or.inr c85), by first | exact Or.inl c90 | exact Or.inr (Or.inl c96) | exact Or.inr (Or.inr (Or.inl c102)) | exact Or.inr (Or.inr (Or.inr c108))⟩ | exact xb_0 (fun z => z.1.elim c75 (fun z => z.elim c80 c85)) | exact xb_0 (fun z => z.2.elim c90 (fun z => z.elim c96 (fun z => z.elim c102 c108)))) (rfl)
                    · refine kr_iload h dX1_fits_88 4 rfl ?_
                      refine kr_if_eq h 111 dX1_fits_90 (by decide) (fun c90 => ?_) (fun c90 => ?_)
                      · refine kr_iconst (v := 1) h dX1_fits_111 (by decide) ?_
                        refine kr_goto h 116 dX1_fits_112 (by decide) ?_
                        exact kr_zret h hr hlk dX1_fits_116 (rfl) (by rw [yFits, if_neg (fun z => by rcases z with z | z | z <;> first | exact xb_f e5 c8 z | exact xb_f e13 c16 z.1 | exact xb_f e21 c24 z.2 | exact xb_f e29 c32 z.1 | exact xb_f e37 c40 z.2), if_neg c48, if_pos c70]; first | exact xb_1 ⟨by first | exact Or.inl c75 | exact Or.inr (Or.inl c80) | exact Or.inr (Or.inr c85), by first | exact Or.inl c90 | exact Or.inr (Or.inl c96) | exact Or.inr (Or.inr (Or.inl c102)) | exact Or.inr (Or.inr (Or.inr c108))⟩ | exact xb_0 (fun z => z.1.elim c75 (fun z => z.elim c80 c85)) | exact xb_0 (fun z => z.2.elim c90 (fun z => z.elim c96 (fun z => z.elim c102 c108)))) (rfl)
                      · refine kr_iload h dX1_fits_93 4 rfl ?_
                        refine kr_iconst (v := 1) h dX1_fits_95 (by decide) ?_
                        refine kr_icmp_eq h 111 dX1_fits_96 (by decide) (fun c96 => ?_) (fun c96 => ?_)
                        · refine kr_iconst (v := 1) h dX1_fits_111 (by decide) ?_
                          refine kr_goto h 116 dX1_fits_112 (by decide) ?_
                          exact kr_zret h hr hlk dX1_fits_116 (rfl) (by rw [yFits, if_neg (fun z => by rcases z with z | z | z <;> first | exact xb_f e5 c8 z | exact xb_f e13 c16 z.1 | exact xb_f e21 c24 z.2 | exact xb_f e29 c32 z.1 | exact xb_f e37 c40 z.2), if_neg c48, if_pos c70]; first | exact xb_1 ⟨by first | exact Or.inl c75 | exact Or.inr (Or.inl c80) | exact Or.inr (Or.inr c85), by first | exact Or.inl c90 | exact Or.inr (Or.inl c96) | exact Or.inr (Or.inr (Or.inl c102)) | exact Or.inr (Or.inr (Or.inr c108))⟩ | exact xb_0 (fun z => z.1.elim c75 (fun z => z.elim c80 c85)) | exact xb_0 (fun z => z.2.elim c90 (fun z => z.elim c96 (fun z => z.elim c102 c108)))) (rfl)
                        · refine kr_iload h dX1_fits_99 4 rfl ?_
                          refine kr_iconst (v := 4) h dX1_fits_101 (by decide) ?_
                          refine kr_icmp_eq h 111 dX1_fits_102 (by decide) (fun c102 => ?_) (fun c102 => ?_)
                          · refine kr_iconst (v := 1) h dX1_fits_111 (by decide) ?_
                            refine kr_goto h 116 dX1_fits_112 (by decide) ?_
                            exact kr_zret h hr hlk dX1_fits_116 (rfl) (by rw [yFits, if_neg (fun z => by rcases z with z | z | z <;> first | exact xb_f e5 c8 z | exact xb_f e13 c16 z.1 | exact xb_f e21 c24 z.2 | exact xb_f e29 c32 z.1 | exact xb_f e37 c40 z.2), if_neg c48, if_pos c70]; first | exact xb_1 ⟨by first | exact Or.inl c75 | exact Or.inr (Or.inl c80) | exact Or.inr (Or.inr c85), by first | exact Or.inl c90 | exact Or.inr (Or.inl c96) | exact Or.inr (Or.inr (Or.inl c102)) | exact Or.inr (Or.inr (Or.inr c108))⟩ | exact xb_0 (fun z => z.1.elim c75 (fun z => z.elim c80 c85)) | exact xb_0 (fun z => z.2.elim c90 (fun z => z.elim c96 (fun z => z.elim c102 c108)))) (rfl)
                          · refine kr_iload h dX1_fits_105 4 rfl ?_
                            refine kr_iconst (v := 5) h dX1_fits_107 (by decide) ?_
                            refine kr_icmp_ne h 115 dX1_fits_108 (by decide) (fun c108 => ?_) (fun c108 => ?_)
                            · refine kr_iconst (v := 0) h dX1_fits_115 (by decide) ?_
                              exact kr_zret h hr hlk dX1_fits_116 (rfl) (by rw [yFits, if_neg (fun z => by rcases z with z | z | z <;> first | exact xb_f e5 c8 z | exact xb_f e13 c16 z.1 | exact xb_f e21 c24 z.2 | exact xb_f e29 c32 z.1 | exact xb_f e37 c40 z.2), if_neg c48, if_pos c70]; first | exact xb_1 ⟨by first | exact Or.inl c75 | exact Or.inr (Or.inl c80) | exact Or.inr (Or.inr c85), by first | exact Or.inl c90 | exact Or.inr (Or.inl c96) | exact Or.inr (Or.inr (Or.inl c102)) | exact Or.inr (Or.inr (Or.inr c108))⟩ | exact xb_0 (fun z => z.1.elim c75 (fun z => z.elim c80 c85)) | exact xb_0 (fun z => z.2.elim c90 (fun z => z.elim c96 (fun z => z.elim c102 c108)))) (rfl)
                            · refine kr_iconst (v := 1) h dX1_fits_111 (by decide) ?_
                              refine kr_goto h 116 dX1_fits_112 (by decide) ?_
                              exact kr_zret h hr hlk dX1_fits_116 (rfl) (by rw [yFits, if_neg (fun z => by rcases z with z | z | z <;> first | exact xb_f e5 c8 z | exact xb_f e13 c16 z.1 | exact xb_f e21 c24 z.2 | exact xb_f e29 c32 z.1 | exact xb_f e37 c40 z.2), if_neg c48, if_pos c70]; first | exact xb_1 ⟨by first | exact Or.inl c75 | exact Or.inr (Or.inl c80) | exact Or.inr (Or.inr c85), by first | exact Or.inl c90 | exact Or.inr (Or.inl c96) | exact Or.inr (Or.inr (Or.inl c102)) | exact Or.inr (Or.inr (Or.inr c108))⟩ | exact xb_0 (fun z => z.1.elim c75 (fun z => z.elim c80 c85)) | exact xb_0 (fun z => z.2.elim c90 (fun z => z.elim c96 (fun z => z.elim c102 c108)))) (rfl)
            · refine kr_aload_n h dX1_fits_51 rfl 0 rfl ?_
              refine kr_iload_n h dX1_fits_52 rfl 2 rfl ?_
              refine kr_iconst (v := 0) h dX1_fits_53 (by decide) ?_
              refine kr_iconst (v := 2) h dX1_fits_54 (by decide) ?_
              refine kr_iA h (kc_rV h (m_out l D cI cZ cJ q x a 0 2) mlX1_97 yvX1_out dX1_fits_55 rfl rfl ⟨Nat.le_of_ble_eq_true rfl, Nat.le_of_ble_eq_true rfl⟩ ⟨Nat.le_of_ble_eq_true rfl, Nat.le_of_ble_eq_true rfl⟩ (Nat.le_of_ble_eq_true rfl) [0, 1, 2, 3, 4, 5, 6, 7, 8, 9, 10, 11, 12, 13, 14, 15, 16, 17, 18, 19] rfl rfl 0 rfl rfl rfl) (fun v55 e55 => ?_)
              refine kr_if_ne h 65 dX1_fits_58 (by decide) (fun c58 => ?_) (fun c58 => ?_)
              · refine kr_iconst (v := 0) h dX1_fits_65 (by decide) ?_
                exact kr_zret h hr hlk dX1_fits_66 (rfl) (by rw [yFits, if_neg (fun z => by rcases z with z | z | z <;> first | exact xb_f e5 c8 z | exact xb_f e13 c16 z.1 | exact xb_f e21 c24 z.2 | exact xb_f e29 c32 z.1 | exact xb_f e37 c40 z.2), if_pos c48]; first | exact (if_pos (xb_t e55 c58)).symm | exact (if_neg (xb_f e55 c58)).symm) (rfl)
              · refine kr_iconst (v := 1) h dX1_fits_61 (by decide) ?_
                refine kr_goto h 66 dX1_fits_62 (by decide) ?_
                exact kr_zret h hr hlk dX1_fits_66 (rfl) (by rw [yFits, if_neg (fun z => by rcases z with z | z | z <;> first | exact xb_f e5 c8 z | exact xb_f e13 c16 z.1 | exact xb_f e21 c24 z.2 | exact xb_f e29 c32 z.1 | exact xb_f e37 c40 z.2), if_pos c48]; first | exact (if_pos (xb_t e55 c58)).symm | exact (if_neg (xb_f e55 c58)).symm) (rfl)
          · refine kr_iconst (v := 0) h dX1_fits_43 (by decide) ?_
            exact kr_zret h hr hlk dX1_fits_44 (rfl) (by rw [yFits, if_pos (by first | exact Or.inl (xb_t e5 c8) | exact Or.inr (Or.inl ⟨xb_t e13 c16, xb_t e21 c24⟩) | exact Or.inr (Or.inr ⟨xb_t e29 c32, xb_t e37 c40⟩))]) (rfl)
