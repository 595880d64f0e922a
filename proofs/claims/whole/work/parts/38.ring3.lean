/-! a visit of class street: the loop -/
def vs_go (b : Nat) : Nat → Nat → Int32 → ka_X → Int32 × ka_X
  | 0, _, m, X => (m, X)
  | n + 1, i, m, X => vs_go b n (i + 1) (m + (vs_1 X b (b + 12 + i)).2) (vs_1 X b (b + 12 + i)).1
/-- places that a visit leaves as they are -/
theorem vs_in_off {X : ka_X} {b p q : Nat} {pl : Int32} (h1 : ¬ q = b) (h2 : ¬ q = b + 11) (h3 : ¬ q = p) : vs_in X b p pl q = X q := by
  simp only [vs_in]
  rw [kn_row_off h2, kn_row_off h1, kn_row_off h3]
theorem vs_in_1 {X : ka_X} {b p : Nat} {pl : Int32} (h3 : ¬ b = p) {j : Nat} (hj : ¬ j = 3) : vs_in X b p pl b j = X b j := by
  simp only [vs_in]
  rw [kn_row_off (by omega), kn_row_at, kn_up_ne hj, kn_row_off h3]
theorem vs_1_off {X : ka_X} {b p q : Nat} (h1 : ¬ q = b) (h2 : ¬ q = b + 11) (h3 : ¬ q = p) (h4 : ¬ q = b + 8) : (vs_1 X b p).1 q = X q := by
  rw [vs_1]
  split
  · rfl
  · split
    · exact (vs_in_off h1 h2 h3).trans (br_x_off h4)
    · exact br_x_off h4
theorem vs_1_b {X : ka_X} {b p : Nat} (h3 : ¬ b = p) {j : Nat} (hj : ¬ j = 3) : (vs_1 X b p).1 b j = X b j := by
  rw [vs_1]
  split
  · rfl
  · split
    · exact (vs_in_1 h3 hj).trans (by rw [br_x_off (by omega : ¬ b = b + 8)])
    · exact congrFun (br_x_off (by omega : ¬ b = b + 8)) j
section
variable {sc : aS} {d : Nat} {b : Nat}
theorem tx_sz_at {X Y : ka_X} {p : Nat} (h : Y p = X p) (hn : tx_sz X p) : tx_sz Y p := by
  simp only [tx_sz] at hn ⊢
  rw [h]
  exact hn
theorem sp_42l (hb : ka_k b = 4) : ∀ (n i : Nat) (mn ii : Int32) (X : ka_X) (a3 a4 a5 : Value), tx_sz X (b + 6) → (X b 1).toInt = i + n → i + n ≤ 8 → ii.toInt = i → (∀ j, j < 4 → 0 ≤ (X (b + 2) j).toInt) → ka_ex sc (d + 4) 42 28 [.ref b, .int mn, .int ii, a3, a4, a5] [] (ka_mem X) = some (some (.int (vs_go b n i mn X).1), ka_mem (vs_go b n i mn X).2) := by
  intro n
  induction n with
  | zero =>
    intro i mn ii X a3 a4 a5 hn hN h8 hii hr
    have h1 : ¬ ii < X b 1 := by rw [ka_ilt]; omega
    rw [x42_28]
    simp only [x42_0, x42_1, x42_2, x42_3, x42_5, x42_6, x42_9, x42_10, x42_13, x42_14, x42_17, x42_18, x42_19, x42_20, x42_23, x42_27, x42_29, x42_30, x42_33, x42_36, x42_37, x42_38, x42_41, x42_42, x42_45, x42_46, x42_49, x42_50, x42_51, x42_52, x42_53, x42_56, x42_57, x42_58, x42_61, x42_62, x42_63, x42_65, x42_66, x42_69, x42_71, x42_72, x42_73, x42_74, x42_75, x42_78, x42_80, x42_81, x42_82, x42_83, x42_84, x42_86, x42_87, x42_90, x42_92, x42_95, x42_96, x42_98, x42_99, x42_102, x42_103, x42_105, x42_106, x42_109, x42_110, x42_113, x42_116, x42_119, x42_122, x42_123, x42_124, x42_127, x42_128, x42_129, x42_132, x42_133, x42_136, x42_137, x42_139, x42_142, x42_145, x42_146, x42_149, x42_151, x42_152, x42_153, x42_154, x42_155, x42_156, x42_159, x42_162, x42_165, x42_166, ka_kk_i, ka_kk_n, ka_cl_i, ka_cl_r, ka_cl_n, or_true, true_or, ka_ne2, ka_ne4, ka_ne5, ka_ne10, not_false_eq_true, not_true_eq_false, if_true, if_false, hb, h1, vs_go]
  | succ n ih =>
    intro i mn ii X a3 a4 a5 hn hN h8 hii hr
    have hi1 : (ii + 1).toInt = ((i + 1 : Nat) : Int) := by rw [ka_add (by simp only [ka_t_0, ka_t_1, ka_t_2, ka_t_3, ka_t_4, ka_t_5, ka_t_6, ka_t_7, ka_t_8, ka_t_9, ka_t_10, ka_t_11, ka_t_12, ka_t_13, ka_t_14, ka_t_15, ka_t_16, ka_t_17, ka_t_18, ka_t_19, ka_t_20, ka_t_25, ka_t_26, ka_t_28, ka_t_30, ka_t_31, ka_t_32, ka_t_33, ka_t_37, ka_t_38, ka_t_39, ka_t_40, ka_t_41, ka_t_42, ka_t_43, ka_t_45, ka_t_47, ka_t_48, ka_t_50, ka_t_57, ka_t_60, ka_t_61, ka_t_62, ka_t_63, ka_t_64, ka_t_65, ka_t_69, ka_t_70, ka_t_71, ka_t_80, ka_t_85, ka_t_87, ka_t_98, ka_t_99, ka_t_100, ka_t_104, ka_t_107, ka_t_109, ka_t_110, ka_t_112, ka_t_115, ka_t_116, ka_t_117, ka_t_124, ka_t_125, ka_t_160, ka_t_200, ka_t_207, ka_t_255, ka_t_260, ka_t_400, ka_t_624, ka_t_625, ka_t_999, ka_t_9999, ka_t_10000, ka_t_20000, ka_t_20033, ka_t_999999, ka_t_1000000000, ka_t_m1, ka_t_m2, ka_t_m3, ka_t_m5, ka_t_m9, ka_t_m10, ka_t_m1000000000]; omega)]; simp only [ka_t_0, ka_t_1, ka_t_2, ka_t_3, ka_t_4, ka_t_5, ka_t_6, ka_t_7, ka_t_8, ka_t_9, ka_t_10, ka_t_11, ka_t_12, ka_t_13, ka_t_14, ka_t_15, ka_t_16, ka_t_17, ka_t_18, ka_t_19, ka_t_20, ka_t_25, ka_t_26, ka_t_28, ka_t_30, ka_t_31, ka_t_32, ka_t_33, ka_t_37, ka_t_38, ka_t_39, ka_t_40, ka_t_41, ka_t_42, ka_t_43, ka_t_45, ka_t_47, ka_t_48, ka_t_50, ka_t_57, ka_t_60, ka_t_61, ka_t_62, ka_t_63, ka_t_64, ka_t_65, ka_t_69, ka_t_70, ka_t_71, ka_t_80, ka_t_85, ka_t_87, ka_t_98, ka_t_99, ka_t_100, ka_t_104, ka_t_107, ka_t_109, ka_t_110, ka_t_112, ka_t_115, ka_t_116, ka_t_117, ka_t_124, ka_t_125, ka_t_160, ka_t_200, ka_t_207, ka_t_255, ka_t_260, ka_t_400, ka_t_624, ka_t_625, ka_t_999, ka_t_9999, ka_t_10000, ka_t_20000, ka_t_20033, ka_t_999999, ka_t_1000000000, ka_t_m1, ka_t_m2, ka_t_m3, ka_t_m5, ka_t_m9, ka_t_m10, ka_t_m1000000000]; omega
    obtain ⟨b3, b4, b5, hs⟩ := s42 (sc := sc) (d := d) (mn := mn) (a3 := a3) (a4 := a4) (a5 := a5) hb hn (by omega) (by omega : i < 8) hii hr
    rw [hs]
    have e6 : (vs_1 X b (b + 12 + i)).1 (b + 6) = X (b + 6) := vs_1_off (by omega) (by omega) (by omega) (by omega)
    have e2 : (vs_1 X b (b + 12 + i)).1 (b + 2) = X (b + 2) := vs_1_off (by omega) (by omega) (by omega) (by omega)
    rw [ih (i + 1) _ _ _ _ _ _ (tx_sz_at e6 hn) (by rw [vs_1_b (by omega) (by decide)]; omega) (by omega) hi1 (by intro j hj; rw [e2]; exact hr j hj)]
    simp only [vs_go]
end
