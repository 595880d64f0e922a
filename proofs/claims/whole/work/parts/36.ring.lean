/-! a visit of class street -/
def kn_zr (n : Nat) (i : Nat) (r : Nat → Int32) : Nat → Int32 := fun k => if i ≤ k ∧ k < n then 0 else r k
theorem kn_zr_up {n i : Nat} {r : Nat → Int32} (h : i < n) : kn_zr n (i + 1) (kn_up r i 0) = kn_zr n i r := by
  funext k
  simp only [kn_zr]
  by_cases hk : k = i
  · subst hk; rw [if_neg (by omega), if_pos (by omega), kn_up_at]
  · rw [kn_up_ne hk]
    by_cases hz : i + 1 ≤ k ∧ k < n
    · rw [if_pos hz, if_pos (by omega)]
    · rw [if_neg hz, if_neg (by omega)]
theorem kn_zr_no {n : Nat} {r : Nat → Int32} : kn_zr n n r = r := by
  funext k
  simp only [kn_zr]
  rw [if_neg (by omega)]
section
variable {sc : aS} {d : Nat} {b : Nat}
theorem sp_42z (hb : ka_k b = 4) : ∀ (n i : Nat) (ii : Int32) (X : ka_X), i + n = 8 → ii.toInt = i → ka_ex sc d 42 4 [.ref b, .int 0, .int ii, ka_nv, ka_nv, ka_nv] [] (ka_mem X) = ka_ex sc d 42 26 [.ref b, .int 0, .int 8, ka_nv, ka_nv, ka_nv] [] (ka_mem (kn_row X (b + 11) (kn_zr 8 i (X (b + 11))))) := by
  intro n
  induction n with
  | zero =>
    intro i ii X hi hii
    have h8 : ii = 8 := ka_eq_lit (by simp only [ka_t_0, ka_t_1, ka_t_2, ka_t_3, ka_t_4, ka_t_5, ka_t_6, ka_t_7, ka_t_8, ka_t_9, ka_t_10, ka_t_11, ka_t_12, ka_t_13, ka_t_14, ka_t_15, ka_t_16, ka_t_17, ka_t_18, ka_t_19, ka_t_20, ka_t_25, ka_t_26, ka_t_28, ka_t_30, ka_t_31, ka_t_32, ka_t_33, ka_t_37, ka_t_38, ka_t_39, ka_t_40, ka_t_41, ka_t_42, ka_t_43, ka_t_45, ka_t_47, ka_t_48, ka_t_50, ka_t_57, ka_t_60, ka_t_61, ka_t_62, ka_t_63, ka_t_64, ka_t_65, ka_t_69, ka_t_70, ka_t_71, ka_t_80, ka_t_85, ka_t_87, ka_t_98, ka_t_99, ka_t_100, ka_t_104, ka_t_107, ka_t_109, ka_t_110, ka_t_112, ka_t_115, ka_t_116, ka_t_117, ka_t_124, ka_t_125, ka_t_160, ka_t_200, ka_t_207, ka_t_255, ka_t_260, ka_t_400, ka_t_624, ka_t_625, ka_t_999, ka_t_9999, ka_t_10000, ka_t_20000, ka_t_20033, ka_t_999999, ka_t_1000000000, ka_t_m1, ka_t_m2, ka_t_m3, ka_t_m5, ka_t_m9, ka_t_m10, ka_t_m1000000000]; omega)
    have hi8 : i = 8 := by omega
    subst hi8
    subst h8
    have h1 : ¬ (8 : Int32) < nI 8 := by decide
    rw [x42_4]
    simp only [x42_0, x42_1, x42_2, x42_3, x42_5, x42_6, x42_9, x42_10, x42_13, x42_14, x42_17, x42_18, x42_19, x42_20, x42_23, x42_27, x42_28, x42_29, x42_30, x42_33, x42_36, x42_37, x42_38, x42_41, x42_42, x42_45, x42_46, x42_49, x42_50, x42_51, x42_52, x42_53, x42_56, x42_57, x42_58, x42_61, x42_62, x42_63, x42_65, x42_66, x42_69, x42_71, x42_72, x42_73, x42_74, x42_75, x42_78, x42_80, x42_81, x42_82, x42_83, x42_84, x42_86, x42_87, x42_90, x42_92, x42_95, x42_96, x42_98, x42_99, x42_102, x42_103, x42_105, x42_106, x42_109, x42_110, x42_113, x42_116, x42_119, x42_122, x42_123, x42_124, x42_127, x42_128, x42_129, x42_132, x42_133, x42_136, x42_137, x42_139, x42_142, x42_145, x42_146, x42_149, x42_151, x42_152, x42_153, x42_154, x42_155, x42_156, x42_159, x42_162, x42_165, x42_166, ka_kk_i, ka_kk_n, ka_cl_i, ka_cl_r, ka_cl_n, or_true, true_or, ka_ne2, ka_ne4, ka_ne5, ka_ne10, not_false_eq_true, not_true_eq_false, if_true, if_false, hb, ka_st_r15 hb, ka_st_k11 hb, ka_st_l11 hb, h1, kn_zr_no, kn_row_self]
  | succ n ih =>
    intro i ii X hi hii
    have h1 : ii < nI 8 := by rw [ka_ilt, ka_nIt (by decide)]; omega
    have hin : ka_in ii 8 := ka_inI.mpr (by omega)
    have hc : ii.toNatClampNeg = i := by rw [ka_nc]; omega
    have hi1 : (ii + 1).toInt = ((i + 1 : Nat) : Int) := by rw [ka_add (by simp only [ka_t_0, ka_t_1, ka_t_2, ka_t_3, ka_t_4, ka_t_5, ka_t_6, ka_t_7, ka_t_8, ka_t_9, ka_t_10, ka_t_11, ka_t_12, ka_t_13, ka_t_14, ka_t_15, ka_t_16, ka_t_17, ka_t_18, ka_t_19, ka_t_20, ka_t_25, ka_t_26, ka_t_28, ka_t_30, ka_t_31, ka_t_32, ka_t_33, ka_t_37, ka_t_38, ka_t_39, ka_t_40, ka_t_41, ka_t_42, ka_t_43, ka_t_45, ka_t_47, ka_t_48, ka_t_50, ka_t_57, ka_t_60, ka_t_61, ka_t_62, ka_t_63, ka_t_64, ka_t_65, ka_t_69, ka_t_70, ka_t_71, ka_t_80, ka_t_85, ka_t_87, ka_t_98, ka_t_99, ka_t_100, ka_t_104, ka_t_107, ka_t_109, ka_t_110, ka_t_112, ka_t_115, ka_t_116, ka_t_117, ka_t_124, ka_t_125, ka_t_160, ka_t_200, ka_t_207, ka_t_255, ka_t_260, ka_t_400, ka_t_624, ka_t_625, ka_t_999, ka_t_9999, ka_t_10000, ka_t_20000, ka_t_20033, ka_t_999999, ka_t_1000000000, ka_t_m1, ka_t_m2, ka_t_m3, ka_t_m5, ka_t_m9, ka_t_m10, ka_t_m1000000000]; omega)]; simp only [ka_t_0, ka_t_1, ka_t_2, ka_t_3, ka_t_4, ka_t_5, ka_t_6, ka_t_7, ka_t_8, ka_t_9, ka_t_10, ka_t_11, ka_t_12, ka_t_13, ka_t_14, ka_t_15, ka_t_16, ka_t_17, ka_t_18, ka_t_19, ka_t_20, ka_t_25, ka_t_26, ka_t_28, ka_t_30, ka_t_31, ka_t_32, ka_t_33, ka_t_37, ka_t_38, ka_t_39, ka_t_40, ka_t_41, ka_t_42, ka_t_43, ka_t_45, ka_t_47, ka_t_48, ka_t_50, ka_t_57, ka_t_60, ka_t_61, ka_t_62, ka_t_63, ka_t_64, ka_t_65, ka_t_69, ka_t_70, ka_t_71, ka_t_80, ka_t_85, ka_t_87, ka_t_98, ka_t_99, ka_t_100, ka_t_104, ka_t_107, ka_t_109, ka_t_110, ka_t_112, ka_t_115, ka_t_116, ka_t_117, ka_t_124, ka_t_125, ka_t_160, ka_t_200, ka_t_207, ka_t_255, ka_t_260, ka_t_400, ka_t_624, ka_t_625, ka_t_999, ka_t_9999, ka_t_10000, ka_t_20000, ka_t_20033, ka_t_999999, ka_t_1000000000, ka_t_m1, ka_t_m2, ka_t_m3, ka_t_m5, ka_t_m9, ka_t_m10, ka_t_m1000000000]; omega
    rw [x42_4]
    simp only [x42_0, x42_1, x42_2, x42_3, x42_5, x42_6, x42_9, x42_10, x42_13, x42_14, x42_17, x42_18, x42_19, x42_20, x42_23, x42_27, x42_28, x42_29, x42_30, x42_33, x42_36, x42_37, x42_38, x42_41, x42_42, x42_45, x42_46, x42_49, x42_50, x42_51, x42_52, x42_53, x42_56, x42_57, x42_58, x42_61, x42_62, x42_63, x42_65, x42_66, x42_69, x42_71, x42_72, x42_73, x42_74, x42_75, x42_78, x42_80, x42_81, x42_82, x42_83, x42_84, x42_86, x42_87, x42_90, x42_92, x42_95, x42_96, x42_98, x42_99, x42_102, x42_103, x42_105, x42_106, x42_109, x42_110, x42_113, x42_116, x42_119, x42_122, x42_123, x42_124, x42_127, x42_128, x42_129, x42_132, x42_133, x42_136, x42_137, x42_139, x42_142, x42_145, x42_146, x42_149, x42_151, x42_152, x42_153, x42_154, x42_155, x42_156, x42_159, x42_162, x42_165, x42_166, ka_kk_i, ka_kk_n, ka_cl_i, ka_cl_r, ka_cl_n, or_true, true_or, ka_ne2, ka_ne4, ka_ne5, ka_ne10, not_false_eq_true, not_true_eq_false, if_true, if_false, hb, ka_st_r15 hb, ka_st_k11 hb, ka_st_l11 hb, h1, hin, hc, kn_put_r]
    rw [ih (i + 1) _ _ (by omega) hi1, kn_row_row, kn_row_at, kn_zr_up (by omega)]
end
