/-! a street is copied from another -/
section
variable {sc : aS} {d : Nat} {b c : Nat}
theorem ka_st_sep (hb : ka_k b = 4) (hc : ka_k c = 4) (h : ¬ b = c) : b + 20 ≤ c ∨ c + 20 ≤ b := by
  rcases ka_st4 hb with rfl | rfl | rfl <;> rcases ka_st4 hc with rfl | rfl | rfl <;> omega
theorem s34a (hb : ka_k b = 4) (hc : ka_k c = 4) (h : ¬ b = c) : ∀ (n i : Nat) (ii : Int32) (X : ka_X), i + n = 8 → ii.toInt = i → ∃ Y, ka_ex sc (d + 2) 34 2 [.ref c, .ref b, .int ii] [] (ka_mem X) = ka_ex sc (d + 2) 34 32 [.ref c, .ref b, .int 8] [] (ka_mem Y) ∧ (∀ j, i ≤ j → j < 8 → Y (c + 12 + j) = X (b + 12 + j)) ∧ ∀ p, ¬ (c + 12 + i ≤ p ∧ p < c + 20) → Y p = X p := by
  have hs := ka_st_sep hb hc h
  intro n
  induction n with
  | zero =>
    intro i ii X hi hii
    have h8 : ii = 8 := ka_eq_lit (by simp only [ka_t_0, ka_t_1, ka_t_2, ka_t_3, ka_t_4, ka_t_5, ka_t_6, ka_t_7, ka_t_8, ka_t_9, ka_t_10, ka_t_11, ka_t_12, ka_t_13, ka_t_14, ka_t_15, ka_t_16, ka_t_17, ka_t_18, ka_t_19, ka_t_20, ka_t_25, ka_t_26, ka_t_28, ka_t_30, ka_t_31, ka_t_32, ka_t_33, ka_t_37, ka_t_38, ka_t_39, ka_t_40, ka_t_41, ka_t_42, ka_t_43, ka_t_45, ka_t_47, ka_t_48, ka_t_50, ka_t_57, ka_t_60, ka_t_61, ka_t_62, ka_t_63, ka_t_64, ka_t_65, ka_t_69, ka_t_70, ka_t_71, ka_t_80, ka_t_85, ka_t_87, ka_t_98, ka_t_99, ka_t_100, ka_t_104, ka_t_107, ka_t_109, ka_t_110, ka_t_112, ka_t_115, ka_t_116, ka_t_117, ka_t_124, ka_t_125, ka_t_160, ka_t_200, ka_t_207, ka_t_255, ka_t_260, ka_t_400, ka_t_624, ka_t_625, ka_t_999, ka_t_9999, ka_t_10000, ka_t_20000, ka_t_20033, ka_t_999999, ka_t_1000000000, ka_t_m1, ka_t_m2, ka_t_m3, ka_t_m5, ka_t_m9, ka_t_m10, ka_t_m1000000000]; omega)
    subst h8
    have h1 : ¬ (8 : Int32) < nI 8 := by decide
    refine ⟨X, ?_, fun j h1 h2 => by omega, fun _ _ => rfl⟩
    rw [x34_2]
    simp only [x34_0, x34_1, x34_3, x34_4, x34_7, x34_8, x34_11, x34_12, x34_15, x34_16, x34_17, x34_18, x34_21, x34_22, x34_23, x34_26, x34_29, x34_33, x34_34, x34_37, x34_40, x34_41, x34_42, x34_45, x34_48, x34_49, x34_50, x34_53, x34_56, x34_57, x34_58, x34_61, x34_64, x34_65, x34_66, x34_69, x34_72, x34_73, x34_74, x34_77, x34_80, x34_81, x34_84, x34_85, x34_86, x34_89, x34_90, x34_91, x34_94, x34_95, x34_98, x34_99, x34_102, x34_105, x34_106, x34_109, x34_110, x34_113, x34_116, x34_117, x34_120, x34_121, x34_122, x34_125, x34_126, x34_128, x34_131, x34_132, x34_133, x34_136, x34_139, x34_140, x34_143, x34_144, x34_145, x34_148, x34_149, x34_151, x34_154, x34_155, x34_156, x34_159, x34_162, x34_163, x34_164, x34_167, x34_170, ka_kk_i, ka_kk_n, ka_cl_i, ka_cl_r, ka_cl_n, or_true, true_or, ka_ne2, ka_ne4, ka_ne5, ka_ne10, not_false_eq_true, not_true_eq_false, if_true, if_false, hc, ka_st_r0 hc, ka_st_k1 hc, ka_st_l1 hc, h1]
  | succ n ih =>
    intro i ii X hi hii
    have h1 : ii < nI 8 := by rw [ka_ilt, ka_nIt (by decide)]; omega
    have hin : ka_in ii 8 := ka_inI.mpr (by omega)
    have hcc : ii.toNatClampNeg = i := by rw [ka_nc]; omega
    have hi1 : (ii + 1).toInt = ((i + 1 : Nat) : Int) := by rw [ka_add (by simp only [ka_t_0, ka_t_1, ka_t_2, ka_t_3, ka_t_4, ka_t_5, ka_t_6, ka_t_7, ka_t_8, ka_t_9, ka_t_10, ka_t_11, ka_t_12, ka_t_13, ka_t_14, ka_t_15, ka_t_16, ka_t_17, ka_t_18, ka_t_19, ka_t_20, ka_t_25, ka_t_26, ka_t_28, ka_t_30, ka_t_31, ka_t_32, ka_t_33, ka_t_37, ka_t_38, ka_t_39, ka_t_40, ka_t_41, ka_t_42, ka_t_43, ka_t_45, ka_t_47, ka_t_48, ka_t_50, ka_t_57, ka_t_60, ka_t_61, ka_t_62, ka_t_63, ka_t_64, ka_t_65, ka_t_69, ka_t_70, ka_t_71, ka_t_80, ka_t_85, ka_t_87, ka_t_98, ka_t_99, ka_t_100, ka_t_104, ka_t_107, ka_t_109, ka_t_110, ka_t_112, ka_t_115, ka_t_116, ka_t_117, ka_t_124, ka_t_125, ka_t_160, ka_t_200, ka_t_207, ka_t_255, ka_t_260, ka_t_400, ka_t_624, ka_t_625, ka_t_999, ka_t_9999, ka_t_10000, ka_t_20000, ka_t_20033, ka_t_999999, ka_t_1000000000, ka_t_m1, ka_t_m2, ka_t_m3, ka_t_m5, ka_t_m9, ka_t_m10, ka_t_m1000000000]; omega)]; simp only [ka_t_0, ka_t_1, ka_t_2, ka_t_3, ka_t_4, ka_t_5, ka_t_6, ka_t_7, ka_t_8, ka_t_9, ka_t_10, ka_t_11, ka_t_12, ka_t_13, ka_t_14, ka_t_15, ka_t_16, ka_t_17, ka_t_18, ka_t_19, ka_t_20, ka_t_25, ka_t_26, ka_t_28, ka_t_30, ka_t_31, ka_t_32, ka_t_33, ka_t_37, ka_t_38, ka_t_39, ka_t_40, ka_t_41, ka_t_42, ka_t_43, ka_t_45, ka_t_47, ka_t_48, ka_t_50, ka_t_57, ka_t_60, ka_t_61, ka_t_62, ka_t_63, ka_t_64, ka_t_65, ka_t_69, ka_t_70, ka_t_71, ka_t_80, ka_t_85, ka_t_87, ka_t_98, ka_t_99, ka_t_100, ka_t_104, ka_t_107, ka_t_109, ka_t_110, ka_t_112, ka_t_115, ka_t_116, ka_t_117, ka_t_124, ka_t_125, ka_t_160, ka_t_200, ka_t_207, ka_t_255, ka_t_260, ka_t_400, ka_t_624, ka_t_625, ka_t_999, ka_t_9999, ka_t_10000, ka_t_20000, ka_t_20033, ka_t_999999, ka_t_1000000000, ka_t_m1, ka_t_m2, ka_t_m3, ka_t_m5, ka_t_m9, ka_t_m10, ka_t_m1000000000]; omega
    have hi8 : i < 8 := by omega
    obtain ⟨Y, hY, y1, y2⟩ := ih (i + 1) (ii + 1) (kn_row X (c + 12 + i) (X (b + 12 + i))) (by omega) hi1
    refine ⟨Y, ?_, ?_, ?_⟩
    · rw [← hY, x34_2]
      simp only [x34_0, x34_1, x34_3, x34_4, x34_7, x34_8, x34_11, x34_12, x34_15, x34_16, x34_17, x34_18, x34_21, x34_22, x34_23, x34_26, x34_29, x34_33, x34_34, x34_37, x34_40, x34_41, x34_42, x34_45, x34_48, x34_49, x34_50, x34_53, x34_56, x34_57, x34_58, x34_61, x34_64, x34_65, x34_66, x34_69, x34_72, x34_73, x34_74, x34_77, x34_80, x34_81, x34_84, x34_85, x34_86, x34_89, x34_90, x34_91, x34_94, x34_95, x34_98, x34_99, x34_102, x34_105, x34_106, x34_109, x34_110, x34_113, x34_116, x34_117, x34_120, x34_121, x34_122, x34_125, x34_126, x34_128, x34_131, x34_132, x34_133, x34_136, x34_139, x34_140, x34_143, x34_144, x34_145, x34_148, x34_149, x34_151, x34_154, x34_155, x34_156, x34_159, x34_162, x34_163, x34_164, x34_167, x34_170, x34_16 (Or.inl rfl) (ka_st_k1 hc), x34_22 (Or.inl rfl) (ka_st_k1 hb), ka_kk_i, ka_kk_n, ka_cl_i, ka_cl_r, ka_cl_n, or_true, true_or, ka_ne2, ka_ne4, ka_ne5, ka_ne10, not_false_eq_true, not_true_eq_false, if_true, if_false, hb, hc, h1, hin, hcc, ka_st_r0 hb, ka_st_r0 hc, ka_st_k1 hb, ka_st_k1 hc, ka_st_l1 hb, ka_st_l1 hc, ka_st_ra hb hi8, ka_st_ra hc hi8, ka_st_kn hb hi8, ka_st_kn hc hi8, sp_3 (ka_st_kn hc hi8) (ka_st_kn hb hi8)]
    · intro j j1 j2
      by_cases e : j = i
      · subst e
        rw [y2 _ (by omega), kn_row_at]
      · rw [y1 j (by omega) j2, kn_row_off (by omega)]
    · intro p hp
      rw [y2 p (by omega), kn_row_off (by omega)]
theorem s34b (hb : ka_k b = 4) (hc : ka_k c = 4) (h : ¬ b = c) {X : ka_X} {a2 : Value} : ka_ex sc (d + 2) 34 32 [.ref c, .ref b, a2] [] (ka_mem X) = ka_ex sc (d + 2) 34 94 [.ref c, .ref b, a2] [] (ka_mem (kn_row (kn_row X c (kn_up (kn_up (kn_up (kn_up (kn_up (kn_up (X c) 1 (X b 1)) 2 (X b 2)) 3 (X b 3)) 4 (X b 4)) 5 (X b 5)) 6 (X b 6))) (c + 2) (kn_cp 4 (X (b + 2)) (X (c + 2))))) := by
  have hs := ka_st_sep hb hc h
  have o1 : ∀ r, kn_row X c r b = X b := fun r => kn_row_off h
  have o2 : ∀ r, kn_row X c r (b + 2) = X (b + 2) := fun r => kn_row_off (by omega)
  have o3 : ∀ r, kn_row X c r (c + 2) = X (c + 2) := fun r => kn_row_off (by omega)
  have hin : ¬ (0 : Int32) < 0 ∧ ¬ (0 : Int32) < 0 ∧ ¬ (4 : Int32) < 0 ∧ (0 : Int32).toNatClampNeg + (4 : Int32).toNatClampNeg ≤ ka_ln (b + 2) ∧ (0 : Int32).toNatClampNeg + (4 : Int32).toNatClampNeg ≤ ka_ln (c + 2) := by
    rw [ka_st_l2 hb, ka_st_l2 hc]; decide
  rw [x34_32]
  simp only [x34_0, x34_1, x34_2, x34_3, x34_4, x34_7, x34_8, x34_11, x34_12, x34_15, x34_16, x34_17, x34_18, x34_21, x34_22, x34_23, x34_26, x34_29, x34_33, x34_34, x34_37, x34_40, x34_41, x34_42, x34_45, x34_48, x34_49, x34_50, x34_53, x34_56, x34_57, x34_58, x34_61, x34_64, x34_65, x34_66, x34_69, x34_72, x34_73, x34_74, x34_77, x34_80, x34_81, x34_84, x34_85, x34_86, x34_89, x34_90, x34_95, x34_98, x34_99, x34_102, x34_105, x34_106, x34_109, x34_110, x34_113, x34_116, x34_117, x34_120, x34_121, x34_122, x34_125, x34_126, x34_128, x34_131, x34_132, x34_133, x34_136, x34_139, x34_140, x34_143, x34_144, x34_145, x34_148, x34_149, x34_151, x34_154, x34_155, x34_156, x34_159, x34_162, x34_163, x34_164, x34_167, x34_170, ka_kk_i, ka_kk_n, ka_cl_i, ka_cl_r, ka_cl_n, or_true, true_or, ka_ne2, ka_ne4, ka_ne5, ka_ne10, not_false_eq_true, not_true_eq_false, if_true, if_false, hb, hc, kn_put_r, kn_row_at, kn_row_row, o1, ka_st_r7 hb, ka_st_r7 hc]
  rw [x34_91 (ka_st_k2 hc) (ka_st_k2 hb) hin]
  simp only [ka_c_0, ka_c_1, ka_c_2, ka_c_3, ka_c_4, ka_c_5, ka_c_6, ka_c_7, ka_c_8, ka_c_9, ka_c_10, ka_c_11, ka_c_12, ka_c_13, ka_c_14, ka_c_15, ka_c_16, ka_c_17, ka_c_18, ka_c_19, ka_c_20, ka_c_28, ka_c_40, ka_c_50, ka_c_87, kn_cpy, o2, o3, kn_row_def]
theorem s34c (hb : ka_k b = 4) (hc : ka_k c = 4) (h : ¬ b = c) {X : ka_X} {a2 : Value} : ka_ex sc (d + 2) 34 94 [.ref c, .ref b, a2] [] (ka_mem X) = ka_ex sc (d + 2) 34 105 [.ref c, .ref b, a2] [] (ka_mem (kn_row (kn_row X (c + 3) (kn_up (X (c + 3)) 1 (X (b + 3) 1))) (c + 3 + 1) (kn_cp 50 (X (b + 3 + 1)) (X (c + 3 + 1))))) := by
  have hs := ka_st_sep hb hc h
  rw [x34_94]
  simp only [x34_0, x34_1, x34_2, x34_3, x34_4, x34_7, x34_8, x34_11, x34_12, x34_15, x34_16, x34_17, x34_18, x34_21, x34_22, x34_23, x34_26, x34_29, x34_32, x34_33, x34_34, x34_37, x34_40, x34_41, x34_42, x34_45, x34_48, x34_49, x34_50, x34_53, x34_56, x34_57, x34_58, x34_61, x34_64, x34_65, x34_66, x34_69, x34_72, x34_73, x34_74, x34_77, x34_80, x34_81, x34_84, x34_85, x34_86, x34_89, x34_90, x34_91, x34_95, x34_98, x34_99, x34_102, x34_106, x34_109, x34_110, x34_113, x34_116, x34_117, x34_120, x34_121, x34_122, x34_125, x34_126, x34_128, x34_131, x34_132, x34_133, x34_136, x34_139, x34_140, x34_143, x34_144, x34_145, x34_148, x34_149, x34_151, x34_154, x34_155, x34_156, x34_159, x34_162, x34_163, x34_164, x34_167, x34_170, ka_kk_i, ka_kk_n, ka_cl_i, ka_cl_r, ka_cl_n, or_true, true_or, ka_ne2, ka_ne4, ka_ne5, ka_ne10, not_false_eq_true, not_true_eq_false, if_true, if_false, hb, hc, ka_st_r8 hb, ka_st_r8 hc, ka_st_k3 hc, sp_52 (ka_st_k3 hc) (ka_st_k3 hb) (show ¬ b + 3 = c + 3 ∧ ¬ b + 3 + 1 = c + 3 ∧ ¬ b + 3 = c + 3 + 1 by omega)]
theorem s34d (hb : ka_k b = 4) (hc : ka_k c = 4) (h : ¬ b = c) {X : ka_X} {a2 : Value} : ka_ex sc (d + 2) 34 105 [.ref c, .ref b, a2] [] (ka_mem X) = ka_ex sc (d + 2) 34 116 [.ref c, .ref b, a2] [] (ka_mem (kn_row (kn_row X (c + 6) (kn_up (X (c + 6)) 1 (X (b + 6) 1))) (c + 6 + 1) (kn_cp 50 (X (b + 6 + 1)) (X (c + 6 + 1))))) := by
  have hs := ka_st_sep hb hc h
  rw [x34_105]
  simp only [x34_0, x34_1, x34_2, x34_3, x34_4, x34_7, x34_8, x34_11, x34_12, x34_15, x34_16, x34_17, x34_18, x34_21, x34_22, x34_23, x34_26, x34_29, x34_32, x34_33, x34_34, x34_37, x34_40, x34_41, x34_42, x34_45, x34_48, x34_49, x34_50, x34_53, x34_56, x34_57, x34_58, x34_61, x34_64, x34_65, x34_66, x34_69, x34_72, x34_73, x34_74, x34_77, x34_80, x34_81, x34_84, x34_85, x34_86, x34_89, x34_90, x34_91, x34_94, x34_95, x34_98, x34_99, x34_102, x34_106, x34_109, x34_110, x34_113, x34_117, x34_120, x34_121, x34_122, x34_125, x34_126, x34_128, x34_131, x34_132, x34_133, x34_136, x34_139, x34_140, x34_143, x34_144, x34_145, x34_148, x34_149, x34_151, x34_154, x34_155, x34_156, x34_159, x34_162, x34_163, x34_164, x34_167, x34_170, ka_kk_i, ka_kk_n, ka_cl_i, ka_cl_r, ka_cl_n, or_true, true_or, ka_ne2, ka_ne4, ka_ne5, ka_ne10, not_false_eq_true, not_true_eq_false, if_true, if_false, hb, hc, ka_st_r9 hb, ka_st_r9 hc, ka_st_k6 hc, sp_52 (ka_st_k6 hc) (ka_st_k6 hb) (show ¬ b + 6 = c + 6 ∧ ¬ b + 6 + 1 = c + 6 ∧ ¬ b + 6 = c + 6 + 1 by omega)]
theorem s34e (hb : ka_k b = 4) (hc : ka_k c = 4) (h : ¬ b = c) {X : ka_X} {a2 : Value} : ka_ex sc (d + 2) 34 116 [.ref c, .ref b, a2] [] (ka_mem X) = ka_ex sc (d + 2) 34 139 [.ref c, .ref b, a2] [] (ka_mem (kn_row (kn_row X (c + 9) (kn_cp 50 (X (b + 9)) (X (c + 9)))) c (kn_up (X c) 11 (X b 11)))) := by
  have hs := ka_st_sep hb hc h
  have o1 : ∀ r, kn_row X (c + 9) r b = X b := fun r => kn_row_off (by omega)
  have o2 : ∀ r, kn_row X (c + 9) r c = X c := fun r => kn_row_off (by omega)
  have hin : ¬ (0 : Int32) < 0 ∧ ¬ (0 : Int32) < 0 ∧ ¬ (50 : Int32) < 0 ∧ (0 : Int32).toNatClampNeg + (50 : Int32).toNatClampNeg ≤ ka_ln (b + 9) ∧ (0 : Int32).toNatClampNeg + (50 : Int32).toNatClampNeg ≤ ka_ln (c + 9) := by
    rw [ka_st_l9 hb, ka_st_l9 hc]; decide
  rw [x34_116]
  simp only [x34_0, x34_1, x34_2, x34_3, x34_4, x34_7, x34_8, x34_11, x34_12, x34_15, x34_16, x34_17, x34_18, x34_21, x34_22, x34_23, x34_26, x34_29, x34_32, x34_33, x34_34, x34_37, x34_40, x34_41, x34_42, x34_45, x34_48, x34_49, x34_50, x34_53, x34_56, x34_57, x34_58, x34_61, x34_64, x34_65, x34_66, x34_69, x34_72, x34_73, x34_74, x34_77, x34_80, x34_81, x34_84, x34_85, x34_86, x34_89, x34_90, x34_91, x34_94, x34_95, x34_98, x34_99, x34_102, x34_105, x34_106, x34_109, x34_110, x34_113, x34_117, x34_120, x34_121, x34_122, x34_125, x34_126, x34_132, x34_133, x34_136, x34_140, x34_143, x34_144, x34_145, x34_148, x34_149, x34_151, x34_154, x34_155, x34_156, x34_159, x34_162, x34_163, x34_164, x34_167, x34_170, ka_kk_i, ka_kk_n, ka_cl_i, ka_cl_r, ka_cl_n, or_true, true_or, ka_ne2, ka_ne4, ka_ne5, ka_ne10, not_false_eq_true, not_true_eq_false, if_true, if_false, hb, hc, ka_st_r10 hb, ka_st_r10 hc]
  rw [x34_128 (ka_st_k9 hc) (ka_st_k9 hb) hin]
  simp only [x34_0, x34_1, x34_2, x34_3, x34_4, x34_7, x34_8, x34_11, x34_12, x34_15, x34_16, x34_17, x34_18, x34_21, x34_22, x34_23, x34_26, x34_29, x34_32, x34_33, x34_34, x34_37, x34_40, x34_41, x34_42, x34_45, x34_48, x34_49, x34_50, x34_53, x34_56, x34_57, x34_58, x34_61, x34_64, x34_65, x34_66, x34_69, x34_72, x34_73, x34_74, x34_77, x34_80, x34_81, x34_84, x34_85, x34_86, x34_89, x34_90, x34_91, x34_94, x34_95, x34_98, x34_99, x34_102, x34_105, x34_106, x34_109, x34_110, x34_113, x34_117, x34_120, x34_121, x34_122, x34_125, x34_126, x34_131, x34_132, x34_133, x34_136, x34_140, x34_143, x34_144, x34_145, x34_148, x34_149, x34_151, x34_154, x34_155, x34_156, x34_159, x34_162, x34_163, x34_164, x34_167, x34_170, ka_kk_i, ka_kk_n, ka_cl_i, ka_cl_r, ka_cl_n, or_true, true_or, ka_ne2, ka_ne4, ka_ne5, ka_ne10, not_false_eq_true, not_true_eq_false, if_true, if_false, ka_c_0, ka_c_1, ka_c_2, ka_c_3, ka_c_4, ka_c_5, ka_c_6, ka_c_7, ka_c_8, ka_c_9, ka_c_10, ka_c_11, ka_c_12, ka_c_13, ka_c_14, ka_c_15, ka_c_16, ka_c_17, ka_c_18, ka_c_19, ka_c_20, ka_c_28, ka_c_40, ka_c_50, ka_c_87, hb, hc, kn_cpy, kn_row_def, kn_put_r, o1, o2]
theorem s34f (hb : ka_k b = 4) (hc : ka_k c = 4) (h : ¬ b = c) {X : ka_X} {a2 : Value} : ka_ex sc (d + 2) 34 139 [.ref c, .ref b, a2] [] (ka_mem X) = some (none, ka_mem (kn_row (kn_row X (c + 10) (kn_cp 20 (X (b + 10)) (X (c + 10)))) c (kn_up (kn_up (X c) 13 (X b 13)) 14 (X b 14)))) := by
  have hs := ka_st_sep hb hc h
  have o1 : ∀ r, kn_row X (c + 10) r b = X b := fun r => kn_row_off (by omega)
  have o2 : ∀ r, kn_row X (c + 10) r c = X c := fun r => kn_row_off (by omega)
  have o3 : ∀ (Z : ka_X) r, kn_row Z c r b = Z b := fun Z r => kn_row_off h
  have hin : ¬ (0 : Int32) < 0 ∧ ¬ (0 : Int32) < 0 ∧ ¬ (20 : Int32) < 0 ∧ (0 : Int32).toNatClampNeg + (20 : Int32).toNatClampNeg ≤ ka_ln (b + 10) ∧ (0 : Int32).toNatClampNeg + (20 : Int32).toNatClampNeg ≤ ka_ln (c + 10) := by
    rw [ka_st_l10 hb, ka_st_l10 hc]; decide
  rw [x34_139]
  simp only [x34_0, x34_1, x34_2, x34_3, x34_4, x34_7, x34_8, x34_11, x34_12, x34_15, x34_16, x34_17, x34_18, x34_21, x34_22, x34_23, x34_26, x34_29, x34_32, x34_33, x34_34, x34_37, x34_40, x34_41, x34_42, x34_45, x34_48, x34_49, x34_50, x34_53, x34_56, x34_57, x34_58, x34_61, x34_64, x34_65, x34_66, x34_69, x34_72, x34_73, x34_74, x34_77, x34_80, x34_81, x34_84, x34_85, x34_86, x34_89, x34_90, x34_91, x34_94, x34_95, x34_98, x34_99, x34_102, x34_105, x34_106, x34_109, x34_110, x34_113, x34_116, x34_117, x34_120, x34_121, x34_122, x34_125, x34_126, x34_128, x34_131, x34_132, x34_133, x34_136, x34_140, x34_143, x34_144, x34_145, x34_148, x34_149, x34_155, x34_156, x34_159, x34_162, x34_163, x34_164, x34_167, x34_170, ka_kk_i, ka_kk_n, ka_cl_i, ka_cl_r, ka_cl_n, or_true, true_or, ka_ne2, ka_ne4, ka_ne5, ka_ne10, not_false_eq_true, not_true_eq_false, if_true, if_false, hb, hc, ka_st_r12 hb, ka_st_r12 hc]
  rw [x34_151 (ka_st_k10 hc) (ka_st_k10 hb) hin]
  simp only [x34_0, x34_1, x34_2, x34_3, x34_4, x34_7, x34_8, x34_11, x34_12, x34_15, x34_16, x34_17, x34_18, x34_21, x34_22, x34_23, x34_26, x34_29, x34_32, x34_33, x34_34, x34_37, x34_40, x34_41, x34_42, x34_45, x34_48, x34_49, x34_50, x34_53, x34_56, x34_57, x34_58, x34_61, x34_64, x34_65, x34_66, x34_69, x34_72, x34_73, x34_74, x34_77, x34_80, x34_81, x34_84, x34_85, x34_86, x34_89, x34_90, x34_91, x34_94, x34_95, x34_98, x34_99, x34_102, x34_105, x34_106, x34_109, x34_110, x34_113, x34_116, x34_117, x34_120, x34_121, x34_122, x34_125, x34_126, x34_128, x34_131, x34_132, x34_133, x34_136, x34_140, x34_143, x34_144, x34_145, x34_148, x34_149, x34_154, x34_155, x34_156, x34_159, x34_162, x34_163, x34_164, x34_167, x34_170, ka_kk_i, ka_kk_n, ka_cl_i, ka_cl_r, ka_cl_n, or_true, true_or, ka_ne2, ka_ne4, ka_ne5, ka_ne10, not_false_eq_true, not_true_eq_false, if_true, if_false, ka_c_0, ka_c_1, ka_c_2, ka_c_3, ka_c_4, ka_c_5, ka_c_6, ka_c_7, ka_c_8, ka_c_9, ka_c_10, ka_c_11, ka_c_12, ka_c_13, ka_c_14, ka_c_15, ka_c_16, ka_c_17, ka_c_18, ka_c_19, ka_c_20, ka_c_28, ka_c_40, ka_c_50, ka_c_87, hb, hc, kn_cpy, kn_row_def, kn_put_r, o1, o2, o3, kn_row_at, kn_row_row]
theorem copy_rl (hb : ka_k b = 4) (hc : ka_k c = 4) (h : ¬ b = c) {X : ka_X} {D : Nat → Int32} (hr : rl b X D) (hD : dk D) : ∃ Y, ka_ex sc (d + 2) 34 0 [.ref c, .ref b, ka_nv] [] (ka_mem X) = some (none, ka_mem Y) ∧ rl c Y D ∧ ∀ p, (p < c ∨ c + 20 ≤ p) → Y p = X p := by
  have hs := ka_st_sep hb hc h
  obtain ⟨M, hM, m1, m2⟩ := @s34a sc d b c hb hc h 8 0 0 X rfl rfl
  obtain ⟨h1, h2, h3, h4, h5, h6, h7⟩ := hr
  generalize e1 : kn_row (kn_row M c (kn_up (kn_up (kn_up (kn_up (kn_up (kn_up (M c) 1 (M b 1)) 2 (M b 2)) 3 (M b 3)) 4 (M b 4)) 5 (M b 5)) 6 (M b 6))) (c + 2) (kn_cp 4 (M (b + 2)) (M (c + 2))) = M1
  generalize e2 : kn_row (kn_row M1 (c + 3) (kn_up (M1 (c + 3)) 1 (M1 (b + 3) 1))) (c + 3 + 1) (kn_cp 50 (M1 (b + 3 + 1)) (M1 (c + 3 + 1))) = M2
  generalize e3 : kn_row (kn_row M2 (c + 6) (kn_up (M2 (c + 6)) 1 (M2 (b + 6) 1))) (c + 6 + 1) (kn_cp 50 (M2 (b + 6 + 1)) (M2 (c + 6 + 1))) = M3
  generalize e4 : kn_row (kn_row M3 (c + 9) (kn_cp 50 (M3 (b + 9)) (M3 (c + 9)))) c (kn_up (M3 c) 11 (M3 b 11)) = M4
  generalize e5 : kn_row (kn_row M4 (c + 10) (kn_cp 20 (M4 (b + 10)) (M4 (c + 10)))) c (kn_up (kn_up (M4 c) 13 (M4 b 13)) 14 (M4 b 14)) = M5
  have f1 : ∀ p, ¬ p = c → ¬ p = c + 2 → M1 p = M p := by intro p q1 q2; rw [← e1, kn_row_off q2, kn_row_off q1]
  have f2 : ∀ p, ¬ p = c + 3 → ¬ p = c + 4 → M2 p = M1 p := by intro p q1 q2; rw [← e2, kn_row_off (by omega), kn_row_off q1]
  have f3 : ∀ p, ¬ p = c + 6 → ¬ p = c + 7 → M3 p = M2 p := by intro p q1 q2; rw [← e3, kn_row_off (by omega), kn_row_off q1]
  have f4 : ∀ p, ¬ p = c + 9 → ¬ p = c → M4 p = M3 p := by intro p q1 q2; rw [← e4, kn_row_off q2, kn_row_off q1]
  have f5 : ∀ p, ¬ p = c + 10 → ¬ p = c → M5 p = M4 p := by intro p q1 q2; rw [← e5, kn_row_off q2, kn_row_off q1]
  have b5 : ∀ p, (p < c ∨ c + 20 ≤ p) → M p = X p := fun p hp => m2 p (by omega)
  have g1 : ∀ p, (p < c ∨ c + 20 ≤ p) → M1 p = X p := fun p hp => (f1 p (by omega) (by omega)).trans (b5 p hp)
  have g2 : ∀ p, (p < c ∨ c + 20 ≤ p) → M2 p = X p := fun p hp => (f2 p (by omega) (by omega)).trans (g1 p hp)
  have g3 : ∀ p, (p < c ∨ c + 20 ≤ p) → M3 p = X p := fun p hp => (f3 p (by omega) (by omega)).trans (g2 p hp)
  have g4 : ∀ p, (p < c ∨ c + 20 ≤ p) → M4 p = X p := fun p hp => (f4 p (by omega) (by omega)).trans (g3 p hp)
  have g5 : ∀ p, (p < c ∨ c + 20 ≤ p) → M5 p = X p := fun p hp => (f5 p (by omega) (by omega)).trans (g4 p hp)
  refine ⟨M5, ?_, ?_, g5⟩
  · rw [x34_0, x34_1]
    simp only [ka_kk_i, ka_kk_n, ka_cl_i, ka_cl_r, ka_cl_n, or_true, true_or, ka_ne2, ka_ne4, ka_ne5, ka_ne10, not_false_eq_true, not_true_eq_false, if_true, if_false]
    rw [hM, s34b hb hc h, e1, s34c hb hc h, e2, s34d hb hc h, e3, s34e hb hc h, e4, s34f hb hc h, e5]
  · have k5 : M5 c = kn_up (kn_up (M4 c) 13 (M4 b 13)) 14 (M4 b 14) := by rw [← e5, kn_row_at]
    have k4 : M4 c = kn_up (M3 c) 11 (M3 b 11) := by rw [← e4, kn_row_at]
    have k3 : M3 c = M1 c := (f3 c (by omega) (by omega)).trans (f2 c (by omega) (by omega))
    have k1 : M1 c = kn_up (kn_up (kn_up (kn_up (kn_up (kn_up (M c) 1 (M b 1)) 2 (M b 2)) 3 (M b 3)) 4 (M b 4)) 5 (M b 5)) 6 (M b 6) := by rw [← e1, kn_row_off (by omega), kn_row_at]
    have t3 : M5 (c + 3) = kn_up (M1 (c + 3)) 1 (M1 (b + 3) 1) := by rw [f5 _ (by omega) (by omega), f4 _ (by omega) (by omega), f3 _ (by omega) (by omega), ← e2, kn_row_off (by omega), kn_row_at]
    have t4 : M5 (c + 3 + 1) = kn_cp 50 (M1 (b + 3 + 1)) (M1 (c + 3 + 1)) := by rw [f5 _ (by omega) (by omega), f4 _ (by omega) (by omega), f3 _ (by omega) (by omega), ← e2, kn_row_at]
    have t6 : M5 (c + 6) = kn_up (M2 (c + 6)) 1 (M2 (b + 6) 1) := by rw [f5 _ (by omega) (by omega), f4 _ (by omega) (by omega), ← e3, kn_row_off (by omega), kn_row_at]
    have t7 : M5 (c + 6 + 1) = kn_cp 50 (M2 (b + 6 + 1)) (M2 (c + 6 + 1)) := by rw [f5 _ (by omega) (by omega), f4 _ (by omega) (by omega), ← e3, kn_row_at]
    have t2 : M5 (c + 2) = kn_cp 4 (M (b + 2)) (M (c + 2)) := by rw [f5 _ (by omega) (by omega), f4 _ (by omega) (by omega), f3 _ (by omega) (by omega), f2 _ (by omega) (by omega), ← e1, kn_row_at]
    have t9 : M5 (c + 9) = kn_cp 50 (M3 (b + 9)) (M3 (c + 9)) := by rw [f5 _ (by omega) (by omega), ← e4, kn_row_off (by omega), kn_row_at]
    have t10 : M5 (c + 10) = kn_cp 20 (M4 (b + 10)) (M4 (c + 10)) := by rw [← e5, kn_row_off (by omega), kn_row_at]
    have tk : ∀ j, j < 8 → M5 (c + 12 + j) = X (b + 12 + j) := by
      intro j hj
      rw [f5 _ (by omega) (by omega), f4 _ (by omega) (by omega), f3 _ (by omega) (by omega), f2 _ (by omega) (by omega), f1 _ (by omega) (by omega), m1 j (by omega) hj]
    have z11 := hD.2.2.2.2.2.2.2.1.2
    have z12 := hD.2.2.2.2.2.2.2.2.1.2
    have z85 := hD.2.2.2.2.2.2.2.2.2.1.2.1
    have z86 := hD.2.2.2.2.2.2.2.2.2.2.2.1
    have z9 := hD.1.2
    refine ⟨?_, ?_, ?_, ⟨?_, ?_⟩, ⟨?_, ?_⟩, ?_, ?_⟩
    · unfold rl_s at h1 ⊢
      rw [k5, k4, k3, k1, g4 b (by omega), g3 b (by omega), b5 b (by omega)]
      simp only [kn_up_at, kn_up_ne, Nat.reduceEqDiff, reduceCtorEq, not_false_eq_true]
      exact h1
    · intro j hj
      rw [t2]
      unfold kn_cp
      rw [if_pos hj, b5 _ (by omega)]
      exact h2 j hj
    · intro k hk f hf
      rw [tk k (by omega)]
      exact h3 k hk f hf
    · rw [t3, kn_up_at, g1 _ (by omega)]
      exact h4.1
    · intro j hj
      rw [t4]
      unfold kn_cp
      rw [if_pos (by omega), g1 _ (by omega)]
      exact h4.2 j hj
    · rw [t6, kn_up_at, g2 _ (by omega)]
      exact h5.1
    · intro j hj
      rw [t7]
      unfold kn_cp
      rw [if_pos (by omega), g2 _ (by omega)]
      exact h5.2 j hj
    · intro j hj
      rw [t9]
      unfold kn_cp
      rw [if_pos (by omega), g3 _ (by omega)]
      exact h6 j hj
    · intro j hj
      rw [t10]
      unfold kn_cp
      rw [if_pos (by omega), g4 _ (by omega)]
      exact h7 j hj
end
