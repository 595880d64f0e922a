/-! a voice: the model's bodies -/
def wm (X : ka_X) (Q : Nat → Int32) (n : Nat) (r : Nat → Int32) : ka_X := kn_row (kn_row X 96 r) 87 (kn_up Q 17 (nI n))
section
variable {sc : aS} {d : Nat} {X : ka_X} {Q : Nat → Int32} {M W : Int32}
theorem wm_87 {r : Nat → Int32} {n j : Nat} (h : ¬ j = 17) : wm X Q n r 87 j = Q j := by
  unfold wm
  rw [kn_row_at, kn_up_ne h]
theorem wm_88 {r : Nat → Int32} {n : Nat} : wm X Q n r 88 = X 88 := by
  unfold wm
  rw [kn_row_off (by decide), kn_row_off (by decide)]
theorem sp_183w {n : Nat} {r : Nat → Int32} {v : Int32} (hn : n < 40) : ka_ex sc d 183 0 [.ref 87, .int v] [] (ka_mem (wm X Q n r)) = some (none, ka_mem (wm X Q (n + 1) (kn_up r n v))) := by
  have e1 : wm X Q n r 87 17 = nI n := by unfold wm; rw [kn_row_at, kn_up_at]
  have h1 : nI n < 40 := by rw [ka_ilt, ka_nIt (by omega)]; simp only [ka_t_0, ka_t_1, ka_t_2, ka_t_3, ka_t_4, ka_t_5, ka_t_6, ka_t_7, ka_t_8, ka_t_9, ka_t_10, ka_t_11, ka_t_12, ka_t_13, ka_t_14, ka_t_15, ka_t_16, ka_t_17, ka_t_18, ka_t_19, ka_t_20, ka_t_25, ka_t_26, ka_t_28, ka_t_30, ka_t_31, ka_t_32, ka_t_33, ka_t_37, ka_t_38, ka_t_39, ka_t_40, ka_t_41, ka_t_42, ka_t_43, ka_t_45, ka_t_47, ka_t_48, ka_t_50, ka_t_57, ka_t_60, ka_t_61, ka_t_62, ka_t_63, ka_t_64, ka_t_65, ka_t_69, ka_t_70, ka_t_71, ka_t_80, ka_t_85, ka_t_87, ka_t_98, ka_t_99, ka_t_100, ka_t_104, ka_t_107, ka_t_109, ka_t_110, ka_t_112, ka_t_115, ka_t_116, ka_t_117, ka_t_124, ka_t_125, ka_t_160, ka_t_200, ka_t_207, ka_t_255, ka_t_260, ka_t_400, ka_t_624, ka_t_625, ka_t_999, ka_t_9999, ka_t_10000, ka_t_20000, ka_t_20033, ka_t_999999, ka_t_1000000000, ka_t_m1, ka_t_m2, ka_t_m3, ka_t_m5, ka_t_m9, ka_t_m10, ka_t_m1000000000]; omega
  have i1 : ka_in (nI n) 40 := ka_inI.mpr (by rw [ka_nIt (by omega)]; omega)
  have c1 : (nI n).toNatClampNeg = n := ka_nIc (by omega)
  have n1 : nI n + 1 = nI (n + 1) := ka_eq_lit (by rw [ka_add (by rw [ka_nIt (by omega)]; simp only [ka_t_0, ka_t_1, ka_t_2, ka_t_3, ka_t_4, ka_t_5, ka_t_6, ka_t_7, ka_t_8, ka_t_9, ka_t_10, ka_t_11, ka_t_12, ka_t_13, ka_t_14, ka_t_15, ka_t_16, ka_t_17, ka_t_18, ka_t_19, ka_t_20, ka_t_25, ka_t_26, ka_t_28, ka_t_30, ka_t_31, ka_t_32, ka_t_33, ka_t_37, ka_t_38, ka_t_39, ka_t_40, ka_t_41, ka_t_42, ka_t_43, ka_t_45, ka_t_47, ka_t_48, ka_t_50, ka_t_57, ka_t_60, ka_t_61, ka_t_62, ka_t_63, ka_t_64, ka_t_65, ka_t_69, ka_t_70, ka_t_71, ka_t_80, ka_t_85, ka_t_87, ka_t_98, ka_t_99, ka_t_100, ka_t_104, ka_t_107, ka_t_109, ka_t_110, ka_t_112, ka_t_115, ka_t_116, ka_t_117, ka_t_124, ka_t_125, ka_t_160, ka_t_200, ka_t_207, ka_t_255, ka_t_260, ka_t_400, ka_t_624, ka_t_625, ka_t_999, ka_t_9999, ka_t_10000, ka_t_20000, ka_t_20033, ka_t_999999, ka_t_1000000000, ka_t_m1, ka_t_m2, ka_t_m3, ka_t_m5, ka_t_m9, ka_t_m10, ka_t_m1000000000]; omega), ka_nIt (by omega), ka_nIt (by omega)]; simp only [ka_t_0, ka_t_1, ka_t_2, ka_t_3, ka_t_4, ka_t_5, ka_t_6, ka_t_7, ka_t_8, ka_t_9, ka_t_10, ka_t_11, ka_t_12, ka_t_13, ka_t_14, ka_t_15, ka_t_16, ka_t_17, ka_t_18, ka_t_19, ka_t_20, ka_t_25, ka_t_26, ka_t_28, ka_t_30, ka_t_31, ka_t_32, ka_t_33, ka_t_37, ka_t_38, ka_t_39, ka_t_40, ka_t_41, ka_t_42, ka_t_43, ka_t_45, ka_t_47, ka_t_48, ka_t_50, ka_t_57, ka_t_60, ka_t_61, ka_t_62, ka_t_63, ka_t_64, ka_t_65, ka_t_69, ka_t_70, ka_t_71, ka_t_80, ka_t_85, ka_t_87, ka_t_98, ka_t_99, ka_t_100, ka_t_104, ka_t_107, ka_t_109, ka_t_110, ka_t_112, ka_t_115, ka_t_116, ka_t_117, ka_t_124, ka_t_125, ka_t_160, ka_t_200, ka_t_207, ka_t_255, ka_t_260, ka_t_400, ka_t_624, ka_t_625, ka_t_999, ka_t_9999, ka_t_10000, ka_t_20000, ka_t_20033, ka_t_999999, ka_t_1000000000, ka_t_m1, ka_t_m2, ka_t_m3, ka_t_m5, ka_t_m9, ka_t_m10, ka_t_m1000000000]; omega)
  have o1 : ∀ q, kn_row (wm X Q n r) 96 q 87 = kn_up Q 17 (nI n) := by intro q; rw [kn_row_off (by decide)]; unfold wm; rw [kn_row_at]
  have o2 : wm X Q n r 96 = r := by unfold wm; rw [kn_row_off (by decide), kn_row_at]
  simp only [x183_0, x183_1, x183_4, x183_6, x183_9, x183_10, x183_13, x183_14, x183_17, x183_18, x183_19, x183_20, x183_21, x183_24, x183_25, x183_26, x183_29, ka_kk_i, ka_kk_n, ka_cl_i, ka_cl_r, ka_cl_n, or_true, true_or, ka_ne2, ka_ne4, ka_ne5, ka_ne10, not_false_eq_true, not_true_eq_false, if_true, if_false, ka_k_0, ka_k_1, ka_k_2, ka_k_3, ka_k_4, ka_k_5, ka_k_6, ka_k_7, ka_k_8, ka_k_9, ka_k_10, ka_k_11, ka_k_12, ka_k_13, ka_k_14, ka_k_15, ka_k_16, ka_k_17, ka_k_18, ka_k_19, ka_k_20, ka_k_21, ka_k_22, ka_k_23, ka_k_24, ka_k_25, ka_k_26, ka_k_27, ka_k_28, ka_k_29, ka_k_30, ka_k_31, ka_k_32, ka_k_33, ka_k_34, ka_k_35, ka_k_36, ka_k_37, ka_k_38, ka_k_39, ka_k_40, ka_k_41, ka_k_42, ka_k_43, ka_k_44, ka_k_45, ka_k_46, ka_k_47, ka_k_48, ka_k_49, ka_k_50, ka_k_51, ka_k_52, ka_k_53, ka_k_54, ka_k_55, ka_k_56, ka_k_57, ka_k_58, ka_k_59, ka_k_60, ka_k_61, ka_k_62, ka_k_63, ka_k_64, ka_k_65, ka_k_66, ka_k_67, ka_k_68, ka_k_69, ka_k_70, ka_k_71, ka_k_72, ka_k_73, ka_k_74, ka_k_75, ka_k_76, ka_k_77, ka_k_78, ka_k_79, ka_k_80, ka_k_81, ka_k_82, ka_k_83, ka_k_84, ka_k_85, ka_k_86, ka_k_87, ka_k_88, ka_k_89, ka_k_90, ka_k_91, ka_k_92, ka_k_93, ka_k_94, ka_k_95, ka_k_96, ka_k_97, ka_k_98, ka_k_99, ka_k_100, ka_rf_0_0, ka_rf_0_1, ka_rf_0_2, ka_rf_0_4, ka_rf_0_5, ka_rf_0_6, ka_rf_0_7, ka_rf_0_8, ka_rf_0_9, ka_rf_61_0, ka_rf_61_2, ka_rf_67_0, ka_rf_67_1, ka_rf_67_2, ka_rf_75_0, ka_rf_87_0, ka_rf_87_1, ka_rf_87_2, ka_rf_87_4, ka_rf_87_11, ka_rf_87_12, ka_rf_87_14, ka_rf_87_15, ka_rf_87_16, ka_rf_87_19, ka_rf_87_20, ka_rf_87_21, ka_rf_87_22, ka_ln_63, ka_ln_64, ka_ln_65, ka_ln_68, ka_ln_69, ka_ln_70, ka_ln_76, ka_ln_77, ka_ln_78, ka_ln_80, ka_ln_82, ka_ln_84, ka_ln_86, ka_ln_88, ka_ln_89, ka_ln_90, ka_ln_91, ka_ln_92, ka_ln_93, ka_ln_94, ka_ln_95, ka_ln_96, ka_ln_97, ka_ln_98, ka_ln_99, ka_ln_100, e1, h1, i1, c1, kn_put_r, o1, o2, kn_up_at, n1, kn_up_up]
  unfold wm
  refine ka_some (congrArg ka_mem (funext fun p => ?_))
  by_cases a : p = 87
  · subst a; rw [kn_row_at, kn_row_at]
  · by_cases b : p = 96
    · subst b; rw [kn_row_off a, kn_row_at, kn_row_off a, kn_row_at]
    · rw [kn_row_off a, kn_row_off b, kn_row_off a, kn_row_off b, kn_row_off a, kn_row_off b]
theorem sp_184w {K : Int32} {n : Nat} {r : Nat → Int32} (hW : Q 18 = W) (h8 : 0 ≤ W.toInt ∧ W.toInt < 8) (k0 : X 88 (13 + 9 * W.toNatClampNeg + 0) = K) : ka_ex sc (d + 1) 184 0 [.ref 87] [] (ka_mem (wm X Q n r)) = some (some (.int K), ka_mem (wm X Q n r)) := by
  rw [sp_184 ((wm_87 (by decide)).trans hW) h8, wm_88, k0]
theorem wb_0_cut_0 {n : Nat} {r : Nat → Int32} {x : Int32} (hW : Q 18 = W) (h8 : 0 ≤ W.toInt ∧ W.toInt < 8) (k0 : X 88 (13 + 9 * W.toNatClampNeg + 0) = 0) (k1 : X 88 (13 + 9 * W.toNatClampNeg + 1) = M) (hn : n + 1 ≤ 40) : ka_ex sc (d + 1) 185 0 [.ref 87, .int 0, .int x] [] (ka_mem (wm X Q n r)) = some (some (.int (x + W)), ka_mem (wm X Q (n + 1) (kn_up r (n) 10))) := by
  have q0 : ((0 : Int32) = 0) = True := by decide
  have q1 : ((0 : Int32) = 1) = False := by decide
  have q2 : ((0 : Int32) = 2) = False := by decide
  have q3 : ((0 : Int32) = 3) = False := by decide
  have q4 : ((0 : Int32) = 4) = False := by decide
  have q5 : ((0 : Int32) = 5) = False := by decide
  have q6 : ((0 : Int32) = 6) = False := by decide
  have w1 : 0 ≤ (1 : Int32).toInt ∧ (1 : Int32).toInt < 9 := by decide
  have m18 : ∀ n r, wm X Q n r 87 18 = W := fun n r => (wm_87 (by decide)).trans hW
  have a0 : (if (0 : Int32) < 4 then (0 : Int32) else 0 - 3) = 0 := by decide
  have a1 : (if (1 : Int32) < 4 then (0 : Int32) else 1 - 3) = 0 := by decide
  have a2 : (if (2 : Int32) < 4 then (0 : Int32) else 2 - 3) = 0 := by decide
  have a3 : (if (3 : Int32) < 4 then (0 : Int32) else 3 - 3) = 0 := by decide
  have a4 : (if (4 : Int32) < 4 then (0 : Int32) else 4 - 3) = 1 := by decide
  have a5 : (if (5 : Int32) < 4 then (0 : Int32) else 5 - 3) = 2 := by decide
  have a6 : (if (6 : Int32) < 4 then (0 : Int32) else 6 - 3) = 3 := by decide
  simp only [x185_0, x185_1, x185_28, x185_29, x185_31, x185_34, x185_35, x185_36, x185_39, x185_40, x185_41, x185_42, x185_44, x185_47, x185_48, x185_49, x185_52, x185_53, x185_56, x185_57, x185_58, x185_59, x185_60, x185_61, x185_64, x185_65, x185_68, ka_kk_i, ka_kk_n, ka_cl_i, ka_cl_r, ka_cl_n, or_true, true_or, ka_ne2, ka_ne4, ka_ne5, ka_ne10, not_false_eq_true, not_true_eq_false, if_true, if_false, ka_k_0, ka_k_1, ka_k_2, ka_k_3, ka_k_4, ka_k_5, ka_k_6, ka_k_7, ka_k_8, ka_k_9, ka_k_10, ka_k_11, ka_k_12, ka_k_13, ka_k_14, ka_k_15, ka_k_16, ka_k_17, ka_k_18, ka_k_19, ka_k_20, ka_k_21, ka_k_22, ka_k_23, ka_k_24, ka_k_25, ka_k_26, ka_k_27, ka_k_28, ka_k_29, ka_k_30, ka_k_31, ka_k_32, ka_k_33, ka_k_34, ka_k_35, ka_k_36, ka_k_37, ka_k_38, ka_k_39, ka_k_40, ka_k_41, ka_k_42, ka_k_43, ka_k_44, ka_k_45, ka_k_46, ka_k_47, ka_k_48, ka_k_49, ka_k_50, ka_k_51, ka_k_52, ka_k_53, ka_k_54, ka_k_55, ka_k_56, ka_k_57, ka_k_58, ka_k_59, ka_k_60, ka_k_61, ka_k_62, ka_k_63, ka_k_64, ka_k_65, ka_k_66, ka_k_67, ka_k_68, ka_k_69, ka_k_70, ka_k_71, ka_k_72, ka_k_73, ka_k_74, ka_k_75, ka_k_76, ka_k_77, ka_k_78, ka_k_79, ka_k_80, ka_k_81, ka_k_82, ka_k_83, ka_k_84, ka_k_85, ka_k_86, ka_k_87, ka_k_88, ka_k_89, ka_k_90, ka_k_91, ka_k_92, ka_k_93, ka_k_94, ka_k_95, ka_k_96, ka_k_97, ka_k_98, ka_k_99, ka_k_100, q0, q1, q2, q3, q4, q5, q6, sp_155, a0, a1, a2, a3, a4, a5, a6, m18, sp_122 h8 w1, ka_c_0, ka_c_1, ka_c_2, ka_c_3, ka_c_4, ka_c_5, ka_c_6, ka_c_7, ka_c_8, ka_c_9, ka_c_10, ka_c_11, ka_c_12, ka_c_13, ka_c_14, ka_c_15, ka_c_16, ka_c_17, ka_c_18, ka_c_19, ka_c_20, ka_c_28, ka_c_40, ka_c_50, ka_c_87, wm_88, k1, sp_183w (show n < 40 by omega)]
theorem wb_0_rings_0 {n : Nat} {r : Nat → Int32} {x : Int32} (hW : Q 18 = W) (h8 : 0 ≤ W.toInt ∧ W.toInt < 8) (k0 : X 88 (13 + 9 * W.toNatClampNeg + 0) = 0) (k1 : X 88 (13 + 9 * W.toNatClampNeg + 1) = M) (hn : n + 2 ≤ 40) : ka_ex sc (d + 2) 186 0 [.ref 87, .int 0, .int x, ka_nv] [] (ka_mem (wm X Q n r)) = some (some (.int ((x + W) * 2)), ka_mem (wm X Q (n + 1 + 1) (kn_up (kn_up r (n) 11) (n + 1) 10))) := by
  have q0 : ((0 : Int32) = 0) = True := by decide
  have q1 : ((0 : Int32) = 1) = False := by decide
  have q2 : ((0 : Int32) = 2) = False := by decide
  have q3 : ((0 : Int32) = 3) = False := by decide
  have q4 : ((0 : Int32) = 4) = False := by decide
  have q5 : ((0 : Int32) = 5) = False := by decide
  have q6 : ((0 : Int32) = 6) = False := by decide
  have w1 : 0 ≤ (1 : Int32).toInt ∧ (1 : Int32).toInt < 9 := by decide
  have m18 : ∀ n r, wm X Q n r 87 18 = W := fun n r => (wm_87 (by decide)).trans hW
  have a0 : (if (0 : Int32) < 4 then (0 : Int32) else 0 - 3) = 0 := by decide
  have a1 : (if (1 : Int32) < 4 then (0 : Int32) else 1 - 3) = 0 := by decide
  have a2 : (if (2 : Int32) < 4 then (0 : Int32) else 2 - 3) = 0 := by decide
  have a3 : (if (3 : Int32) < 4 then (0 : Int32) else 3 - 3) = 0 := by decide
  have a4 : (if (4 : Int32) < 4 then (0 : Int32) else 4 - 3) = 1 := by decide
  have a5 : (if (5 : Int32) < 4 then (0 : Int32) else 5 - 3) = 2 := by decide
  have a6 : (if (6 : Int32) < 4 then (0 : Int32) else 6 - 3) = 3 := by decide
  simp only [x186_0, x186_1, x186_36, x186_37, x186_39, x186_42, x186_43, x186_44, x186_47, x186_48, x186_51, x186_52, x186_53, x186_54, x186_55, x186_57, x186_60, x186_61, x186_62, x186_65, x186_66, x186_69, x186_70, x186_71, x186_72, x186_73, x186_76, x186_77, x186_80, x186_81, x186_82, x186_83, x186_85, x186_88, x186_89, x186_90, x186_93, x186_94, x186_95, x186_96, x186_99, x186_100, x186_101, x186_102, x186_105, x186_106, x186_109, ka_kk_i, ka_kk_n, ka_cl_i, ka_cl_r, ka_cl_n, or_true, true_or, ka_ne2, ka_ne4, ka_ne5, ka_ne10, not_false_eq_true, not_true_eq_false, if_true, if_false, ka_k_0, ka_k_1, ka_k_2, ka_k_3, ka_k_4, ka_k_5, ka_k_6, ka_k_7, ka_k_8, ka_k_9, ka_k_10, ka_k_11, ka_k_12, ka_k_13, ka_k_14, ka_k_15, ka_k_16, ka_k_17, ka_k_18, ka_k_19, ka_k_20, ka_k_21, ka_k_22, ka_k_23, ka_k_24, ka_k_25, ka_k_26, ka_k_27, ka_k_28, ka_k_29, ka_k_30, ka_k_31, ka_k_32, ka_k_33, ka_k_34, ka_k_35, ka_k_36, ka_k_37, ka_k_38, ka_k_39, ka_k_40, ka_k_41, ka_k_42, ka_k_43, ka_k_44, ka_k_45, ka_k_46, ka_k_47, ka_k_48, ka_k_49, ka_k_50, ka_k_51, ka_k_52, ka_k_53, ka_k_54, ka_k_55, ka_k_56, ka_k_57, ka_k_58, ka_k_59, ka_k_60, ka_k_61, ka_k_62, ka_k_63, ka_k_64, ka_k_65, ka_k_66, ka_k_67, ka_k_68, ka_k_69, ka_k_70, ka_k_71, ka_k_72, ka_k_73, ka_k_74, ka_k_75, ka_k_76, ka_k_77, ka_k_78, ka_k_79, ka_k_80, ka_k_81, ka_k_82, ka_k_83, ka_k_84, ka_k_85, ka_k_86, ka_k_87, ka_k_88, ka_k_89, ka_k_90, ka_k_91, ka_k_92, ka_k_93, ka_k_94, ka_k_95, ka_k_96, ka_k_97, ka_k_98, ka_k_99, ka_k_100, q0, q1, q2, q3, q4, q5, q6, sp_155, a0, a1, a2, a3, a4, a5, a6, m18, sp_122 h8 w1, ka_c_0, ka_c_1, ka_c_2, ka_c_3, ka_c_4, ka_c_5, ka_c_6, ka_c_7, ka_c_8, ka_c_9, ka_c_10, ka_c_11, ka_c_12, ka_c_13, ka_c_14, ka_c_15, ka_c_16, ka_c_17, ka_c_18, ka_c_19, ka_c_20, ka_c_28, ka_c_40, ka_c_50, ka_c_87, wm_88, k1, sp_183w (show n < 40 by omega), sp_184w hW h8 k0, @wb_0_cut_0 sc (d) X Q M W (n + 1) (kn_up r (n) 11) x hW h8 k0 k1 (by omega)]
theorem wb_0_grind_0 {n : Nat} {r : Nat → Int32} {x : Int32} (hW : Q 18 = W) (h8 : 0 ≤ W.toInt ∧ W.toInt < 8) (k0 : X 88 (13 + 9 * W.toNatClampNeg + 0) = 0) (k1 : X 88 (13 + 9 * W.toNatClampNeg + 1) = M) (hn : n + 1 ≤ 40) : ka_ex sc (d + 1) 187 0 [.ref 87, .int 0, .int x] [] (ka_mem (wm X Q n r)) = some (some (.int (x - M)), ka_mem (wm X Q (n + 1) (kn_up r (n) 12))) := by
  have q0 : ((0 : Int32) = 0) = True := by decide
  have q1 : ((0 : Int32) = 1) = False := by decide
  have q2 : ((0 : Int32) = 2) = False := by decide
  have q3 : ((0 : Int32) = 3) = False := by decide
  have q4 : ((0 : Int32) = 4) = False := by decide
  have q5 : ((0 : Int32) = 5) = False := by decide
  have q6 : ((0 : Int32) = 6) = False := by decide
  have w1 : 0 ≤ (1 : Int32).toInt ∧ (1 : Int32).toInt < 9 := by decide
  have m18 : ∀ n r, wm X Q n r 87 18 = W := fun n r => (wm_87 (by decide)).trans hW
  have a0 : (if (0 : Int32) < 4 then (0 : Int32) else 0 - 3) = 0 := by decide
  have a1 : (if (1 : Int32) < 4 then (0 : Int32) else 1 - 3) = 0 := by decide
  have a2 : (if (2 : Int32) < 4 then (0 : Int32) else 2 - 3) = 0 := by decide
  have a3 : (if (3 : Int32) < 4 then (0 : Int32) else 3 - 3) = 0 := by decide
  have a4 : (if (4 : Int32) < 4 then (0 : Int32) else 4 - 3) = 1 := by decide
  have a5 : (if (5 : Int32) < 4 then (0 : Int32) else 5 - 3) = 2 := by decide
  have a6 : (if (6 : Int32) < 4 then (0 : Int32) else 6 - 3) = 3 := by decide
  simp only [x187_0, x187_1, x187_36, x187_37, x187_39, x187_42, x187_43, x187_44, x187_45, x187_48, x187_49, x187_52, x187_53, x187_54, x187_55, x187_57, x187_60, x187_61, x187_62, x187_65, x187_66, x187_69, x187_70, x187_71, x187_72, x187_74, x187_77, x187_78, x187_80, x187_83, x187_84, x187_87, x187_88, x187_91, x187_92, x187_93, x187_94, x187_95, x187_98, x187_99, x187_102, ka_kk_i, ka_kk_n, ka_cl_i, ka_cl_r, ka_cl_n, or_true, true_or, ka_ne2, ka_ne4, ka_ne5, ka_ne10, not_false_eq_true, not_true_eq_false, if_true, if_false, ka_k_0, ka_k_1, ka_k_2, ka_k_3, ka_k_4, ka_k_5, ka_k_6, ka_k_7, ka_k_8, ka_k_9, ka_k_10, ka_k_11, ka_k_12, ka_k_13, ka_k_14, ka_k_15, ka_k_16, ka_k_17, ka_k_18, ka_k_19, ka_k_20, ka_k_21, ka_k_22, ka_k_23, ka_k_24, ka_k_25, ka_k_26, ka_k_27, ka_k_28, ka_k_29, ka_k_30, ka_k_31, ka_k_32, ka_k_33, ka_k_34, ka_k_35, ka_k_36, ka_k_37, ka_k_38, ka_k_39, ka_k_40, ka_k_41, ka_k_42, ka_k_43, ka_k_44, ka_k_45, ka_k_46, ka_k_47, ka_k_48, ka_k_49, ka_k_50, ka_k_51, ka_k_52, ka_k_53, ka_k_54, ka_k_55, ka_k_56, ka_k_57, ka_k_58, ka_k_59, ka_k_60, ka_k_61, ka_k_62, ka_k_63, ka_k_64, ka_k_65, ka_k_66, ka_k_67, ka_k_68, ka_k_69, ka_k_70, ka_k_71, ka_k_72, ka_k_73, ka_k_74, ka_k_75, ka_k_76, ka_k_77, ka_k_78, ka_k_79, ka_k_80, ka_k_81, ka_k_82, ka_k_83, ka_k_84, ka_k_85, ka_k_86, ka_k_87, ka_k_88, ka_k_89, ka_k_90, ka_k_91, ka_k_92, ka_k_93, ka_k_94, ka_k_95, ka_k_96, ka_k_97, ka_k_98, ka_k_99, ka_k_100, q0, q1, q2, q3, q4, q5, q6, sp_155, a0, a1, a2, a3, a4, a5, a6, m18, sp_122 h8 w1, ka_c_0, ka_c_1, ka_c_2, ka_c_3, ka_c_4, ka_c_5, ka_c_6, ka_c_7, ka_c_8, ka_c_9, ka_c_10, ka_c_11, ka_c_12, ka_c_13, ka_c_14, ka_c_15, ka_c_16, ka_c_17, ka_c_18, ka_c_19, ka_c_20, ka_c_28, ka_c_40, ka_c_50, ka_c_87, wm_88, k1, sp_183w (show n < 40 by omega)]
theorem wb_0_tells_0 {n : Nat} {r : Nat → Int32} {x : Int32} (hW : Q 18 = W) (h8 : 0 ≤ W.toInt ∧ W.toInt < 8) (k0 : X 88 (13 + 9 * W.toNatClampNeg + 0) = 0) (k1 : X 88 (13 + 9 * W.toNatClampNeg + 1) = M) (hn : n + 4 ≤ 40) : ka_ex sc (d + 3) 188 0 [.ref 87, .int 0, .int x, ka_nv] [] (ka_mem (wm X Q n r)) = some (some (.int (((x + W) * 2) ^^^ (x - M))), ka_mem (wm X Q (n + 1 + 1 + 1 + 1) (kn_up (kn_up (kn_up (kn_up r (n) 13) (n + 1) 11) (n + 1 + 1) 10) (n + 1 + 1 + 1) 12))) := by
  have q0 : ((0 : Int32) = 0) = True := by decide
  have q1 : ((0 : Int32) = 1) = False := by decide
  have q2 : ((0 : Int32) = 2) = False := by decide
  have q3 : ((0 : Int32) = 3) = False := by decide
  have q4 : ((0 : Int32) = 4) = False := by decide
  have q5 : ((0 : Int32) = 5) = False := by decide
  have q6 : ((0 : Int32) = 6) = False := by decide
  have w1 : 0 ≤ (1 : Int32).toInt ∧ (1 : Int32).toInt < 9 := by decide
  have m18 : ∀ n r, wm X Q n r 87 18 = W := fun n r => (wm_87 (by decide)).trans hW
  have a0 : (if (0 : Int32) < 4 then (0 : Int32) else 0 - 3) = 0 := by decide
  have a1 : (if (1 : Int32) < 4 then (0 : Int32) else 1 - 3) = 0 := by decide
  have a2 : (if (2 : Int32) < 4 then (0 : Int32) else 2 - 3) = 0 := by decide
  have a3 : (if (3 : Int32) < 4 then (0 : Int32) else 3 - 3) = 0 := by decide
  have a4 : (if (4 : Int32) < 4 then (0 : Int32) else 4 - 3) = 1 := by decide
  have a5 : (if (5 : Int32) < 4 then (0 : Int32) else 5 - 3) = 2 := by decide
  have a6 : (if (6 : Int32) < 4 then (0 : Int32) else 6 - 3) = 3 := by decide
  simp only [x188_0, x188_1, x188_36, x188_37, x188_39, x188_42, x188_43, x188_44, x188_47, x188_48, x188_51, x188_52, x188_53, x188_54, x188_55, x188_58, x188_59, x188_62, x188_63, x188_64, x188_65, x188_67, x188_70, x188_71, x188_72, x188_75, x188_76, x188_79, x188_80, x188_81, x188_82, x188_83, x188_86, x188_87, x188_90, x188_91, x188_92, x188_93, x188_95, x188_98, x188_99, x188_100, x188_103, x188_104, x188_107, x188_108, x188_109, x188_110, x188_112, x188_115, x188_116, x188_119, x188_120, x188_121, x188_122, x188_123, x188_126, x188_127, x188_130, ka_kk_i, ka_kk_n, ka_cl_i, ka_cl_r, ka_cl_n, or_true, true_or, ka_ne2, ka_ne4, ka_ne5, ka_ne10, not_false_eq_true, not_true_eq_false, if_true, if_false, ka_k_0, ka_k_1, ka_k_2, ka_k_3, ka_k_4, ka_k_5, ka_k_6, ka_k_7, ka_k_8, ka_k_9, ka_k_10, ka_k_11, ka_k_12, ka_k_13, ka_k_14, ka_k_15, ka_k_16, ka_k_17, ka_k_18, ka_k_19, ka_k_20, ka_k_21, ka_k_22, ka_k_23, ka_k_24, ka_k_25, ka_k_26, ka_k_27, ka_k_28, ka_k_29, ka_k_30, ka_k_31, ka_k_32, ka_k_33, ka_k_34, ka_k_35, ka_k_36, ka_k_37, ka_k_38, ka_k_39, ka_k_40, ka_k_41, ka_k_42, ka_k_43, ka_k_44, ka_k_45, ka_k_46, ka_k_47, ka_k_48, ka_k_49, ka_k_50, ka_k_51, ka_k_52, ka_k_53, ka_k_54, ka_k_55, ka_k_56, ka_k_57, ka_k_58, ka_k_59, ka_k_60, ka_k_61, ka_k_62, ka_k_63, ka_k_64, ka_k_65, ka_k_66, ka_k_67, ka_k_68, ka_k_69, ka_k_70, ka_k_71, ka_k_72, ka_k_73, ka_k_74, ka_k_75, ka_k_76, ka_k_77, ka_k_78, ka_k_79, ka_k_80, ka_k_81, ka_k_82, ka_k_83, ka_k_84, ka_k_85, ka_k_86, ka_k_87, ka_k_88, ka_k_89, ka_k_90, ka_k_91, ka_k_92, ka_k_93, ka_k_94, ka_k_95, ka_k_96, ka_k_97, ka_k_98, ka_k_99, ka_k_100, q0, q1, q2, q3, q4, q5, q6, sp_155, a0, a1, a2, a3, a4, a5, a6, m18, sp_122 h8 w1, ka_c_0, ka_c_1, ka_c_2, ka_c_3, ka_c_4, ka_c_5, ka_c_6, ka_c_7, ka_c_8, ka_c_9, ka_c_10, ka_c_11, ka_c_12, ka_c_13, ka_c_14, ka_c_15, ka_c_16, ka_c_17, ka_c_18, ka_c_19, ka_c_20, ka_c_28, ka_c_40, ka_c_50, ka_c_87, wm_88, k1, sp_183w (show n < 40 by omega), sp_184w hW h8 k0, @wb_0_rings_0 sc (d) X Q M W (n + 1) (kn_up r (n) 13) x hW h8 k0 k1 (by omega), @wb_0_grind_0 sc (d + 1) X Q M W (n + 1 + 1 + 1) (kn_up (kn_up (kn_up r (n) 13) (n + 1) 11) (n + 1 + 1) 10) x hW h8 k0 k1 (by omega)]
theorem wb_1_cut_0 {n : Nat} {r : Nat → Int32} {x : Int32} (hW : Q 18 = W) (h8 : 0 ≤ W.toInt ∧ W.toInt < 8) (k0 : X 88 (13 + 9 * W.toNatClampNeg + 0) = 1) (k1 : X 88 (13 + 9 * W.toNatClampNeg + 1) = M) (hn : n + 1 ≤ 40) : ka_ex sc (d + 1) 185 0 [.ref 87, .int 0, .int x] [] (ka_mem (wm X Q n r)) = some (some (.int (x + W)), ka_mem (wm X Q (n + 1) (kn_up r (n) 10))) := by
  have q0 : ((0 : Int32) = 0) = True := by decide
  have q1 : ((0 : Int32) = 1) = False := by decide
  have q2 : ((0 : Int32) = 2) = False := by decide
  have q3 : ((0 : Int32) = 3) = False := by decide
  have q4 : ((0 : Int32) = 4) = False := by decide
  have q5 : ((0 : Int32) = 5) = False := by decide
  have q6 : ((0 : Int32) = 6) = False := by decide
  have w1 : 0 ≤ (1 : Int32).toInt ∧ (1 : Int32).toInt < 9 := by decide
  have m18 : ∀ n r, wm X Q n r 87 18 = W := fun n r => (wm_87 (by decide)).trans hW
  have a0 : (if (0 : Int32) < 4 then (0 : Int32) else 0 - 3) = 0 := by decide
  have a1 : (if (1 : Int32) < 4 then (0 : Int32) else 1 - 3) = 0 := by decide
  have a2 : (if (2 : Int32) < 4 then (0 : Int32) else 2 - 3) = 0 := by decide
  have a3 : (if (3 : Int32) < 4 then (0 : Int32) else 3 - 3) = 0 := by decide
  have a4 : (if (4 : Int32) < 4 then (0 : Int32) else 4 - 3) = 1 := by decide
  have a5 : (if (5 : Int32) < 4 then (0 : Int32) else 5 - 3) = 2 := by decide
  have a6 : (if (6 : Int32) < 4 then (0 : Int32) else 6 - 3) = 3 := by decide
  simp only [x185_0, x185_1, x185_28, x185_29, x185_31, x185_34, x185_35, x185_36, x185_39, x185_40, x185_41, x185_42, x185_44, x185_47, x185_48, x185_49, x185_52, x185_53, x185_56, x185_57, x185_58, x185_59, x185_60, x185_61, x185_64, x185_65, x185_68, ka_kk_i, ka_kk_n, ka_cl_i, ka_cl_r, ka_cl_n, or_true, true_or, ka_ne2, ka_ne4, ka_ne5, ka_ne10, not_false_eq_true, not_true_eq_false, if_true, if_false, ka_k_0, ka_k_1, ka_k_2, ka_k_3, ka_k_4, ka_k_5, ka_k_6, ka_k_7, ka_k_8, ka_k_9, ka_k_10, ka_k_11, ka_k_12, ka_k_13, ka_k_14, ka_k_15, ka_k_16, ka_k_17, ka_k_18, ka_k_19, ka_k_20, ka_k_21, ka_k_22, ka_k_23, ka_k_24, ka_k_25, ka_k_26, ka_k_27, ka_k_28, ka_k_29, ka_k_30, ka_k_31, ka_k_32, ka_k_33, ka_k_34, ka_k_35, ka_k_36, ka_k_37, ka_k_38, ka_k_39, ka_k_40, ka_k_41, ka_k_42, ka_k_43, ka_k_44, ka_k_45, ka_k_46, ka_k_47, ka_k_48, ka_k_49, ka_k_50, ka_k_51, ka_k_52, ka_k_53, ka_k_54, ka_k_55, ka_k_56, ka_k_57, ka_k_58, ka_k_59, ka_k_60, ka_k_61, ka_k_62, ka_k_63, ka_k_64, ka_k_65, ka_k_66, ka_k_67, ka_k_68, ka_k_69, ka_k_70, ka_k_71, ka_k_72, ka_k_73, ka_k_74, ka_k_75, ka_k_76, ka_k_77, ka_k_78, ka_k_79, ka_k_80, ka_k_81, ka_k_82, ka_k_83, ka_k_84, ka_k_85, ka_k_86, ka_k_87, ka_k_88, ka_k_89, ka_k_90, ka_k_91, ka_k_92, ka_k_93, ka_k_94, ka_k_95, ka_k_96, ka_k_97, ka_k_98, ka_k_99, ka_k_100, q0, q1, q2, q3, q4, q5, q6, sp_155, a0, a1, a2, a3, a4, a5, a6, m18, sp_122 h8 w1, ka_c_0, ka_c_1, ka_c_2, ka_c_3, ka_c_4, ka_c_5, ka_c_6, ka_c_7, ka_c_8, ka_c_9, ka_c_10, ka_c_11, ka_c_12, ka_c_13, ka_c_14, ka_c_15, ka_c_16, ka_c_17, ka_c_18, ka_c_19, ka_c_20, ka_c_28, ka_c_40, ka_c_50, ka_c_87, wm_88, k1, sp_183w (show n < 40 by omega)]
theorem wb_1_cut_1 {n : Nat} {r : Nat → Int32} {x : Int32} (hW : Q 18 = W) (h8 : 0 ≤ W.toInt ∧ W.toInt < 8) (k0 : X 88 (13 + 9 * W.toNatClampNeg + 0) = 1) (k1 : X 88 (13 + 9 * W.toNatClampNeg + 1) = M) (hn : n + 1 ≤ 40) : ka_ex sc (d + 2) 185 0 [.ref 87, .int 1, .int x] [] (ka_mem (wm X Q n r)) = some (some (.int (x + W)), ka_mem (wm X Q (n + 1) (kn_up r (n) 10))) := by
  have q0 : ((1 : Int32) = 0) = False := by decide
  have q1 : ((1 : Int32) = 1) = True := by decide
  have q2 : ((1 : Int32) = 2) = False := by decide
  have q3 : ((1 : Int32) = 3) = False := by decide
  have q4 : ((1 : Int32) = 4) = False := by decide
  have q5 : ((1 : Int32) = 5) = False := by decide
  have q6 : ((1 : Int32) = 6) = False := by decide
  have w1 : 0 ≤ (1 : Int32).toInt ∧ (1 : Int32).toInt < 9 := by decide
  have m18 : ∀ n r, wm X Q n r 87 18 = W := fun n r => (wm_87 (by decide)).trans hW
  have a0 : (if (0 : Int32) < 4 then (0 : Int32) else 0 - 3) = 0 := by decide
  have a1 : (if (1 : Int32) < 4 then (0 : Int32) else 1 - 3) = 0 := by decide
  have a2 : (if (2 : Int32) < 4 then (0 : Int32) else 2 - 3) = 0 := by decide
  have a3 : (if (3 : Int32) < 4 then (0 : Int32) else 3 - 3) = 0 := by decide
  have a4 : (if (4 : Int32) < 4 then (0 : Int32) else 4 - 3) = 1 := by decide
  have a5 : (if (5 : Int32) < 4 then (0 : Int32) else 5 - 3) = 2 := by decide
  have a6 : (if (6 : Int32) < 4 then (0 : Int32) else 6 - 3) = 3 := by decide
  simp only [x185_0, x185_1, x185_28, x185_29, x185_31, x185_34, x185_35, x185_36, x185_39, x185_40, x185_41, x185_42, x185_44, x185_47, x185_48, x185_49, x185_52, x185_53, x185_56, x185_57, x185_58, x185_59, x185_60, x185_61, x185_64, x185_65, x185_68, ka_kk_i, ka_kk_n, ka_cl_i, ka_cl_r, ka_cl_n, or_true, true_or, ka_ne2, ka_ne4, ka_ne5, ka_ne10, not_false_eq_true, not_true_eq_false, if_true, if_false, ka_k_0, ka_k_1, ka_k_2, ka_k_3, ka_k_4, ka_k_5, ka_k_6, ka_k_7, ka_k_8, ka_k_9, ka_k_10, ka_k_11, ka_k_12, ka_k_13, ka_k_14, ka_k_15, ka_k_16, ka_k_17, ka_k_18, ka_k_19, ka_k_20, ka_k_21, ka_k_22, ka_k_23, ka_k_24, ka_k_25, ka_k_26, ka_k_27, ka_k_28, ka_k_29, ka_k_30, ka_k_31, ka_k_32, ka_k_33, ka_k_34, ka_k_35, ka_k_36, ka_k_37, ka_k_38, ka_k_39, ka_k_40, ka_k_41, ka_k_42, ka_k_43, ka_k_44, ka_k_45, ka_k_46, ka_k_47, ka_k_48, ka_k_49, ka_k_50, ka_k_51, ka_k_52, ka_k_53, ka_k_54, ka_k_55, ka_k_56, ka_k_57, ka_k_58, ka_k_59, ka_k_60, ka_k_61, ka_k_62, ka_k_63, ka_k_64, ka_k_65, ka_k_66, ka_k_67, ka_k_68, ka_k_69, ka_k_70, ka_k_71, ka_k_72, ka_k_73, ka_k_74, ka_k_75, ka_k_76, ka_k_77, ka_k_78, ka_k_79, ka_k_80, ka_k_81, ka_k_82, ka_k_83, ka_k_84, ka_k_85, ka_k_86, ka_k_87, ka_k_88, ka_k_89, ka_k_90, ka_k_91, ka_k_92, ka_k_93, ka_k_94, ka_k_95, ka_k_96, ka_k_97, ka_k_98, ka_k_99, ka_k_100, q0, q1, q2, q3, q4, q5, q6, sp_155, a0, a1, a2, a3, a4, a5, a6, m18, sp_122 h8 w1, ka_c_0, ka_c_1, ka_c_2, ka_c_3, ka_c_4, ka_c_5, ka_c_6, ka_c_7, ka_c_8, ka_c_9, ka_c_10, ka_c_11, ka_c_12, ka_c_13, ka_c_14, ka_c_15, ka_c_16, ka_c_17, ka_c_18, ka_c_19, ka_c_20, ka_c_28, ka_c_40, ka_c_50, ka_c_87, wm_88, k1, @wb_1_cut_0 sc (d) X Q M W (n) r x hW h8 k0 k1 (by omega)]
theorem wb_1_rings_0 {n : Nat} {r : Nat → Int32} {x : Int32} (hW : Q 18 = W) (h8 : 0 ≤ W.toInt ∧ W.toInt < 8) (k0 : X 88 (13 + 9 * W.toNatClampNeg + 0) = 1) (k1 : X 88 (13 + 9 * W.toNatClampNeg + 1) = M) (hn : n + 2 ≤ 40) : ka_ex sc (d + 3) 186 0 [.ref 87, .int 0, .int x, ka_nv] [] (ka_mem (wm X Q n r)) = some (some (.int ((x + W) * 2)), ka_mem (wm X Q (n + 1 + 1) (kn_up (kn_up r (n) 11) (n + 1) 10))) := by
  have q0 : ((0 : Int32) = 0) = True := by decide
  have q1 : ((0 : Int32) = 1) = False := by decide
  have q2 : ((0 : Int32) = 2) = False := by decide
  have q3 : ((0 : Int32) = 3) = False := by decide
  have q4 : ((0 : Int32) = 4) = False := by decide
  have q5 : ((0 : Int32) = 5) = False := by decide
  have q6 : ((0 : Int32) = 6) = False := by decide
  have w1 : 0 ≤ (1 : Int32).toInt ∧ (1 : Int32).toInt < 9 := by decide
  have m18 : ∀ n r, wm X Q n r 87 18 = W := fun n r => (wm_87 (by decide)).trans hW
  have a0 : (if (0 : Int32) < 4 then (0 : Int32) else 0 - 3) = 0 := by decide
  have a1 : (if (1 : Int32) < 4 then (0 : Int32) else 1 - 3) = 0 := by decide
  have a2 : (if (2 : Int32) < 4 then (0 : Int32) else 2 - 3) = 0 := by decide
  have a3 : (if (3 : Int32) < 4 then (0 : Int32) else 3 - 3) = 0 := by decide
  have a4 : (if (4 : Int32) < 4 then (0 : Int32) else 4 - 3) = 1 := by decide
  have a5 : (if (5 : Int32) < 4 then (0 : Int32) else 5 - 3) = 2 := by decide
  have a6 : (if (6 : Int32) < 4 then (0 : Int32) else 6 - 3) = 3 := by decide
  simp only [x186_0, x186_1, x186_36, x186_37, x186_39, x186_42, x186_43, x186_44, x186_47, x186_48, x186_51, x186_52, x186_53, x186_54, x186_55, x186_57, x186_60, x186_61, x186_62, x186_65, x186_66, x186_69, x186_70, x186_71, x186_72, x186_73, x186_76, x186_77, x186_80, x186_81, x186_82, x186_83, x186_85, x186_88, x186_89, x186_90, x186_93, x186_94, x186_95, x186_96, x186_99, x186_100, x186_101, x186_102, x186_105, x186_106, x186_109, ka_kk_i, ka_kk_n, ka_cl_i, ka_cl_r, ka_cl_n, or_true, true_or, ka_ne2, ka_ne4, ka_ne5, ka_ne10, not_false_eq_true, not_true_eq_false, if_true, if_false, ka_k_0, ka_k_1, ka_k_2, ka_k_3, ka_k_4, ka_k_5, ka_k_6, ka_k_7, ka_k_8, ka_k_9, ka_k_10, ka_k_11, ka_k_12, ka_k_13, ka_k_14, ka_k_15, ka_k_16, ka_k_17, ka_k_18, ka_k_19, ka_k_20, ka_k_21, ka_k_22, ka_k_23, ka_k_24, ka_k_25, ka_k_26, ka_k_27, ka_k_28, ka_k_29, ka_k_30, ka_k_31, ka_k_32, ka_k_33, ka_k_34, ka_k_35, ka_k_36, ka_k_37, ka_k_38, ka_k_39, ka_k_40, ka_k_41, ka_k_42, ka_k_43, ka_k_44, ka_k_45, ka_k_46, ka_k_47, ka_k_48, ka_k_49, ka_k_50, ka_k_51, ka_k_52, ka_k_53, ka_k_54, ka_k_55, ka_k_56, ka_k_57, ka_k_58, ka_k_59, ka_k_60, ka_k_61, ka_k_62, ka_k_63, ka_k_64, ka_k_65, ka_k_66, ka_k_67, ka_k_68, ka_k_69, ka_k_70, ka_k_71, ka_k_72, ka_k_73, ka_k_74, ka_k_75, ka_k_76, ka_k_77, ka_k_78, ka_k_79, ka_k_80, ka_k_81, ka_k_82, ka_k_83, ka_k_84, ka_k_85, ka_k_86, ka_k_87, ka_k_88, ka_k_89, ka_k_90, ka_k_91, ka_k_92, ka_k_93, ka_k_94, ka_k_95, ka_k_96, ka_k_97, ka_k_98, ka_k_99, ka_k_100, q0, q1, q2, q3, q4, q5, q6, sp_155, a0, a1, a2, a3, a4, a5, a6, m18, sp_122 h8 w1, ka_c_0, ka_c_1, ka_c_2, ka_c_3, ka_c_4, ka_c_5, ka_c_6, ka_c_7, ka_c_8, ka_c_9, ka_c_10, ka_c_11, ka_c_12, ka_c_13, ka_c_14, ka_c_15, ka_c_16, ka_c_17, ka_c_18, ka_c_19, ka_c_20, ka_c_28, ka_c_40, ka_c_50, ka_c_87, wm_88, k1, sp_183w (show n < 40 by omega), sp_184w hW h8 k0, @wb_1_cut_1 sc (d) X Q M W (n + 1) (kn_up r (n) 11) x hW h8 k0 k1 (by omega)]
theorem wb_1_grind_0 {n : Nat} {r : Nat → Int32} {x : Int32} (hW : Q 18 = W) (h8 : 0 ≤ W.toInt ∧ W.toInt < 8) (k0 : X 88 (13 + 9 * W.toNatClampNeg + 0) = 1) (k1 : X 88 (13 + 9 * W.toNatClampNeg + 1) = M) (hn : n + 1 ≤ 40) : ka_ex sc (d + 1) 187 0 [.ref 87, .int 0, .int x] [] (ka_mem (wm X Q n r)) = some (some (.int (x - M)), ka_mem (wm X Q (n + 1) (kn_up r (n) 12))) := by
  have q0 : ((0 : Int32) = 0) = True := by decide
  have q1 : ((0 : Int32) = 1) = False := by decide
  have q2 : ((0 : Int32) = 2) = False := by decide
  have q3 : ((0 : Int32) = 3) = False := by decide
  have q4 : ((0 : Int32) = 4) = False := by decide
  have q5 : ((0 : Int32) = 5) = False := by decide
  have q6 : ((0 : Int32) = 6) = False := by decide
  have w1 : 0 ≤ (1 : Int32).toInt ∧ (1 : Int32).toInt < 9 := by decide
  have m18 : ∀ n r, wm X Q n r 87 18 = W := fun n r => (wm_87 (by decide)).trans hW
  have a0 : (if (0 : Int32) < 4 then (0 : Int32) else 0 - 3) = 0 := by decide
  have a1 : (if (1 : Int32) < 4 then (0 : Int32) else 1 - 3) = 0 := by decide
  have a2 : (if (2 : Int32) < 4 then (0 : Int32) else 2 - 3) = 0 := by decide
  have a3 : (if (3 : Int32) < 4 then (0 : Int32) else 3 - 3) = 0 := by decide
  have a4 : (if (4 : Int32) < 4 then (0 : Int32) else 4 - 3) = 1 := by decide
  have a5 : (if (5 : Int32) < 4 then (0 : Int32) else 5 - 3) = 2 := by decide
  have a6 : (if (6 : Int32) < 4 then (0 : Int32) else 6 - 3) = 3 := by decide
  simp only [x187_0, x187_1, x187_36, x187_37, x187_39, x187_42, x187_43, x187_44, x187_45, x187_48, x187_49, x187_52, x187_53, x187_54, x187_55, x187_57, x187_60, x187_61, x187_62, x187_65, x187_66, x187_69, x187_70, x187_71, x187_72, x187_74, x187_77, x187_78, x187_80, x187_83, x187_84, x187_87, x187_88, x187_91, x187_92, x187_93, x187_94, x187_95, x187_98, x187_99, x187_102, ka_kk_i, ka_kk_n, ka_cl_i, ka_cl_r, ka_cl_n, or_true, true_or, ka_ne2, ka_ne4, ka_ne5, ka_ne10, not_false_eq_true, not_true_eq_false, if_true, if_false, ka_k_0, ka_k_1, ka_k_2, ka_k_3, ka_k_4, ka_k_5, ka_k_6, ka_k_7, ka_k_8, ka_k_9, ka_k_10, ka_k_11, ka_k_12, ka_k_13, ka_k_14, ka_k_15, ka_k_16, ka_k_17, ka_k_18, ka_k_19, ka_k_20, ka_k_21, ka_k_22, ka_k_23, ka_k_24, ka_k_25, ka_k_26, ka_k_27, ka_k_28, ka_k_29, ka_k_30, ka_k_31, ka_k_32, ka_k_33, ka_k_34, ka_k_35, ka_k_36, ka_k_37, ka_k_38, ka_k_39, ka_k_40, ka_k_41, ka_k_42, ka_k_43, ka_k_44, ka_k_45, ka_k_46, ka_k_47, ka_k_48, ka_k_49, ka_k_50, ka_k_51, ka_k_52, ka_k_53, ka_k_54, ka_k_55, ka_k_56, ka_k_57, ka_k_58, ka_k_59, ka_k_60, ka_k_61, ka_k_62, ka_k_63, ka_k_64, ka_k_65, ka_k_66, ka_k_67, ka_k_68, ka_k_69, ka_k_70, ka_k_71, ka_k_72, ka_k_73, ka_k_74, ka_k_75, ka_k_76, ka_k_77, ka_k_78, ka_k_79, ka_k_80, ka_k_81, ka_k_82, ka_k_83, ka_k_84, ka_k_85, ka_k_86, ka_k_87, ka_k_88, ka_k_89, ka_k_90, ka_k_91, ka_k_92, ka_k_93, ka_k_94, ka_k_95, ka_k_96, ka_k_97, ka_k_98, ka_k_99, ka_k_100, q0, q1, q2, q3, q4, q5, q6, sp_155, a0, a1, a2, a3, a4, a5, a6, m18, sp_122 h8 w1, ka_c_0, ka_c_1, ka_c_2, ka_c_3, ka_c_4, ka_c_5, ka_c_6, ka_c_7, ka_c_8, ka_c_9, ka_c_10, ka_c_11, ka_c_12, ka_c_13, ka_c_14, ka_c_15, ka_c_16, ka_c_17, ka_c_18, ka_c_19, ka_c_20, ka_c_28, ka_c_40, ka_c_50, ka_c_87, wm_88, k1, sp_183w (show n < 40 by omega)]
theorem wb_1_grind_1 {n : Nat} {r : Nat → Int32} {x : Int32} (hW : Q 18 = W) (h8 : 0 ≤ W.toInt ∧ W.toInt < 8) (k0 : X 88 (13 + 9 * W.toNatClampNeg + 0) = 1) (k1 : X 88 (13 + 9 * W.toNatClampNeg + 1) = M) (hn : n + 1 ≤ 40) : ka_ex sc (d + 2) 187 0 [.ref 87, .int 1, .int x] [] (ka_mem (wm X Q n r)) = some (some (.int (x - M)), ka_mem (wm X Q (n + 1) (kn_up r (n) 12))) := by
  have q0 : ((1 : Int32) = 0) = False := by decide
  have q1 : ((1 : Int32) = 1) = True := by decide
  have q2 : ((1 : Int32) = 2) = False := by decide
  have q3 : ((1 : Int32) = 3) = False := by decide
  have q4 : ((1 : Int32) = 4) = False := by decide
  have q5 : ((1 : Int32) = 5) = False := by decide
  have q6 : ((1 : Int32) = 6) = False := by decide
  have w1 : 0 ≤ (1 : Int32).toInt ∧ (1 : Int32).toInt < 9 := by decide
  have m18 : ∀ n r, wm X Q n r 87 18 = W := fun n r => (wm_87 (by decide)).trans hW
  have a0 : (if (0 : Int32) < 4 then (0 : Int32) else 0 - 3) = 0 := by decide
  have a1 : (if (1 : Int32) < 4 then (0 : Int32) else 1 - 3) = 0 := by decide
  have a2 : (if (2 : Int32) < 4 then (0 : Int32) else 2 - 3) = 0 := by decide
  have a3 : (if (3 : Int32) < 4 then (0 : Int32) else 3 - 3) = 0 := by decide
  have a4 : (if (4 : Int32) < 4 then (0 : Int32) else 4 - 3) = 1 := by decide
  have a5 : (if (5 : Int32) < 4 then (0 : Int32) else 5 - 3) = 2 := by decide
  have a6 : (if (6 : Int32) < 4 then (0 : Int32) else 6 - 3) = 3 := by decide
  simp only [x187_0, x187_1, x187_36, x187_37, x187_39, x187_42, x187_43, x187_44, x187_45, x187_48, x187_49, x187_52, x187_53, x187_54, x187_55, x187_57, x187_60, x187_61, x187_62, x187_65, x187_66, x187_69, x187_70, x187_71, x187_72, x187_74, x187_77, x187_78, x187_80, x187_83, x187_84, x187_87, x187_88, x187_91, x187_92, x187_93, x187_94, x187_95, x187_98, x187_99, x187_102, ka_kk_i, ka_kk_n, ka_cl_i, ka_cl_r, ka_cl_n, or_true, true_or, ka_ne2, ka_ne4, ka_ne5, ka_ne10, not_false_eq_true, not_true_eq_false, if_true, if_false, ka_k_0, ka_k_1, ka_k_2, ka_k_3, ka_k_4, ka_k_5, ka_k_6, ka_k_7, ka_k_8, ka_k_9, ka_k_10, ka_k_11, ka_k_12, ka_k_13, ka_k_14, ka_k_15, ka_k_16, ka_k_17, ka_k_18, ka_k_19, ka_k_20, ka_k_21, ka_k_22, ka_k_23, ka_k_24, ka_k_25, ka_k_26, ka_k_27, ka_k_28, ka_k_29, ka_k_30, ka_k_31, ka_k_32, ka_k_33, ka_k_34, ka_k_35, ka_k_36, ka_k_37, ka_k_38, ka_k_39, ka_k_40, ka_k_41, ka_k_42, ka_k_43, ka_k_44, ka_k_45, ka_k_46, ka_k_47, ka_k_48, ka_k_49, ka_k_50, ka_k_51, ka_k_52, ka_k_53, ka_k_54, ka_k_55, ka_k_56, ka_k_57, ka_k_58, ka_k_59, ka_k_60, ka_k_61, ka_k_62, ka_k_63, ka_k_64, ka_k_65, ka_k_66, ka_k_67, ka_k_68, ka_k_69, ka_k_70, ka_k_71, ka_k_72, ka_k_73, ka_k_74, ka_k_75, ka_k_76, ka_k_77, ka_k_78, ka_k_79, ka_k_80, ka_k_81, ka_k_82, ka_k_83, ka_k_84, ka_k_85, ka_k_86, ka_k_87, ka_k_88, ka_k_89, ka_k_90, ka_k_91, ka_k_92, ka_k_93, ka_k_94, ka_k_95, ka_k_96, ka_k_97, ka_k_98, ka_k_99, ka_k_100, q0, q1, q2, q3, q4, q5, q6, sp_155, a0, a1, a2, a3, a4, a5, a6, m18, sp_122 h8 w1, ka_c_0, ka_c_1, ka_c_2, ka_c_3, ka_c_4, ka_c_5, ka_c_6, ka_c_7, ka_c_8, ka_c_9, ka_c_10, ka_c_11, ka_c_12, ka_c_13, ka_c_14, ka_c_15, ka_c_16, ka_c_17, ka_c_18, ka_c_19, ka_c_20, ka_c_28, ka_c_40, ka_c_50, ka_c_87, wm_88, k1, @wb_1_grind_0 sc (d) X Q M W (n) r x hW h8 k0 k1 (by omega)]
theorem wb_1_rings_1 {n : Nat} {r : Nat → Int32} {x : Int32} (hW : Q 18 = W) (h8 : 0 ≤ W.toInt ∧ W.toInt < 8) (k0 : X 88 (13 + 9 * W.toNatClampNeg + 0) = 1) (k1 : X 88 (13 + 9 * W.toNatClampNeg + 1) = M) (hn : n + 4 ≤ 40) : ka_ex sc (d + 4) 186 0 [.ref 87, .int 1, .int x, ka_nv] [] (ka_mem (wm X Q n r)) = some (some (.int (((x + W) * 2) - (1 - M))), ka_mem (wm X Q (n + 1 + 1 + 1 + 1) (kn_up (kn_up (kn_up (kn_up r (n) 20) (n + 1) 11) (n + 1 + 1) 10) (n + 1 + 1 + 1) 12))) := by
  have q0 : ((1 : Int32) = 0) = False := by decide
  have q1 : ((1 : Int32) = 1) = True := by decide
  have q2 : ((1 : Int32) = 2) = False := by decide
  have q3 : ((1 : Int32) = 3) = False := by decide
  have q4 : ((1 : Int32) = 4) = False := by decide
  have q5 : ((1 : Int32) = 5) = False := by decide
  have q6 : ((1 : Int32) = 6) = False := by decide
  have w1 : 0 ≤ (1 : Int32).toInt ∧ (1 : Int32).toInt < 9 := by decide
  have m18 : ∀ n r, wm X Q n r 87 18 = W := fun n r => (wm_87 (by decide)).trans hW
  have a0 : (if (0 : Int32) < 4 then (0 : Int32) else 0 - 3) = 0 := by decide
  have a1 : (if (1 : Int32) < 4 then (0 : Int32) else 1 - 3) = 0 := by decide
  have a2 : (if (2 : Int32) < 4 then (0 : Int32) else 2 - 3) = 0 := by decide
  have a3 : (if (3 : Int32) < 4 then (0 : Int32) else 3 - 3) = 0 := by decide
  have a4 : (if (4 : Int32) < 4 then (0 : Int32) else 4 - 3) = 1 := by decide
  have a5 : (if (5 : Int32) < 4 then (0 : Int32) else 5 - 3) = 2 := by decide
  have a6 : (if (6 : Int32) < 4 then (0 : Int32) else 6 - 3) = 3 := by decide
  simp only [x186_0, x186_1, x186_36, x186_37, x186_39, x186_42, x186_43, x186_44, x186_47, x186_48, x186_51, x186_52, x186_53, x186_54, x186_55, x186_57, x186_60, x186_61, x186_62, x186_65, x186_66, x186_69, x186_70, x186_71, x186_72, x186_73, x186_76, x186_77, x186_80, x186_81, x186_82, x186_83, x186_85, x186_88, x186_89, x186_90, x186_93, x186_94, x186_95, x186_96, x186_99, x186_100, x186_101, x186_102, x186_105, x186_106, x186_109, ka_kk_i, ka_kk_n, ka_cl_i, ka_cl_r, ka_cl_n, or_true, true_or, ka_ne2, ka_ne4, ka_ne5, ka_ne10, not_false_eq_true, not_true_eq_false, if_true, if_false, ka_k_0, ka_k_1, ka_k_2, ka_k_3, ka_k_4, ka_k_5, ka_k_6, ka_k_7, ka_k_8, ka_k_9, ka_k_10, ka_k_11, ka_k_12, ka_k_13, ka_k_14, ka_k_15, ka_k_16, ka_k_17, ka_k_18, ka_k_19, ka_k_20, ka_k_21, ka_k_22, ka_k_23, ka_k_24, ka_k_25, ka_k_26, ka_k_27, ka_k_28, ka_k_29, ka_k_30, ka_k_31, ka_k_32, ka_k_33, ka_k_34, ka_k_35, ka_k_36, ka_k_37, ka_k_38, ka_k_39, ka_k_40, ka_k_41, ka_k_42, ka_k_43, ka_k_44, ka_k_45, ka_k_46, ka_k_47, ka_k_48, ka_k_49, ka_k_50, ka_k_51, ka_k_52, ka_k_53, ka_k_54, ka_k_55, ka_k_56, ka_k_57, ka_k_58, ka_k_59, ka_k_60, ka_k_61, ka_k_62, ka_k_63, ka_k_64, ka_k_65, ka_k_66, ka_k_67, ka_k_68, ka_k_69, ka_k_70, ka_k_71, ka_k_72, ka_k_73, ka_k_74, ka_k_75, ka_k_76, ka_k_77, ka_k_78, ka_k_79, ka_k_80, ka_k_81, ka_k_82, ka_k_83, ka_k_84, ka_k_85, ka_k_86, ka_k_87, ka_k_88, ka_k_89, ka_k_90, ka_k_91, ka_k_92, ka_k_93, ka_k_94, ka_k_95, ka_k_96, ka_k_97, ka_k_98, ka_k_99, ka_k_100, q0, q1, q2, q3, q4, q5, q6, sp_155, a0, a1, a2, a3, a4, a5, a6, m18, sp_122 h8 w1, ka_c_0, ka_c_1, ka_c_2, ka_c_3, ka_c_4, ka_c_5, ka_c_6, ka_c_7, ka_c_8, ka_c_9, ka_c_10, ka_c_11, ka_c_12, ka_c_13, ka_c_14, ka_c_15, ka_c_16, ka_c_17, ka_c_18, ka_c_19, ka_c_20, ka_c_28, ka_c_40, ka_c_50, ka_c_87, wm_88, k1, sp_183w (show n < 40 by omega), sp_184w hW h8 k0, @wb_1_rings_0 sc (d) X Q M W (n + 1) (kn_up r (n) 20) x hW h8 k0 k1 (by omega), @wb_1_grind_1 sc (d + 1) X Q M W (n + 1 + 1 + 1) (kn_up (kn_up (kn_up r (n) 20) (n + 1) 11) (n + 1 + 1) 10) 1 hW h8 k0 k1 (by omega)]
theorem wb_1_tells_0 {n : Nat} {r : Nat → Int32} {x : Int32} (hW : Q 18 = W) (h8 : 0 ≤ W.toInt ∧ W.toInt < 8) (k0 : X 88 (13 + 9 * W.toNatClampNeg + 0) = 1) (k1 : X 88 (13 + 9 * W.toNatClampNeg + 1) = M) (hn : n + 6 ≤ 40) : ka_ex sc (d + 5) 188 0 [.ref 87, .int 0, .int x, ka_nv] [] (ka_mem (wm X Q n r)) = some (some (.int ((((x + W) * 2) - (1 - M)) ^^^ (x - M))), ka_mem (wm X Q (n + 1 + 1 + 1 + 1 + 1 + 1) (kn_up (kn_up (kn_up (kn_up (kn_up (kn_up r (n) 13) (n + 1) 20) (n + 1 + 1) 11) (n + 1 + 1 + 1) 10) (n + 1 + 1 + 1 + 1) 12) (n + 1 + 1 + 1 + 1 + 1) 12))) := by
  have q0 : ((0 : Int32) = 0) = True := by decide
  have q1 : ((0 : Int32) = 1) = False := by decide
  have q2 : ((0 : Int32) = 2) = False := by decide
  have q3 : ((0 : Int32) = 3) = False := by decide
  have q4 : ((0 : Int32) = 4) = False := by decide
  have q5 : ((0 : Int32) = 5) = False := by decide
  have q6 : ((0 : Int32) = 6) = False := by decide
  have w1 : 0 ≤ (1 : Int32).toInt ∧ (1 : Int32).toInt < 9 := by decide
  have m18 : ∀ n r, wm X Q n r 87 18 = W := fun n r => (wm_87 (by decide)).trans hW
  have a0 : (if (0 : Int32) < 4 then (0 : Int32) else 0 - 3) = 0 := by decide
  have a1 : (if (1 : Int32) < 4 then (0 : Int32) else 1 - 3) = 0 := by decide
  have a2 : (if (2 : Int32) < 4 then (0 : Int32) else 2 - 3) = 0 := by decide
  have a3 : (if (3 : Int32) < 4 then (0 : Int32) else 3 - 3) = 0 := by decide
  have a4 : (if (4 : Int32) < 4 then (0 : Int32) else 4 - 3) = 1 := by decide
  have a5 : (if (5 : Int32) < 4 then (0 : Int32) else 5 - 3) = 2 := by decide
  have a6 : (if (6 : Int32) < 4 then (0 : Int32) else 6 - 3) = 3 := by decide
  simp only [x188_0, x188_1, x188_36, x188_37, x188_39, x188_42, x188_43, x188_44, x188_47, x188_48, x188_51, x188_52, x188_53, x188_54, x188_55, x188_58, x188_59, x188_62, x188_63, x188_64, x188_65, x188_67, x188_70, x188_71, x188_72, x188_75, x188_76, x188_79, x188_80, x188_81, x188_82, x188_83, x188_86, x188_87, x188_90, x188_91, x188_92, x188_93, x188_95, x188_98, x188_99, x188_100, x188_103, x188_104, x188_107, x188_108, x188_109, x188_110, x188_112, x188_115, x188_116, x188_119, x188_120, x188_121, x188_122, x188_123, x188_126, x188_127, x188_130, ka_kk_i, ka_kk_n, ka_cl_i, ka_cl_r, ka_cl_n, or_true, true_or, ka_ne2, ka_ne4, ka_ne5, ka_ne10, not_false_eq_true, not_true_eq_false, if_true, if_false, ka_k_0, ka_k_1, ka_k_2, ka_k_3, ka_k_4, ka_k_5, ka_k_6, ka_k_7, ka_k_8, ka_k_9, ka_k_10, ka_k_11, ka_k_12, ka_k_13, ka_k_14, ka_k_15, ka_k_16, ka_k_17, ka_k_18, ka_k_19, ka_k_20, ka_k_21, ka_k_22, ka_k_23, ka_k_24, ka_k_25, ka_k_26, ka_k_27, ka_k_28, ka_k_29, ka_k_30, ka_k_31, ka_k_32, ka_k_33, ka_k_34, ka_k_35, ka_k_36, ka_k_37, ka_k_38, ka_k_39, ka_k_40, ka_k_41, ka_k_42, ka_k_43, ka_k_44, ka_k_45, ka_k_46, ka_k_47, ka_k_48, ka_k_49, ka_k_50, ka_k_51, ka_k_52, ka_k_53, ka_k_54, ka_k_55, ka_k_56, ka_k_57, ka_k_58, ka_k_59, ka_k_60, ka_k_61, ka_k_62, ka_k_63, ka_k_64, ka_k_65, ka_k_66, ka_k_67, ka_k_68, ka_k_69, ka_k_70, ka_k_71, ka_k_72, ka_k_73, ka_k_74, ka_k_75, ka_k_76, ka_k_77, ka_k_78, ka_k_79, ka_k_80, ka_k_81, ka_k_82, ka_k_83, ka_k_84, ka_k_85, ka_k_86, ka_k_87, ka_k_88, ka_k_89, ka_k_90, ka_k_91, ka_k_92, ka_k_93, ka_k_94, ka_k_95, ka_k_96, ka_k_97, ka_k_98, ka_k_99, ka_k_100, q0, q1, q2, q3, q4, q5, q6, sp_155, a0, a1, a2, a3, a4, a5, a6, m18, sp_122 h8 w1, ka_c_0, ka_c_1, ka_c_2, ka_c_3, ka_c_4, ka_c_5, ka_c_6, ka_c_7, ka_c_8, ka_c_9, ka_c_10, ka_c_11, ka_c_12, ka_c_13, ka_c_14, ka_c_15, ka_c_16, ka_c_17, ka_c_18, ka_c_19, ka_c_20, ka_c_28, ka_c_40, ka_c_50, ka_c_87, wm_88, k1, sp_183w (show n < 40 by omega), sp_184w hW h8 k0, @wb_1_rings_1 sc (d) X Q M W (n + 1) (kn_up r (n) 13) x hW h8 k0 k1 (by omega), @wb_1_grind_1 sc (d + 2) X Q M W (n + 1 + 1 + 1 + 1 + 1) (kn_up (kn_up (kn_up (kn_up (kn_up r (n) 13) (n + 1) 20) (n + 1 + 1) 11) (n + 1 + 1 + 1) 10) (n + 1 + 1 + 1 + 1) 12) x hW h8 k0 k1 (by omega)]
theorem wb_1_tells_1 {n : Nat} {r : Nat → Int32} {x : Int32} (hW : Q 18 = W) (h8 : 0 ≤ W.toInt ∧ W.toInt < 8) (k0 : X 88 (13 + 9 * W.toNatClampNeg + 0) = 1) (k1 : X 88 (13 + 9 * W.toNatClampNeg + 1) = M) (hn : n + 6 ≤ 40) : ka_ex sc (d + 6) 188 0 [.ref 87, .int 1, .int x, ka_nv] [] (ka_mem (wm X Q n r)) = some (some (.int ((((x + W) * 2) - (1 - M)) ^^^ (x - M))), ka_mem (wm X Q (n + 1 + 1 + 1 + 1 + 1 + 1) (kn_up (kn_up (kn_up (kn_up (kn_up (kn_up r (n) 13) (n + 1) 20) (n + 1 + 1) 11) (n + 1 + 1 + 1) 10) (n + 1 + 1 + 1 + 1) 12) (n + 1 + 1 + 1 + 1 + 1) 12))) := by
  have q0 : ((1 : Int32) = 0) = False := by decide
  have q1 : ((1 : Int32) = 1) = True := by decide
  have q2 : ((1 : Int32) = 2) = False := by decide
  have q3 : ((1 : Int32) = 3) = False := by decide
  have q4 : ((1 : Int32) = 4) = False := by decide
  have q5 : ((1 : Int32) = 5) = False := by decide
  have q6 : ((1 : Int32) = 6) = False := by decide
  have w1 : 0 ≤ (1 : Int32).toInt ∧ (1 : Int32).toInt < 9 := by decide
  have m18 : ∀ n r, wm X Q n r 87 18 = W := fun n r => (wm_87 (by decide)).trans hW
  have a0 : (if (0 : Int32) < 4 then (0 : Int32) else 0 - 3) = 0 := by decide
  have a1 : (if (1 : Int32) < 4 then (0 : Int32) else 1 - 3) = 0 := by decide
  have a2 : (if (2 : Int32) < 4 then (0 : Int32) else 2 - 3) = 0 := by decide
  have a3 : (if (3 : Int32) < 4 then (0 : Int32) else 3 - 3) = 0 := by decide
  have a4 : (if (4 : Int32) < 4 then (0 : Int32) else 4 - 3) = 1 := by decide
  have a5 : (if (5 : Int32) < 4 then (0 : Int32) else 5 - 3) = 2 := by decide
  have a6 : (if (6 : Int32) < 4 then (0 : Int32) else 6 - 3) = 3 := by decide
  simp only [x188_0, x188_1, x188_36, x188_37, x188_39, x188_42, x188_43, x188_44, x188_47, x188_48, x188_51, x188_52, x188_53, x188_54, x188_55, x188_58, x188_59, x188_62, x188_63, x188_64, x188_65, x188_67, x188_70, x188_71, x188_72, x188_75, x188_76, x188_79, x188_80, x188_81, x188_82, x188_83, x188_86, x188_87, x188_90, x188_91, x188_92, x188_93, x188_95, x188_98, x188_99, x188_100, x188_103, x188_104, x188_107, x188_108, x188_109, x188_110, x188_112, x188_115, x188_116, x188_119, x188_120, x188_121, x188_122, x188_123, x188_126, x188_127, x188_130, ka_kk_i, ka_kk_n, ka_cl_i, ka_cl_r, ka_cl_n, or_true, true_or, ka_ne2, ka_ne4, ka_ne5, ka_ne10, not_false_eq_true, not_true_eq_false, if_true, if_false, ka_k_0, ka_k_1, ka_k_2, ka_k_3, ka_k_4, ka_k_5, ka_k_6, ka_k_7, ka_k_8, ka_k_9, ka_k_10, ka_k_11, ka_k_12, ka_k_13, ka_k_14, ka_k_15, ka_k_16, ka_k_17, ka_k_18, ka_k_19, ka_k_20, ka_k_21, ka_k_22, ka_k_23, ka_k_24, ka_k_25, ka_k_26, ka_k_27, ka_k_28, ka_k_29, ka_k_30, ka_k_31, ka_k_32, ka_k_33, ka_k_34, ka_k_35, ka_k_36, ka_k_37, ka_k_38, ka_k_39, ka_k_40, ka_k_41, ka_k_42, ka_k_43, ka_k_44, ka_k_45, ka_k_46, ka_k_47, ka_k_48, ka_k_49, ka_k_50, ka_k_51, ka_k_52, ka_k_53, ka_k_54, ka_k_55, ka_k_56, ka_k_57, ka_k_58, ka_k_59, ka_k_60, ka_k_61, ka_k_62, ka_k_63, ka_k_64, ka_k_65, ka_k_66, ka_k_67, ka_k_68, ka_k_69, ka_k_70, ka_k_71, ka_k_72, ka_k_73, ka_k_74, ka_k_75, ka_k_76, ka_k_77, ka_k_78, ka_k_79, ka_k_80, ka_k_81, ka_k_82, ka_k_83, ka_k_84, ka_k_85, ka_k_86, ka_k_87, ka_k_88, ka_k_89, ka_k_90, ka_k_91, ka_k_92, ka_k_93, ka_k_94, ka_k_95, ka_k_96, ka_k_97, ka_k_98, ka_k_99, ka_k_100, q0, q1, q2, q3, q4, q5, q6, sp_155, a0, a1, a2, a3, a4, a5, a6, m18, sp_122 h8 w1, ka_c_0, ka_c_1, ka_c_2, ka_c_3, ka_c_4, ka_c_5, ka_c_6, ka_c_7, ka_c_8, ka_c_9, ka_c_10, ka_c_11, ka_c_12, ka_c_13, ka_c_14, ka_c_15, ka_c_16, ka_c_17, ka_c_18, ka_c_19, ka_c_20, ka_c_28, ka_c_40, ka_c_50, ka_c_87, wm_88, k1, @wb_1_tells_0 sc (d) X Q M W (n) r x hW h8 k0 k1 (by omega)]
theorem wb_2_cut_0 {n : Nat} {r : Nat → Int32} {x : Int32} (hW : Q 18 = W) (h8 : 0 ≤ W.toInt ∧ W.toInt < 8) (k0 : X 88 (13 + 9 * W.toNatClampNeg + 0) = 2) (k1 : X 88 (13 + 9 * W.toNatClampNeg + 1) = M) (hn : n + 1 ≤ 40) : ka_ex sc (d + 1) 185 0 [.ref 87, .int 0, .int x] [] (ka_mem (wm X Q n r)) = some (some (.int (x + W)), ka_mem (wm X Q (n + 1) (kn_up r (n) 10))) := by
  have q0 : ((0 : Int32) = 0) = True := by decide
  have q1 : ((0 : Int32) = 1) = False := by decide
  have q2 : ((0 : Int32) = 2) = False := by decide
  have q3 : ((0 : Int32) = 3) = False := by decide
  have q4 : ((0 : Int32) = 4) = False := by decide
  have q5 : ((0 : Int32) = 5) = False := by decide
  have q6 : ((0 : Int32) = 6) = False := by decide
  have w1 : 0 ≤ (1 : Int32).toInt ∧ (1 : Int32).toInt < 9 := by decide
  have m18 : ∀ n r, wm X Q n r 87 18 = W := fun n r => (wm_87 (by decide)).trans hW
  have a0 : (if (0 : Int32) < 4 then (0 : Int32) else 0 - 3) = 0 := by decide
  have a1 : (if (1 : Int32) < 4 then (0 : Int32) else 1 - 3) = 0 := by decide
  have a2 : (if (2 : Int32) < 4 then (0 : Int32) else 2 - 3) = 0 := by decide
  have a3 : (if (3 : Int32) < 4 then (0 : Int32) else 3 - 3) = 0 := by decide
  have a4 : (if (4 : Int32) < 4 then (0 : Int32) else 4 - 3) = 1 := by decide
  have a5 : (if (5 : Int32) < 4 then (0 : Int32) else 5 - 3) = 2 := by decide
  have a6 : (if (6 : Int32) < 4 then (0 : Int32) else 6 - 3) = 3 := by decide
  simp only [x185_0, x185_1, x185_28, x185_29, x185_31, x185_34, x185_35, x185_36, x185_39, x185_40, x185_41, x185_42, x185_44, x185_47, x185_48, x185_49, x185_52, x185_53, x185_56, x185_57, x185_58, x185_59, x185_60, x185_61, x185_64, x185_65, x185_68, ka_kk_i, ka_kk_n, ka_cl_i, ka_cl_r, ka_cl_n, or_true, true_or, ka_ne2, ka_ne4, ka_ne5, ka_ne10, not_false_eq_true, not_true_eq_false, if_true, if_false, ka_k_0, ka_k_1, ka_k_2, ka_k_3, ka_k_4, ka_k_5, ka_k_6, ka_k_7, ka_k_8, ka_k_9, ka_k_10, ka_k_11, ka_k_12, ka_k_13, ka_k_14, ka_k_15, ka_k_16, ka_k_17, ka_k_18, ka_k_19, ka_k_20, ka_k_21, ka_k_22, ka_k_23, ka_k_24, ka_k_25, ka_k_26, ka_k_27, ka_k_28, ka_k_29, ka_k_30, ka_k_31, ka_k_32, ka_k_33, ka_k_34, ka_k_35, ka_k_36, ka_k_37, ka_k_38, ka_k_39, ka_k_40, ka_k_41, ka_k_42, ka_k_43, ka_k_44, ka_k_45, ka_k_46, ka_k_47, ka_k_48, ka_k_49, ka_k_50, ka_k_51, ka_k_52, ka_k_53, ka_k_54, ka_k_55, ka_k_56, ka_k_57, ka_k_58, ka_k_59, ka_k_60, ka_k_61, ka_k_62, ka_k_63, ka_k_64, ka_k_65, ka_k_66, ka_k_67, ka_k_68, ka_k_69, ka_k_70, ka_k_71, ka_k_72, ka_k_73, ka_k_74, ka_k_75, ka_k_76, ka_k_77, ka_k_78, ka_k_79, ka_k_80, ka_k_81, ka_k_82, ka_k_83, ka_k_84, ka_k_85, ka_k_86, ka_k_87, ka_k_88, ka_k_89, ka_k_90, ka_k_91, ka_k_92, ka_k_93, ka_k_94, ka_k_95, ka_k_96, ka_k_97, ka_k_98, ka_k_99, ka_k_100, q0, q1, q2, q3, q4, q5, q6, sp_155, a0, a1, a2, a3, a4, a5, a6, m18, sp_122 h8 w1, ka_c_0, ka_c_1, ka_c_2, ka_c_3, ka_c_4, ka_c_5, ka_c_6, ka_c_7, ka_c_8, ka_c_9, ka_c_10, ka_c_11, ka_c_12, ka_c_13, ka_c_14, ka_c_15, ka_c_16, ka_c_17, ka_c_18, ka_c_19, ka_c_20, ka_c_28, ka_c_40, ka_c_50, ka_c_87, wm_88, k1, sp_183w (show n < 40 by omega)]
theorem wb_2_cut_2 {n : Nat} {r : Nat → Int32} {x : Int32} (hW : Q 18 = W) (h8 : 0 ≤ W.toInt ∧ W.toInt < 8) (k0 : X 88 (13 + 9 * W.toNatClampNeg + 0) = 2) (k1 : X 88 (13 + 9 * W.toNatClampNeg + 1) = M) (hn : n + 2 ≤ 40) : ka_ex sc (d + 2) 185 0 [.ref 87, .int 2, .int x] [] (ka_mem (wm X Q n r)) = some (some (.int ((x + W) * 3)), ka_mem (wm X Q (n + 1 + 1) (kn_up (kn_up r (n) 30) (n + 1) 10))) := by
  have q0 : ((2 : Int32) = 0) = False := by decide
  have q1 : ((2 : Int32) = 1) = False := by decide
  have q2 : ((2 : Int32) = 2) = True := by decide
  have q3 : ((2 : Int32) = 3) = False := by decide
  have q4 : ((2 : Int32) = 4) = False := by decide
  have q5 : ((2 : Int32) = 5) = False := by decide
  have q6 : ((2 : Int32) = 6) = False := by decide
  have w1 : 0 ≤ (1 : Int32).toInt ∧ (1 : Int32).toInt < 9 := by decide
  have m18 : ∀ n r, wm X Q n r 87 18 = W := fun n r => (wm_87 (by decide)).trans hW
  have a0 : (if (0 : Int32) < 4 then (0 : Int32) else 0 - 3) = 0 := by decide
  have a1 : (if (1 : Int32) < 4 then (0 : Int32) else 1 - 3) = 0 := by decide
  have a2 : (if (2 : Int32) < 4 then (0 : Int32) else 2 - 3) = 0 := by decide
  have a3 : (if (3 : Int32) < 4 then (0 : Int32) else 3 - 3) = 0 := by decide
  have a4 : (if (4 : Int32) < 4 then (0 : Int32) else 4 - 3) = 1 := by decide
  have a5 : (if (5 : Int32) < 4 then (0 : Int32) else 5 - 3) = 2 := by decide
  have a6 : (if (6 : Int32) < 4 then (0 : Int32) else 6 - 3) = 3 := by decide
  simp only [x185_0, x185_1, x185_28, x185_29, x185_31, x185_34, x185_35, x185_36, x185_39, x185_40, x185_41, x185_42, x185_44, x185_47, x185_48, x185_49, x185_52, x185_53, x185_56, x185_57, x185_58, x185_59, x185_60, x185_61, x185_64, x185_65, x185_68, ka_kk_i, ka_kk_n, ka_cl_i, ka_cl_r, ka_cl_n, or_true, true_or, ka_ne2, ka_ne4, ka_ne5, ka_ne10, not_false_eq_true, not_true_eq_false, if_true, if_false, ka_k_0, ka_k_1, ka_k_2, ka_k_3, ka_k_4, ka_k_5, ka_k_6, ka_k_7, ka_k_8, ka_k_9, ka_k_10, ka_k_11, ka_k_12, ka_k_13, ka_k_14, ka_k_15, ka_k_16, ka_k_17, ka_k_18, ka_k_19, ka_k_20, ka_k_21, ka_k_22, ka_k_23, ka_k_24, ka_k_25, ka_k_26, ka_k_27, ka_k_28, ka_k_29, ka_k_30, ka_k_31, ka_k_32, ka_k_33, ka_k_34, ka_k_35, ka_k_36, ka_k_37, ka_k_38, ka_k_39, ka_k_40, ka_k_41, ka_k_42, ka_k_43, ka_k_44, ka_k_45, ka_k_46, ka_k_47, ka_k_48, ka_k_49, ka_k_50, ka_k_51, ka_k_52, ka_k_53, ka_k_54, ka_k_55, ka_k_56, ka_k_57, ka_k_58, ka_k_59, ka_k_60, ka_k_61, ka_k_62, ka_k_63, ka_k_64, ka_k_65, ka_k_66, ka_k_67, ka_k_68, ka_k_69, ka_k_70, ka_k_71, ka_k_72, ka_k_73, ka_k_74, ka_k_75, ka_k_76, ka_k_77, ka_k_78, ka_k_79, ka_k_80, ka_k_81, ka_k_82, ka_k_83, ka_k_84, ka_k_85, ka_k_86, ka_k_87, ka_k_88, ka_k_89, ka_k_90, ka_k_91, ka_k_92, ka_k_93, ka_k_94, ka_k_95, ka_k_96, ka_k_97, ka_k_98, ka_k_99, ka_k_100, q0, q1, q2, q3, q4, q5, q6, sp_155, a0, a1, a2, a3, a4, a5, a6, m18, sp_122 h8 w1, ka_c_0, ka_c_1, ka_c_2, ka_c_3, ka_c_4, ka_c_5, ka_c_6, ka_c_7, ka_c_8, ka_c_9, ka_c_10, ka_c_11, ka_c_12, ka_c_13, ka_c_14, ka_c_15, ka_c_16, ka_c_17, ka_c_18, ka_c_19, ka_c_20, ka_c_28, ka_c_40, ka_c_50, ka_c_87, wm_88, k1, sp_183w (show n < 40 by omega), @wb_2_cut_0 sc (d) X Q M W (n + 1) (kn_up r (n) 30) x hW h8 k0 k1 (by omega)]
theorem wb_2_rings_0 {n : Nat} {r : Nat → Int32} {x : Int32} (hW : Q 18 = W) (h8 : 0 ≤ W.toInt ∧ W.toInt < 8) (k0 : X 88 (13 + 9 * W.toNatClampNeg + 0) = 2) (k1 : X 88 (13 + 9 * W.toNatClampNeg + 1) = M) (hn : n + 3 ≤ 40) : ka_ex sc (d + 3) 186 0 [.ref 87, .int 0, .int x, ka_nv] [] (ka_mem (wm X Q n r)) = some (some (.int (((x + W) * 3) * 2)), ka_mem (wm X Q (n + 1 + 1 + 1) (kn_up (kn_up (kn_up r (n) 11) (n + 1) 30) (n + 1 + 1) 10))) := by
  have q0 : ((0 : Int32) = 0) = True := by decide
  have q1 : ((0 : Int32) = 1) = False := by decide
  have q2 : ((0 : Int32) = 2) = False := by decide
  have q3 : ((0 : Int32) = 3) = False := by decide
  have q4 : ((0 : Int32) = 4) = False := by decide
  have q5 : ((0 : Int32) = 5) = False := by decide
  have q6 : ((0 : Int32) = 6) = False := by decide
  have w1 : 0 ≤ (1 : Int32).toInt ∧ (1 : Int32).toInt < 9 := by decide
  have m18 : ∀ n r, wm X Q n r 87 18 = W := fun n r => (wm_87 (by decide)).trans hW
  have a0 : (if (0 : Int32) < 4 then (0 : Int32) else 0 - 3) = 0 := by decide
  have a1 : (if (1 : Int32) < 4 then (0 : Int32) else 1 - 3) = 0 := by decide
  have a2 : (if (2 : Int32) < 4 then (0 : Int32) else 2 - 3) = 0 := by decide
  have a3 : (if (3 : Int32) < 4 then (0 : Int32) else 3 - 3) = 0 := by decide
  have a4 : (if (4 : Int32) < 4 then (0 : Int32) else 4 - 3) = 1 := by decide
  have a5 : (if (5 : Int32) < 4 then (0 : Int32) else 5 - 3) = 2 := by decide
  have a6 : (if (6 : Int32) < 4 then (0 : Int32) else 6 - 3) = 3 := by decide
  simp only [x186_0, x186_1, x186_36, x186_37, x186_39, x186_42, x186_43, x186_44, x186_47, x186_48, x186_51, x186_52, x186_53, x186_54, x186_55, x186_57, x186_60, x186_61, x186_62, x186_65, x186_66, x186_69, x186_70, x186_71, x186_72, x186_73, x186_76, x186_77, x186_80, x186_81, x186_82, x186_83, x186_85, x186_88, x186_89, x186_90, x186_93, x186_94, x186_95, x186_96, x186_99, x186_100, x186_101, x186_102, x186_105, x186_106, x186_109, ka_kk_i, ka_kk_n, ka_cl_i, ka_cl_r, ka_cl_n, or_true, true_or, ka_ne2, ka_ne4, ka_ne5, ka_ne10, not_false_eq_true, not_true_eq_false, if_true, if_false, ka_k_0, ka_k_1, ka_k_2, ka_k_3, ka_k_4, ka_k_5, ka_k_6, ka_k_7, ka_k_8, ka_k_9, ka_k_10, ka_k_11, ka_k_12, ka_k_13, ka_k_14, ka_k_15, ka_k_16, ka_k_17, ka_k_18, ka_k_19, ka_k_20, ka_k_21, ka_k_22, ka_k_23, ka_k_24, ka_k_25, ka_k_26, ka_k_27, ka_k_28, ka_k_29, ka_k_30, ka_k_31, ka_k_32, ka_k_33, ka_k_34, ka_k_35, ka_k_36, ka_k_37, ka_k_38, ka_k_39, ka_k_40, ka_k_41, ka_k_42, ka_k_43, ka_k_44, ka_k_45, ka_k_46, ka_k_47, ka_k_48, ka_k_49, ka_k_50, ka_k_51, ka_k_52, ka_k_53, ka_k_54, ka_k_55, ka_k_56, ka_k_57, ka_k_58, ka_k_59, ka_k_60, ka_k_61, ka_k_62, ka_k_63, ka_k_64, ka_k_65, ka_k_66, ka_k_67, ka_k_68, ka_k_69, ka_k_70, ka_k_71, ka_k_72, ka_k_73, ka_k_74, ka_k_75, ka_k_76, ka_k_77, ka_k_78, ka_k_79, ka_k_80, ka_k_81, ka_k_82, ka_k_83, ka_k_84, ka_k_85, ka_k_86, ka_k_87, ka_k_88, ka_k_89, ka_k_90, ka_k_91, ka_k_92, ka_k_93, ka_k_94, ka_k_95, ka_k_96, ka_k_97, ka_k_98, ka_k_99, ka_k_100, q0, q1, q2, q3, q4, q5, q6, sp_155, a0, a1, a2, a3, a4, a5, a6, m18, sp_122 h8 w1, ka_c_0, ka_c_1, ka_c_2, ka_c_3, ka_c_4, ka_c_5, ka_c_6, ka_c_7, ka_c_8, ka_c_9, ka_c_10, ka_c_11, ka_c_12, ka_c_13, ka_c_14, ka_c_15, ka_c_16, ka_c_17, ka_c_18, ka_c_19, ka_c_20, ka_c_28, ka_c_40, ka_c_50, ka_c_87, wm_88, k1, sp_183w (show n < 40 by omega), sp_184w hW h8 k0, @wb_2_cut_2 sc (d) X Q M W (n + 1) (kn_up r (n) 11) x hW h8 k0 k1 (by omega)]
theorem wb_2_rings_2 {n : Nat} {r : Nat → Int32} {x : Int32} (hW : Q 18 = W) (h8 : 0 ≤ W.toInt ∧ W.toInt < 8) (k0 : X 88 (13 + 9 * W.toNatClampNeg + 0) = 2) (k1 : X 88 (13 + 9 * W.toNatClampNeg + 1) = M) (hn : n + 3 ≤ 40) : ka_ex sc (d + 4) 186 0 [.ref 87, .int 2, .int x, ka_nv] [] (ka_mem (wm X Q n r)) = some (some (.int (((x + W) * 3) * 2)), ka_mem (wm X Q (n + 1 + 1 + 1) (kn_up (kn_up (kn_up r (n) 11) (n + 1) 30) (n + 1 + 1) 10))) := by
  have q0 : ((2 : Int32) = 0) = False := by decide
  have q1 : ((2 : Int32) = 1) = False := by decide
  have q2 : ((2 : Int32) = 2) = True := by decide
  have q3 : ((2 : Int32) = 3) = False := by decide
  have q4 : ((2 : Int32) = 4) = False := by decide
  have q5 : ((2 : Int32) = 5) = False := by decide
  have q6 : ((2 : Int32) = 6) = False := by decide
  have w1 : 0 ≤ (1 : Int32).toInt ∧ (1 : Int32).toInt < 9 := by decide
  have m18 : ∀ n r, wm X Q n r 87 18 = W := fun n r => (wm_87 (by decide)).trans hW
  have a0 : (if (0 : Int32) < 4 then (0 : Int32) else 0 - 3) = 0 := by decide
  have a1 : (if (1 : Int32) < 4 then (0 : Int32) else 1 - 3) = 0 := by decide
  have a2 : (if (2 : Int32) < 4 then (0 : Int32) else 2 - 3) = 0 := by decide
  have a3 : (if (3 : Int32) < 4 then (0 : Int32) else 3 - 3) = 0 := by decide
  have a4 : (if (4 : Int32) < 4 then (0 : Int32) else 4 - 3) = 1 := by decide
  have a5 : (if (5 : Int32) < 4 then (0 : Int32) else 5 - 3) = 2 := by decide
  have a6 : (if (6 : Int32) < 4 then (0 : Int32) else 6 - 3) = 3 := by decide
  simp only [x186_0, x186_1, x186_36, x186_37, x186_39, x186_42, x186_43, x186_44, x186_47, x186_48, x186_51, x186_52, x186_53, x186_54, x186_55, x186_57, x186_60, x186_61, x186_62, x186_65, x186_66, x186_69, x186_70, x186_71, x186_72, x186_73, x186_76, x186_77, x186_80, x186_81, x186_82, x186_83, x186_85, x186_88, x186_89, x186_90, x186_93, x186_94, x186_95, x186_96, x186_99, x186_100, x186_101, x186_102, x186_105, x186_106, x186_109, ka_kk_i, ka_kk_n, ka_cl_i, ka_cl_r, ka_cl_n, or_true, true_or, ka_ne2, ka_ne4, ka_ne5, ka_ne10, not_false_eq_true, not_true_eq_false, if_true, if_false, ka_k_0, ka_k_1, ka_k_2, ka_k_3, ka_k_4, ka_k_5, ka_k_6, ka_k_7, ka_k_8, ka_k_9, ka_k_10, ka_k_11, ka_k_12, ka_k_13, ka_k_14, ka_k_15, ka_k_16, ka_k_17, ka_k_18, ka_k_19, ka_k_20, ka_k_21, ka_k_22, ka_k_23, ka_k_24, ka_k_25, ka_k_26, ka_k_27, ka_k_28, ka_k_29, ka_k_30, ka_k_31, ka_k_32, ka_k_33, ka_k_34, ka_k_35, ka_k_36, ka_k_37, ka_k_38, ka_k_39, ka_k_40, ka_k_41, ka_k_42, ka_k_43, ka_k_44, ka_k_45, ka_k_46, ka_k_47, ka_k_48, ka_k_49, ka_k_50, ka_k_51, ka_k_52, ka_k_53, ka_k_54, ka_k_55, ka_k_56, ka_k_57, ka_k_58, ka_k_59, ka_k_60, ka_k_61, ka_k_62, ka_k_63, ka_k_64, ka_k_65, ka_k_66, ka_k_67, ka_k_68, ka_k_69, ka_k_70, ka_k_71, ka_k_72, ka_k_73, ka_k_74, ka_k_75, ka_k_76, ka_k_77, ka_k_78, ka_k_79, ka_k_80, ka_k_81, ka_k_82, ka_k_83, ka_k_84, ka_k_85, ka_k_86, ka_k_87, ka_k_88, ka_k_89, ka_k_90, ka_k_91, ka_k_92, ka_k_93, ka_k_94, ka_k_95, ka_k_96, ka_k_97, ka_k_98, ka_k_99, ka_k_100, q0, q1, q2, q3, q4, q5, q6, sp_155, a0, a1, a2, a3, a4, a5, a6, m18, sp_122 h8 w1, ka_c_0, ka_c_1, ka_c_2, ka_c_3, ka_c_4, ka_c_5, ka_c_6, ka_c_7, ka_c_8, ka_c_9, ka_c_10, ka_c_11, ka_c_12, ka_c_13, ka_c_14, ka_c_15, ka_c_16, ka_c_17, ka_c_18, ka_c_19, ka_c_20, ka_c_28, ka_c_40, ka_c_50, ka_c_87, wm_88, k1, @wb_2_rings_0 sc (d) X Q M W (n) r x hW h8 k0 k1 (by omega)]
theorem wb_2_grind_0 {n : Nat} {r : Nat → Int32} {x : Int32} (hW : Q 18 = W) (h8 : 0 ≤ W.toInt ∧ W.toInt < 8) (k0 : X 88 (13 + 9 * W.toNatClampNeg + 0) = 2) (k1 : X 88 (13 + 9 * W.toNatClampNeg + 1) = M) (hn : n + 1 ≤ 40) : ka_ex sc (d + 1) 187 0 [.ref 87, .int 0, .int x] [] (ka_mem (wm X Q n r)) = some (some (.int (x - M)), ka_mem (wm X Q (n + 1) (kn_up r (n) 12))) := by
  have q0 : ((0 : Int32) = 0) = True := by decide
  have q1 : ((0 : Int32) = 1) = False := by decide
  have q2 : ((0 : Int32) = 2) = False := by decide
  have q3 : ((0 : Int32) = 3) = False := by decide
  have q4 : ((0 : Int32) = 4) = False := by decide
  have q5 : ((0 : Int32) = 5) = False := by decide
  have q6 : ((0 : Int32) = 6) = False := by decide
  have w1 : 0 ≤ (1 : Int32).toInt ∧ (1 : Int32).toInt < 9 := by decide
  have m18 : ∀ n r, wm X Q n r 87 18 = W := fun n r => (wm_87 (by decide)).trans hW
  have a0 : (if (0 : Int32) < 4 then (0 : Int32) else 0 - 3) = 0 := by decide
  have a1 : (if (1 : Int32) < 4 then (0 : Int32) else 1 - 3) = 0 := by decide
  have a2 : (if (2 : Int32) < 4 then (0 : Int32) else 2 - 3) = 0 := by decide
  have a3 : (if (3 : Int32) < 4 then (0 : Int32) else 3 - 3) = 0 := by decide
  have a4 : (if (4 : Int32) < 4 then (0 : Int32) else 4 - 3) = 1 := by decide
  have a5 : (if (5 : Int32) < 4 then (0 : Int32) else 5 - 3) = 2 := by decide
  have a6 : (if (6 : Int32) < 4 then (0 : Int32) else 6 - 3) = 3 := by decide
  simp only [x187_0, x187_1, x187_36, x187_37, x187_39, x187_42, x187_43, x187_44, x187_45, x187_48, x187_49, x187_52, x187_53, x187_54, x187_55, x187_57, x187_60, x187_61, x187_62, x187_65, x187_66, x187_69, x187_70, x187_71, x187_72, x187_74, x187_77, x187_78, x187_80, x187_83, x187_84, x187_87, x187_88, x187_91, x187_92, x187_93, x187_94, x187_95, x187_98, x187_99, x187_102, ka_kk_i, ka_kk_n, ka_cl_i, ka_cl_r, ka_cl_n, or_true, true_or, ka_ne2, ka_ne4, ka_ne5, ka_ne10, not_false_eq_true, not_true_eq_false, if_true, if_false, ka_k_0, ka_k_1, ka_k_2, ka_k_3, ka_k_4, ka_k_5, ka_k_6, ka_k_7, ka_k_8, ka_k_9, ka_k_10, ka_k_11, ka_k_12, ka_k_13, ka_k_14, ka_k_15, ka_k_16, ka_k_17, ka_k_18, ka_k_19, ka_k_20, ka_k_21, ka_k_22, ka_k_23, ka_k_24, ka_k_25, ka_k_26, ka_k_27, ka_k_28, ka_k_29, ka_k_30, ka_k_31, ka_k_32, ka_k_33, ka_k_34, ka_k_35, ka_k_36, ka_k_37, ka_k_38, ka_k_39, ka_k_40, ka_k_41, ka_k_42, ka_k_43, ka_k_44, ka_k_45, ka_k_46, ka_k_47, ka_k_48, ka_k_49, ka_k_50, ka_k_51, ka_k_52, ka_k_53, ka_k_54, ka_k_55, ka_k_56, ka_k_57, ka_k_58, ka_k_59, ka_k_60, ka_k_61, ka_k_62, ka_k_63, ka_k_64, ka_k_65, ka_k_66, ka_k_67, ka_k_68, ka_k_69, ka_k_70, ka_k_71, ka_k_72, ka_k_73, ka_k_74, ka_k_75, ka_k_76, ka_k_77, ka_k_78, ka_k_79, ka_k_80, ka_k_81, ka_k_82, ka_k_83, ka_k_84, ka_k_85, ka_k_86, ka_k_87, ka_k_88, ka_k_89, ka_k_90, ka_k_91, ka_k_92, ka_k_93, ka_k_94, ka_k_95, ka_k_96, ka_k_97, ka_k_98, ka_k_99, ka_k_100, q0, q1, q2, q3, q4, q5, q6, sp_155, a0, a1, a2, a3, a4, a5, a6, m18, sp_122 h8 w1, ka_c_0, ka_c_1, ka_c_2, ka_c_3, ka_c_4, ka_c_5, ka_c_6, ka_c_7, ka_c_8, ka_c_9, ka_c_10, ka_c_11, ka_c_12, ka_c_13, ka_c_14, ka_c_15, ka_c_16, ka_c_17, ka_c_18, ka_c_19, ka_c_20, ka_c_28, ka_c_40, ka_c_50, ka_c_87, wm_88, k1, sp_183w (show n < 40 by omega)]
theorem wb_2_grind_2 {n : Nat} {r : Nat → Int32} {x : Int32} (hW : Q 18 = W) (h8 : 0 ≤ W.toInt ∧ W.toInt < 8) (k0 : X 88 (13 + 9 * W.toNatClampNeg + 0) = 2) (k1 : X 88 (13 + 9 * W.toNatClampNeg + 1) = M) (hn : n + 1 ≤ 40) : ka_ex sc (d + 2) 187 0 [.ref 87, .int 2, .int x] [] (ka_mem (wm X Q n r)) = some (some (.int (x - M)), ka_mem (wm X Q (n + 1) (kn_up r (n) 12))) := by
  have q0 : ((2 : Int32) = 0) = False := by decide
  have q1 : ((2 : Int32) = 1) = False := by decide
  have q2 : ((2 : Int32) = 2) = True := by decide
  have q3 : ((2 : Int32) = 3) = False := by decide
  have q4 : ((2 : Int32) = 4) = False := by decide
  have q5 : ((2 : Int32) = 5) = False := by decide
  have q6 : ((2 : Int32) = 6) = False := by decide
  have w1 : 0 ≤ (1 : Int32).toInt ∧ (1 : Int32).toInt < 9 := by decide
  have m18 : ∀ n r, wm X Q n r 87 18 = W := fun n r => (wm_87 (by decide)).trans hW
  have a0 : (if (0 : Int32) < 4 then (0 : Int32) else 0 - 3) = 0 := by decide
  have a1 : (if (1 : Int32) < 4 then (0 : Int32) else 1 - 3) = 0 := by decide
  have a2 : (if (2 : Int32) < 4 then (0 : Int32) else 2 - 3) = 0 := by decide
  have a3 : (if (3 : Int32) < 4 then (0 : Int32) else 3 - 3) = 0 := by decide
  have a4 : (if (4 : Int32) < 4 then (0 : Int32) else 4 - 3) = 1 := by decide
  have a5 : (if (5 : Int32) < 4 then (0 : Int32) else 5 - 3) = 2 := by decide
  have a6 : (if (6 : Int32) < 4 then (0 : Int32) else 6 - 3) = 3 := by decide
  simp only [x187_0, x187_1, x187_36, x187_37, x187_39, x187_42, x187_43, x187_44, x187_45, x187_48, x187_49, x187_52, x187_53, x187_54, x187_55, x187_57, x187_60, x187_61, x187_62, x187_65, x187_66, x187_69, x187_70, x187_71, x187_72, x187_74, x187_77, x187_78, x187_80, x187_83, x187_84, x187_87, x187_88, x187_91, x187_92, x187_93, x187_94, x187_95, x187_98, x187_99, x187_102, ka_kk_i, ka_kk_n, ka_cl_i, ka_cl_r, ka_cl_n, or_true, true_or, ka_ne2, ka_ne4, ka_ne5, ka_ne10, not_false_eq_true, not_true_eq_false, if_true, if_false, ka_k_0, ka_k_1, ka_k_2, ka_k_3, ka_k_4, ka_k_5, ka_k_6, ka_k_7, ka_k_8, ka_k_9, ka_k_10, ka_k_11, ka_k_12, ka_k_13, ka_k_14, ka_k_15, ka_k_16, ka_k_17, ka_k_18, ka_k_19, ka_k_20, ka_k_21, ka_k_22, ka_k_23, ka_k_24, ka_k_25, ka_k_26, ka_k_27, ka_k_28, ka_k_29, ka_k_30, ka_k_31, ka_k_32, ka_k_33, ka_k_34, ka_k_35, ka_k_36, ka_k_37, ka_k_38, ka_k_39, ka_k_40, ka_k_41, ka_k_42, ka_k_43, ka_k_44, ka_k_45, ka_k_46, ka_k_47, ka_k_48, ka_k_49, ka_k_50, ka_k_51, ka_k_52, ka_k_53, ka_k_54, ka_k_55, ka_k_56, ka_k_57, ka_k_58, ka_k_59, ka_k_60, ka_k_61, ka_k_62, ka_k_63, ka_k_64, ka_k_65, ka_k_66, ka_k_67, ka_k_68, ka_k_69, ka_k_70, ka_k_71, ka_k_72, ka_k_73, ka_k_74, ka_k_75, ka_k_76, ka_k_77, ka_k_78, ka_k_79, ka_k_80, ka_k_81, ka_k_82, ka_k_83, ka_k_84, ka_k_85, ka_k_86, ka_k_87, ka_k_88, ka_k_89, ka_k_90, ka_k_91, ka_k_92, ka_k_93, ka_k_94, ka_k_95, ka_k_96, ka_k_97, ka_k_98, ka_k_99, ka_k_100, q0, q1, q2, q3, q4, q5, q6, sp_155, a0, a1, a2, a3, a4, a5, a6, m18, sp_122 h8 w1, ka_c_0, ka_c_1, ka_c_2, ka_c_3, ka_c_4, ka_c_5, ka_c_6, ka_c_7, ka_c_8, ka_c_9, ka_c_10, ka_c_11, ka_c_12, ka_c_13, ka_c_14, ka_c_15, ka_c_16, ka_c_17, ka_c_18, ka_c_19, ka_c_20, ka_c_28, ka_c_40, ka_c_50, ka_c_87, wm_88, k1, @wb_2_grind_0 sc (d) X Q M W (n) r x hW h8 k0 k1 (by omega)]
theorem wb_2_tells_0 {n : Nat} {r : Nat → Int32} {x : Int32} (hW : Q 18 = W) (h8 : 0 ≤ W.toInt ∧ W.toInt < 8) (k0 : X 88 (13 + 9 * W.toNatClampNeg + 0) = 2) (k1 : X 88 (13 + 9 * W.toNatClampNeg + 1) = M) (hn : n + 5 ≤ 40) : ka_ex sc (d + 5) 188 0 [.ref 87, .int 0, .int x, ka_nv] [] (ka_mem (wm X Q n r)) = some (some (.int ((((x + W) * 3) * 2) ^^^ (x - M))), ka_mem (wm X Q (n + 1 + 1 + 1 + 1 + 1) (kn_up (kn_up (kn_up (kn_up (kn_up r (n) 13) (n + 1) 11) (n + 1 + 1) 30) (n + 1 + 1 + 1) 10) (n + 1 + 1 + 1 + 1) 12))) := by
  have q0 : ((0 : Int32) = 0) = True := by decide
  have q1 : ((0 : Int32) = 1) = False := by decide
  have q2 : ((0 : Int32) = 2) = False := by decide
  have q3 : ((0 : Int32) = 3) = False := by decide
  have q4 : ((0 : Int32) = 4) = False := by decide
  have q5 : ((0 : Int32) = 5) = False := by decide
  have q6 : ((0 : Int32) = 6) = False := by decide
  have w1 : 0 ≤ (1 : Int32).toInt ∧ (1 : Int32).toInt < 9 := by decide
  have m18 : ∀ n r, wm X Q n r 87 18 = W := fun n r => (wm_87 (by decide)).trans hW
  have a0 : (if (0 : Int32) < 4 then (0 : Int32) else 0 - 3) = 0 := by decide
  have a1 : (if (1 : Int32) < 4 then (0 : Int32) else 1 - 3) = 0 := by decide
  have a2 : (if (2 : Int32) < 4 then (0 : Int32) else 2 - 3) = 0 := by decide
  have a3 : (if (3 : Int32) < 4 then (0 : Int32) else 3 - 3) = 0 := by decide
  have a4 : (if (4 : Int32) < 4 then (0 : Int32) else 4 - 3) = 1 := by decide
  have a5 : (if (5 : Int32) < 4 then (0 : Int32) else 5 - 3) = 2 := by decide
  have a6 : (if (6 : Int32) < 4 then (0 : Int32) else 6 - 3) = 3 := by decide
  simp only [x188_0, x188_1, x188_36, x188_37, x188_39, x188_42, x188_43, x188_44, x188_47, x188_48, x188_51, x188_52, x188_53, x188_54, x188_55, x188_58, x188_59, x188_62, x188_63, x188_64, x188_65, x188_67, x188_70, x188_71, x188_72, x188_75, x188_76, x188_79, x188_80, x188_81, x188_82, x188_83, x188_86, x188_87, x188_90, x188_91, x188_92, x188_93, x188_95, x188_98, x188_99, x188_100, x188_103, x188_104, x188_107, x188_108, x188_109, x188_110, x188_112, x188_115, x188_116, x188_119, x188_120, x188_121, x188_122, x188_123, x188_126, x188_127, x188_130, ka_kk_i, ka_kk_n, ka_cl_i, ka_cl_r, ka_cl_n, or_true, true_or, ka_ne2, ka_ne4, ka_ne5, ka_ne10, not_false_eq_true, not_true_eq_false, if_true, if_false, ka_k_0, ka_k_1, ka_k_2, ka_k_3, ka_k_4, ka_k_5, ka_k_6, ka_k_7, ka_k_8, ka_k_9, ka_k_10, ka_k_11, ka_k_12, ka_k_13, ka_k_14, ka_k_15, ka_k_16, ka_k_17, ka_k_18, ka_k_19, ka_k_20, ka_k_21, ka_k_22, ka_k_23, ka_k_24, ka_k_25, ka_k_26, ka_k_27, ka_k_28, ka_k_29, ka_k_30, ka_k_31, ka_k_32, ka_k_33, ka_k_34, ka_k_35, ka_k_36, ka_k_37, ka_k_38, ka_k_39, ka_k_40, ka_k_41, ka_k_42, ka_k_43, ka_k_44, ka_k_45, ka_k_46, ka_k_47, ka_k_48, ka_k_49, ka_k_50, ka_k_51, ka_k_52, ka_k_53, ka_k_54, ka_k_55, ka_k_56, ka_k_57, ka_k_58, ka_k_59, ka_k_60, ka_k_61, ka_k_62, ka_k_63, ka_k_64, ka_k_65, ka_k_66, ka_k_67, ka_k_68, ka_k_69, ka_k_70, ka_k_71, ka_k_72, ka_k_73, ka_k_74, ka_k_75, ka_k_76, ka_k_77, ka_k_78, ka_k_79, ka_k_80, ka_k_81, ka_k_82, ka_k_83, ka_k_84, ka_k_85, ka_k_86, ka_k_87, ka_k_88, ka_k_89, ka_k_90, ka_k_91, ka_k_92, ka_k_93, ka_k_94, ka_k_95, ka_k_96, ka_k_97, ka_k_98, ka_k_99, ka_k_100, q0, q1, q2, q3, q4, q5, q6, sp_155, a0, a1, a2, a3, a4, a5, a6, m18, sp_122 h8 w1, ka_c_0, ka_c_1, ka_c_2, ka_c_3, ka_c_4, ka_c_5, ka_c_6, ka_c_7, ka_c_8, ka_c_9, ka_c_10, ka_c_11, ka_c_12, ka_c_13, ka_c_14, ka_c_15, ka_c_16, ka_c_17, ka_c_18, ka_c_19, ka_c_20, ka_c_28, ka_c_40, ka_c_50, ka_c_87, wm_88, k1, sp_183w (show n < 40 by omega), sp_184w hW h8 k0, @wb_2_rings_2 sc (d) X Q M W (n + 1) (kn_up r (n) 13) x hW h8 k0 k1 (by omega), @wb_2_grind_2 sc (d + 2) X Q M W (n + 1 + 1 + 1 + 1) (kn_up (kn_up (kn_up (kn_up r (n) 13) (n + 1) 11) (n + 1 + 1) 30) (n + 1 + 1 + 1) 10) x hW h8 k0 k1 (by omega)]
theorem wb_2_tells_2 {n : Nat} {r : Nat → Int32} {x : Int32} (hW : Q 18 = W) (h8 : 0 ≤ W.toInt ∧ W.toInt < 8) (k0 : X 88 (13 + 9 * W.toNatClampNeg + 0) = 2) (k1 : X 88 (13 + 9 * W.toNatClampNeg + 1) = M) (hn : n + 5 ≤ 40) : ka_ex sc (d + 6) 188 0 [.ref 87, .int 2, .int x, ka_nv] [] (ka_mem (wm X Q n r)) = some (some (.int ((((x + W) * 3) * 2) ^^^ (x - M))), ka_mem (wm X Q (n + 1 + 1 + 1 + 1 + 1) (kn_up (kn_up (kn_up (kn_up (kn_up r (n) 13) (n + 1) 11) (n + 1 + 1) 30) (n + 1 + 1 + 1) 10) (n + 1 + 1 + 1 + 1) 12))) := by
  have q0 : ((2 : Int32) = 0) = False := by decide
  have q1 : ((2 : Int32) = 1) = False := by decide
  have q2 : ((2 : Int32) = 2) = True := by decide
  have q3 : ((2 : Int32) = 3) = False := by decide
  have q4 : ((2 : Int32) = 4) = False := by decide
  have q5 : ((2 : Int32) = 5) = False := by decide
  have q6 : ((2 : Int32) = 6) = False := by decide
  have w1 : 0 ≤ (1 : Int32).toInt ∧ (1 : Int32).toInt < 9 := by decide
  have m18 : ∀ n r, wm X Q n r 87 18 = W := fun n r => (wm_87 (by decide)).trans hW
  have a0 : (if (0 : Int32) < 4 then (0 : Int32) else 0 - 3) = 0 := by decide
  have a1 : (if (1 : Int32) < 4 then (0 : Int32) else 1 - 3) = 0 := by decide
  have a2 : (if (2 : Int32) < 4 then (0 : Int32) else 2 - 3) = 0 := by decide
  have a3 : (if (3 : Int32) < 4 then (0 : Int32) else 3 - 3) = 0 := by decide
  have a4 : (if (4 : Int32) < 4 then (0 : Int32) else 4 - 3) = 1 := by decide
  have a5 : (if (5 : Int32) < 4 then (0 : Int32) else 5 - 3) = 2 := by decide
  have a6 : (if (6 : Int32) < 4 then (0 : Int32) else 6 - 3) = 3 := by decide
  simp only [x188_0, x188_1, x188_36, x188_37, x188_39, x188_42, x188_43, x188_44, x188_47, x188_48, x188_51, x188_52, x188_53, x188_54, x188_55, x188_58, x188_59, x188_62, x188_63, x188_64, x188_65, x188_67, x188_70, x188_71, x188_72, x188_75, x188_76, x188_79, x188_80, x188_81, x188_82, x188_83, x188_86, x188_87, x188_90, x188_91, x188_92, x188_93, x188_95, x188_98, x188_99, x188_100, x188_103, x188_104, x188_107, x188_108, x188_109, x188_110, x188_112, x188_115, x188_116, x188_119, x188_120, x188_121, x188_122, x188_123, x188_126, x188_127, x188_130, ka_kk_i, ka_kk_n, ka_cl_i, ka_cl_r, ka_cl_n, or_true, true_or, ka_ne2, ka_ne4, ka_ne5, ka_ne10, not_false_eq_true, not_true_eq_false, if_true, if_false, ka_k_0, ka_k_1, ka_k_2, ka_k_3, ka_k_4, ka_k_5, ka_k_6, ka_k_7, ka_k_8, ka_k_9, ka_k_10, ka_k_11, ka_k_12, ka_k_13, ka_k_14, ka_k_15, ka_k_16, ka_k_17, ka_k_18, ka_k_19, ka_k_20, ka_k_21, ka_k_22, ka_k_23, ka_k_24, ka_k_25, ka_k_26, ka_k_27, ka_k_28, ka_k_29, ka_k_30, ka_k_31, ka_k_32, ka_k_33, ka_k_34, ka_k_35, ka_k_36, ka_k_37, ka_k_38, ka_k_39, ka_k_40, ka_k_41, ka_k_42, ka_k_43, ka_k_44, ka_k_45, ka_k_46, ka_k_47, ka_k_48, ka_k_49, ka_k_50, ka_k_51, ka_k_52, ka_k_53, ka_k_54, ka_k_55, ka_k_56, ka_k_57, ka_k_58, ka_k_59, ka_k_60, ka_k_61, ka_k_62, ka_k_63, ka_k_64, ka_k_65, ka_k_66, ka_k_67, ka_k_68, ka_k_69, ka_k_70, ka_k_71, ka_k_72, ka_k_73, ka_k_74, ka_k_75, ka_k_76, ka_k_77, ka_k_78, ka_k_79, ka_k_80, ka_k_81, ka_k_82, ka_k_83, ka_k_84, ka_k_85, ka_k_86, ka_k_87, ka_k_88, ka_k_89, ka_k_90, ka_k_91, ka_k_92, ka_k_93, ka_k_94, ka_k_95, ka_k_96, ka_k_97, ka_k_98, ka_k_99, ka_k_100, q0, q1, q2, q3, q4, q5, q6, sp_155, a0, a1, a2, a3, a4, a5, a6, m18, sp_122 h8 w1, ka_c_0, ka_c_1, ka_c_2, ka_c_3, ka_c_4, ka_c_5, ka_c_6, ka_c_7, ka_c_8, ka_c_9, ka_c_10, ka_c_11, ka_c_12, ka_c_13, ka_c_14, ka_c_15, ka_c_16, ka_c_17, ka_c_18, ka_c_19, ka_c_20, ka_c_28, ka_c_40, ka_c_50, ka_c_87, wm_88, k1, @wb_2_tells_0 sc (d) X Q M W (n) r x hW h8 k0 k1 (by omega)]
theorem wb_3_cut_0 {n : Nat} {r : Nat → Int32} {x : Int32} (hW : Q 18 = W) (h8 : 0 ≤ W.toInt ∧ W.toInt < 8) (k0 : X 88 (13 + 9 * W.toNatClampNeg + 0) = 3) (k1 : X 88 (13 + 9 * W.toNatClampNeg + 1) = M) (hn : n + 1 ≤ 40) : ka_ex sc (d + 1) 185 0 [.ref 87, .int 0, .int x] [] (ka_mem (wm X Q n r)) = some (some (.int (x + W)), ka_mem (wm X Q (n + 1) (kn_up r (n) 10))) := by
  have q0 : ((0 : Int32) = 0) = True := by decide
  have q1 : ((0 : Int32) = 1) = False := by decide
  have q2 : ((0 : Int32) = 2) = False := by decide
  have q3 : ((0 : Int32) = 3) = False := by decide
  have q4 : ((0 : Int32) = 4) = False := by decide
  have q5 : ((0 : Int32) = 5) = False := by decide
  have q6 : ((0 : Int32) = 6) = False := by decide
  have w1 : 0 ≤ (1 : Int32).toInt ∧ (1 : Int32).toInt < 9 := by decide
  have m18 : ∀ n r, wm X Q n r 87 18 = W := fun n r => (wm_87 (by decide)).trans hW
  have a0 : (if (0 : Int32) < 4 then (0 : Int32) else 0 - 3) = 0 := by decide
  have a1 : (if (1 : Int32) < 4 then (0 : Int32) else 1 - 3) = 0 := by decide
  have a2 : (if (2 : Int32) < 4 then (0 : Int32) else 2 - 3) = 0 := by decide
  have a3 : (if (3 : Int32) < 4 then (0 : Int32) else 3 - 3) = 0 := by decide
  have a4 : (if (4 : Int32) < 4 then (0 : Int32) else 4 - 3) = 1 := by decide
  have a5 : (if (5 : Int32) < 4 then (0 : Int32) else 5 - 3) = 2 := by decide
  have a6 : (if (6 : Int32) < 4 then (0 : Int32) else 6 - 3) = 3 := by decide
  simp only [x185_0, x185_1, x185_28, x185_29, x185_31, x185_34, x185_35, x185_36, x185_39, x185_40, x185_41, x185_42, x185_44, x185_47, x185_48, x185_49, x185_52, x185_53, x185_56, x185_57, x185_58, x185_59, x185_60, x185_61, x185_64, x185_65, x185_68, ka_kk_i, ka_kk_n, ka_cl_i, ka_cl_r, ka_cl_n, or_true, true_or, ka_ne2, ka_ne4, ka_ne5, ka_ne10, not_false_eq_true, not_true_eq_false, if_true, if_false, ka_k_0, ka_k_1, ka_k_2, ka_k_3, ka_k_4, ka_k_5, ka_k_6, ka_k_7, ka_k_8, ka_k_9, ka_k_10, ka_k_11, ka_k_12, ka_k_13, ka_k_14, ka_k_15, ka_k_16, ka_k_17, ka_k_18, ka_k_19, ka_k_20, ka_k_21, ka_k_22, ka_k_23, ka_k_24, ka_k_25, ka_k_26, ka_k_27, ka_k_28, ka_k_29, ka_k_30, ka_k_31, ka_k_32, ka_k_33, ka_k_34, ka_k_35, ka_k_36, ka_k_37, ka_k_38, ka_k_39, ka_k_40, ka_k_41, ka_k_42, ka_k_43, ka_k_44, ka_k_45, ka_k_46, ka_k_47, ka_k_48, ka_k_49, ka_k_50, ka_k_51, ka_k_52, ka_k_53, ka_k_54, ka_k_55, ka_k_56, ka_k_57, ka_k_58, ka_k_59, ka_k_60, ka_k_61, ka_k_62, ka_k_63, ka_k_64, ka_k_65, ka_k_66, ka_k_67, ka_k_68, ka_k_69, ka_k_70, ka_k_71, ka_k_72, ka_k_73, ka_k_74, ka_k_75, ka_k_76, ka_k_77, ka_k_78, ka_k_79, ka_k_80, ka_k_81, ka_k_82, ka_k_83, ka_k_84, ka_k_85, ka_k_86, ka_k_87, ka_k_88, ka_k_89, ka_k_90, ka_k_91, ka_k_92, ka_k_93, ka_k_94, ka_k_95, ka_k_96, ka_k_97, ka_k_98, ka_k_99, ka_k_100, q0, q1, q2, q3, q4, q5, q6, sp_155, a0, a1, a2, a3, a4, a5, a6, m18, sp_122 h8 w1, ka_c_0, ka_c_1, ka_c_2, ka_c_3, ka_c_4, ka_c_5, ka_c_6, ka_c_7, ka_c_8, ka_c_9, ka_c_10, ka_c_11, ka_c_12, ka_c_13, ka_c_14, ka_c_15, ka_c_16, ka_c_17, ka_c_18, ka_c_19, ka_c_20, ka_c_28, ka_c_40, ka_c_50, ka_c_87, wm_88, k1, sp_183w (show n < 40 by omega)]
theorem wb_3_cut_3 {n : Nat} {r : Nat → Int32} {x : Int32} (hW : Q 18 = W) (h8 : 0 ≤ W.toInt ∧ W.toInt < 8) (k0 : X 88 (13 + 9 * W.toNatClampNeg + 0) = 3) (k1 : X 88 (13 + 9 * W.toNatClampNeg + 1) = M) (hn : n + 1 ≤ 40) : ka_ex sc (d + 2) 185 0 [.ref 87, .int 3, .int x] [] (ka_mem (wm X Q n r)) = some (some (.int (x + W)), ka_mem (wm X Q (n + 1) (kn_up r (n) 10))) := by
  have q0 : ((3 : Int32) = 0) = False := by decide
  have q1 : ((3 : Int32) = 1) = False := by decide
  have q2 : ((3 : Int32) = 2) = False := by decide
  have q3 : ((3 : Int32) = 3) = True := by decide
  have q4 : ((3 : Int32) = 4) = False := by decide
  have q5 : ((3 : Int32) = 5) = False := by decide
  have q6 : ((3 : Int32) = 6) = False := by decide
  have w1 : 0 ≤ (1 : Int32).toInt ∧ (1 : Int32).toInt < 9 := by decide
  have m18 : ∀ n r, wm X Q n r 87 18 = W := fun n r => (wm_87 (by decide)).trans hW
  have a0 : (if (0 : Int32) < 4 then (0 : Int32) else 0 - 3) = 0 := by decide
  have a1 : (if (1 : Int32) < 4 then (0 : Int32) else 1 - 3) = 0 := by decide
  have a2 : (if (2 : Int32) < 4 then (0 : Int32) else 2 - 3) = 0 := by decide
  have a3 : (if (3 : Int32) < 4 then (0 : Int32) else 3 - 3) = 0 := by decide
  have a4 : (if (4 : Int32) < 4 then (0 : Int32) else 4 - 3) = 1 := by decide
  have a5 : (if (5 : Int32) < 4 then (0 : Int32) else 5 - 3) = 2 := by decide
  have a6 : (if (6 : Int32) < 4 then (0 : Int32) else 6 - 3) = 3 := by decide
  simp only [x185_0, x185_1, x185_28, x185_29, x185_31, x185_34, x185_35, x185_36, x185_39, x185_40, x185_41, x185_42, x185_44, x185_47, x185_48, x185_49, x185_52, x185_53, x185_56, x185_57, x185_58, x185_59, x185_60, x185_61, x185_64, x185_65, x185_68, ka_kk_i, ka_kk_n, ka_cl_i, ka_cl_r, ka_cl_n, or_true, true_or, ka_ne2, ka_ne4, ka_ne5, ka_ne10, not_false_eq_true, not_true_eq_false, if_true, if_false, ka_k_0, ka_k_1, ka_k_2, ka_k_3, ka_k_4, ka_k_5, ka_k_6, ka_k_7, ka_k_8, ka_k_9, ka_k_10, ka_k_11, ka_k_12, ka_k_13, ka_k_14, ka_k_15, ka_k_16, ka_k_17, ka_k_18, ka_k_19, ka_k_20, ka_k_21, ka_k_22, ka_k_23, ka_k_24, ka_k_25, ka_k_26, ka_k_27, ka_k_28, ka_k_29, ka_k_30, ka_k_31, ka_k_32, ka_k_33, ka_k_34, ka_k_35, ka_k_36, ka_k_37, ka_k_38, ka_k_39, ka_k_40, ka_k_41, ka_k_42, ka_k_43, ka_k_44, ka_k_45, ka_k_46, ka_k_47, ka_k_48, ka_k_49, ka_k_50, ka_k_51, ka_k_52, ka_k_53, ka_k_54, ka_k_55, ka_k_56, ka_k_57, ka_k_58, ka_k_59, ka_k_60, ka_k_61, ka_k_62, ka_k_63, ka_k_64, ka_k_65, ka_k_66, ka_k_67, ka_k_68, ka_k_69, ka_k_70, ka_k_71, ka_k_72, ka_k_73, ka_k_74, ka_k_75, ka_k_76, ka_k_77, ka_k_78, ka_k_79, ka_k_80, ka_k_81, ka_k_82, ka_k_83, ka_k_84, ka_k_85, ka_k_86, ka_k_87, ka_k_88, ka_k_89, ka_k_90, ka_k_91, ka_k_92, ka_k_93, ka_k_94, ka_k_95, ka_k_96, ka_k_97, ka_k_98, ka_k_99, ka_k_100, q0, q1, q2, q3, q4, q5, q6, sp_155, a0, a1, a2, a3, a4, a5, a6, m18, sp_122 h8 w1, ka_c_0, ka_c_1, ka_c_2, ka_c_3, ka_c_4, ka_c_5, ka_c_6, ka_c_7, ka_c_8, ka_c_9, ka_c_10, ka_c_11, ka_c_12, ka_c_13, ka_c_14, ka_c_15, ka_c_16, ka_c_17, ka_c_18, ka_c_19, ka_c_20, ka_c_28, ka_c_40, ka_c_50, ka_c_87, wm_88, k1, @wb_3_cut_0 sc (d) X Q M W (n) r x hW h8 k0 k1 (by omega)]
theorem wb_3_rings_0 {n : Nat} {r : Nat → Int32} {x : Int32} (hW : Q 18 = W) (h8 : 0 ≤ W.toInt ∧ W.toInt < 8) (k0 : X 88 (13 + 9 * W.toNatClampNeg + 0) = 3) (k1 : X 88 (13 + 9 * W.toNatClampNeg + 1) = M) (hn : n + 2 ≤ 40) : ka_ex sc (d + 3) 186 0 [.ref 87, .int 0, .int x, ka_nv] [] (ka_mem (wm X Q n r)) = some (some (.int ((x + W) * 2)), ka_mem (wm X Q (n + 1 + 1) (kn_up (kn_up r (n) 11) (n + 1) 10))) := by
  have q0 : ((0 : Int32) = 0) = True := by decide
  have q1 : ((0 : Int32) = 1) = False := by decide
  have q2 : ((0 : Int32) = 2) = False := by decide
  have q3 : ((0 : Int32) = 3) = False := by decide
  have q4 : ((0 : Int32) = 4) = False := by decide
  have q5 : ((0 : Int32) = 5) = False := by decide
  have q6 : ((0 : Int32) = 6) = False := by decide
  have w1 : 0 ≤ (1 : Int32).toInt ∧ (1 : Int32).toInt < 9 := by decide
  have m18 : ∀ n r, wm X Q n r 87 18 = W := fun n r => (wm_87 (by decide)).trans hW
  have a0 : (if (0 : Int32) < 4 then (0 : Int32) else 0 - 3) = 0 := by decide
  have a1 : (if (1 : Int32) < 4 then (0 : Int32) else 1 - 3) = 0 := by decide
  have a2 : (if (2 : Int32) < 4 then (0 : Int32) else 2 - 3) = 0 := by decide
  have a3 : (if (3 : Int32) < 4 then (0 : Int32) else 3 - 3) = 0 := by decide
  have a4 : (if (4 : Int32) < 4 then (0 : Int32) else 4 - 3) = 1 := by decide
  have a5 : (if (5 : Int32) < 4 then (0 : Int32) else 5 - 3) = 2 := by decide
  have a6 : (if (6 : Int32) < 4 then (0 : Int32) else 6 - 3) = 3 := by decide
  simp only [x186_0, x186_1, x186_36, x186_37, x186_39, x186_42, x186_43, x186_44, x186_47, x186_48, x186_51, x186_52, x186_53, x186_54, x186_55, x186_57, x186_60, x186_61, x186_62, x186_65, x186_66, x186_69, x186_70, x186_71, x186_72, x186_73, x186_76, x186_77, x186_80, x186_81, x186_82, x186_83, x186_85, x186_88, x186_89, x186_90, x186_93, x186_94, x186_95, x186_96, x186_99, x186_100, x186_101, x186_102, x186_105, x186_106, x186_109, ka_kk_i, ka_kk_n, ka_cl_i, ka_cl_r, ka_cl_n, or_true, true_or, ka_ne2, ka_ne4, ka_ne5, ka_ne10, not_false_eq_true, not_true_eq_false, if_true, if_false, ka_k_0, ka_k_1, ka_k_2, ka_k_3, ka_k_4, ka_k_5, ka_k_6, ka_k_7, ka_k_8, ka_k_9, ka_k_10, ka_k_11, ka_k_12, ka_k_13, ka_k_14, ka_k_15, ka_k_16, ka_k_17, ka_k_18, ka_k_19, ka_k_20, ka_k_21, ka_k_22, ka_k_23, ka_k_24, ka_k_25, ka_k_26, ka_k_27, ka_k_28, ka_k_29, ka_k_30, ka_k_31, ka_k_32, ka_k_33, ka_k_34, ka_k_35, ka_k_36, ka_k_37, ka_k_38, ka_k_39, ka_k_40, ka_k_41, ka_k_42, ka_k_43, ka_k_44, ka_k_45, ka_k_46, ka_k_47, ka_k_48, ka_k_49, ka_k_50, ka_k_51, ka_k_52, ka_k_53, ka_k_54, ka_k_55, ka_k_56, ka_k_57, ka_k_58, ka_k_59, ka_k_60, ka_k_61, ka_k_62, ka_k_63, ka_k_64, ka_k_65, ka_k_66, ka_k_67, ka_k_68, ka_k_69, ka_k_70, ka_k_71, ka_k_72, ka_k_73, ka_k_74, ka_k_75, ka_k_76, ka_k_77, ka_k_78, ka_k_79, ka_k_80, ka_k_81, ka_k_82, ka_k_83, ka_k_84, ka_k_85, ka_k_86, ka_k_87, ka_k_88, ka_k_89, ka_k_90, ka_k_91, ka_k_92, ka_k_93, ka_k_94, ka_k_95, ka_k_96, ka_k_97, ka_k_98, ka_k_99, ka_k_100, q0, q1, q2, q3, q4, q5, q6, sp_155, a0, a1, a2, a3, a4, a5, a6, m18, sp_122 h8 w1, ka_c_0, ka_c_1, ka_c_2, ka_c_3, ka_c_4, ka_c_5, ka_c_6, ka_c_7, ka_c_8, ka_c_9, ka_c_10, ka_c_11, ka_c_12, ka_c_13, ka_c_14, ka_c_15, ka_c_16, ka_c_17, ka_c_18, ka_c_19, ka_c_20, ka_c_28, ka_c_40, ka_c_50, ka_c_87, wm_88, k1, sp_183w (show n < 40 by omega), sp_184w hW h8 k0, @wb_3_cut_3 sc (d) X Q M W (n + 1) (kn_up r (n) 11) x hW h8 k0 k1 (by omega)]
theorem wb_3_rings_3 {n : Nat} {r : Nat → Int32} {x : Int32} (hW : Q 18 = W) (h8 : 0 ≤ W.toInt ∧ W.toInt < 8) (k0 : X 88 (13 + 9 * W.toNatClampNeg + 0) = 3) (k1 : X 88 (13 + 9 * W.toNatClampNeg + 1) = M) (hn : n + 2 ≤ 40) : ka_ex sc (d + 4) 186 0 [.ref 87, .int 3, .int x, ka_nv] [] (ka_mem (wm X Q n r)) = some (some (.int ((x + W) * 2)), ka_mem (wm X Q (n + 1 + 1) (kn_up (kn_up r (n) 11) (n + 1) 10))) := by
  have q0 : ((3 : Int32) = 0) = False := by decide
  have q1 : ((3 : Int32) = 1) = False := by decide
  have q2 : ((3 : Int32) = 2) = False := by decide
  have q3 : ((3 : Int32) = 3) = True := by decide
  have q4 : ((3 : Int32) = 4) = False := by decide
  have q5 : ((3 : Int32) = 5) = False := by decide
  have q6 : ((3 : Int32) = 6) = False := by decide
  have w1 : 0 ≤ (1 : Int32).toInt ∧ (1 : Int32).toInt < 9 := by decide
  have m18 : ∀ n r, wm X Q n r 87 18 = W := fun n r => (wm_87 (by decide)).trans hW
  have a0 : (if (0 : Int32) < 4 then (0 : Int32) else 0 - 3) = 0 := by decide
  have a1 : (if (1 : Int32) < 4 then (0 : Int32) else 1 - 3) = 0 := by decide
  have a2 : (if (2 : Int32) < 4 then (0 : Int32) else 2 - 3) = 0 := by decide
  have a3 : (if (3 : Int32) < 4 then (0 : Int32) else 3 - 3) = 0 := by decide
  have a4 : (if (4 : Int32) < 4 then (0 : Int32) else 4 - 3) = 1 := by decide
  have a5 : (if (5 : Int32) < 4 then (0 : Int32) else 5 - 3) = 2 := by decide
  have a6 : (if (6 : Int32) < 4 then (0 : Int32) else 6 - 3) = 3 := by decide
  simp only [x186_0, x186_1, x186_36, x186_37, x186_39, x186_42, x186_43, x186_44, x186_47, x186_48, x186_51, x186_52, x186_53, x186_54, x186_55, x186_57, x186_60, x186_61, x186_62, x186_65, x186_66, x186_69, x186_70, x186_71, x186_72, x186_73, x186_76, x186_77, x186_80, x186_81, x186_82, x186_83, x186_85, x186_88, x186_89, x186_90, x186_93, x186_94, x186_95, x186_96, x186_99, x186_100, x186_101, x186_102, x186_105, x186_106, x186_109, ka_kk_i, ka_kk_n, ka_cl_i, ka_cl_r, ka_cl_n, or_true, true_or, ka_ne2, ka_ne4, ka_ne5, ka_ne10, not_false_eq_true, not_true_eq_false, if_true, if_false, ka_k_0, ka_k_1, ka_k_2, ka_k_3, ka_k_4, ka_k_5, ka_k_6, ka_k_7, ka_k_8, ka_k_9, ka_k_10, ka_k_11, ka_k_12, ka_k_13, ka_k_14, ka_k_15, ka_k_16, ka_k_17, ka_k_18, ka_k_19, ka_k_20, ka_k_21, ka_k_22, ka_k_23, ka_k_24, ka_k_25, ka_k_26, ka_k_27, ka_k_28, ka_k_29, ka_k_30, ka_k_31, ka_k_32, ka_k_33, ka_k_34, ka_k_35, ka_k_36, ka_k_37, ka_k_38, ka_k_39, ka_k_40, ka_k_41, ka_k_42, ka_k_43, ka_k_44, ka_k_45, ka_k_46, ka_k_47, ka_k_48, ka_k_49, ka_k_50, ka_k_51, ka_k_52, ka_k_53, ka_k_54, ka_k_55, ka_k_56, ka_k_57, ka_k_58, ka_k_59, ka_k_60, ka_k_61, ka_k_62, ka_k_63, ka_k_64, ka_k_65, ka_k_66, ka_k_67, ka_k_68, ka_k_69, ka_k_70, ka_k_71, ka_k_72, ka_k_73, ka_k_74, ka_k_75, ka_k_76, ka_k_77, ka_k_78, ka_k_79, ka_k_80, ka_k_81, ka_k_82, ka_k_83, ka_k_84, ka_k_85, ka_k_86, ka_k_87, ka_k_88, ka_k_89, ka_k_90, ka_k_91, ka_k_92, ka_k_93, ka_k_94, ka_k_95, ka_k_96, ka_k_97, ka_k_98, ka_k_99, ka_k_100, q0, q1, q2, q3, q4, q5, q6, sp_155, a0, a1, a2, a3, a4, a5, a6, m18, sp_122 h8 w1, ka_c_0, ka_c_1, ka_c_2, ka_c_3, ka_c_4, ka_c_5, ka_c_6, ka_c_7, ka_c_8, ka_c_9, ka_c_10, ka_c_11, ka_c_12, ka_c_13, ka_c_14, ka_c_15, ka_c_16, ka_c_17, ka_c_18, ka_c_19, ka_c_20, ka_c_28, ka_c_40, ka_c_50, ka_c_87, wm_88, k1, @wb_3_rings_0 sc (d) X Q M W (n) r x hW h8 k0 k1 (by omega)]
theorem wb_3_grind_0 {n : Nat} {r : Nat → Int32} {x : Int32} (hW : Q 18 = W) (h8 : 0 ≤ W.toInt ∧ W.toInt < 8) (k0 : X 88 (13 + 9 * W.toNatClampNeg + 0) = 3) (k1 : X 88 (13 + 9 * W.toNatClampNeg + 1) = M) (hn : n + 1 ≤ 40) : ka_ex sc (d + 1) 187 0 [.ref 87, .int 0, .int x] [] (ka_mem (wm X Q n r)) = some (some (.int (x - M)), ka_mem (wm X Q (n + 1) (kn_up r (n) 12))) := by
  have q0 : ((0 : Int32) = 0) = True := by decide
  have q1 : ((0 : Int32) = 1) = False := by decide
  have q2 : ((0 : Int32) = 2) = False := by decide
  have q3 : ((0 : Int32) = 3) = False := by decide
  have q4 : ((0 : Int32) = 4) = False := by decide
  have q5 : ((0 : Int32) = 5) = False := by decide
  have q6 : ((0 : Int32) = 6) = False := by decide
  have w1 : 0 ≤ (1 : Int32).toInt ∧ (1 : Int32).toInt < 9 := by decide
  have m18 : ∀ n r, wm X Q n r 87 18 = W := fun n r => (wm_87 (by decide)).trans hW
  have a0 : (if (0 : Int32) < 4 then (0 : Int32) else 0 - 3) = 0 := by decide
  have a1 : (if (1 : Int32) < 4 then (0 : Int32) else 1 - 3) = 0 := by decide
  have a2 : (if (2 : Int32) < 4 then (0 : Int32) else 2 - 3) = 0 := by decide
  have a3 : (if (3 : Int32) < 4 then (0 : Int32) else 3 - 3) = 0 := by decide
  have a4 : (if (4 : Int32) < 4 then (0 : Int32) else 4 - 3) = 1 := by decide
  have a5 : (if (5 : Int32) < 4 then (0 : Int32) else 5 - 3) = 2 := by decide
  have a6 : (if (6 : Int32) < 4 then (0 : Int32) else 6 - 3) = 3 := by decide
  simp only [x187_0, x187_1, x187_36, x187_37, x187_39, x187_42, x187_43, x187_44, x187_45, x187_48, x187_49, x187_52, x187_53, x187_54, x187_55, x187_57, x187_60, x187_61, x187_62, x187_65, x187_66, x187_69, x187_70, x187_71, x187_72, x187_74, x187_77, x187_78, x187_80, x187_83, x187_84, x187_87, x187_88, x187_91, x187_92, x187_93, x187_94, x187_95, x187_98, x187_99, x187_102, ka_kk_i, ka_kk_n, ka_cl_i, ka_cl_r, ka_cl_n, or_true, true_or, ka_ne2, ka_ne4, ka_ne5, ka_ne10, not_false_eq_true, not_true_eq_false, if_true, if_false, ka_k_0, ka_k_1, ka_k_2, ka_k_3, ka_k_4, ka_k_5, ka_k_6, ka_k_7, ka_k_8, ka_k_9, ka_k_10, ka_k_11, ka_k_12, ka_k_13, ka_k_14, ka_k_15, ka_k_16, ka_k_17, ka_k_18, ka_k_19, ka_k_20, ka_k_21, ka_k_22, ka_k_23, ka_k_24, ka_k_25, ka_k_26, ka_k_27, ka_k_28, ka_k_29, ka_k_30, ka_k_31, ka_k_32, ka_k_33, ka_k_34, ka_k_35, ka_k_36, ka_k_37, ka_k_38, ka_k_39, ka_k_40, ka_k_41, ka_k_42, ka_k_43, ka_k_44, ka_k_45, ka_k_46, ka_k_47, ka_k_48, ka_k_49, ka_k_50, ka_k_51, ka_k_52, ka_k_53, ka_k_54, ka_k_55, ka_k_56, ka_k_57, ka_k_58, ka_k_59, ka_k_60, ka_k_61, ka_k_62, ka_k_63, ka_k_64, ka_k_65, ka_k_66, ka_k_67, ka_k_68, ka_k_69, ka_k_70, ka_k_71, ka_k_72, ka_k_73, ka_k_74, ka_k_75, ka_k_76, ka_k_77, ka_k_78, ka_k_79, ka_k_80, ka_k_81, ka_k_82, ka_k_83, ka_k_84, ka_k_85, ka_k_86, ka_k_87, ka_k_88, ka_k_89, ka_k_90, ka_k_91, ka_k_92, ka_k_93, ka_k_94, ka_k_95, ka_k_96, ka_k_97, ka_k_98, ka_k_99, ka_k_100, q0, q1, q2, q3, q4, q5, q6, sp_155, a0, a1, a2, a3, a4, a5, a6, m18, sp_122 h8 w1, ka_c_0, ka_c_1, ka_c_2, ka_c_3, ka_c_4, ka_c_5, ka_c_6, ka_c_7, ka_c_8, ka_c_9, ka_c_10, ka_c_11, ka_c_12, ka_c_13, ka_c_14, ka_c_15, ka_c_16, ka_c_17, ka_c_18, ka_c_19, ka_c_20, ka_c_28, ka_c_40, ka_c_50, ka_c_87, wm_88, k1, sp_183w (show n < 40 by omega)]
theorem wb_3_grind_3 {n : Nat} {r : Nat → Int32} {x : Int32} (hW : Q 18 = W) (h8 : 0 ≤ W.toInt ∧ W.toInt < 8) (k0 : X 88 (13 + 9 * W.toNatClampNeg + 0) = 3) (k1 : X 88 (13 + 9 * W.toNatClampNeg + 1) = M) (hn : n + 2 ≤ 40) : ka_ex sc (d + 2) 187 0 [.ref 87, .int 3, .int x] [] (ka_mem (wm X Q n r)) = some (some (.int (-(x - M))), ka_mem (wm X Q (n + 1 + 1) (kn_up (kn_up r (n) 40) (n + 1) 12))) := by
  have q0 : ((3 : Int32) = 0) = False := by decide
  have q1 : ((3 : Int32) = 1) = False := by decide
  have q2 : ((3 : Int32) = 2) = False := by decide
  have q3 : ((3 : Int32) = 3) = True := by decide
  have q4 : ((3 : Int32) = 4) = False := by decide
  have q5 : ((3 : Int32) = 5) = False := by decide
  have q6 : ((3 : Int32) = 6) = False := by decide
  have w1 : 0 ≤ (1 : Int32).toInt ∧ (1 : Int32).toInt < 9 := by decide
  have m18 : ∀ n r, wm X Q n r 87 18 = W := fun n r => (wm_87 (by decide)).trans hW
  have a0 : (if (0 : Int32) < 4 then (0 : Int32) else 0 - 3) = 0 := by decide
  have a1 : (if (1 : Int32) < 4 then (0 : Int32) else 1 - 3) = 0 := by decide
  have a2 : (if (2 : Int32) < 4 then (0 : Int32) else 2 - 3) = 0 := by decide
  have a3 : (if (3 : Int32) < 4 then (0 : Int32) else 3 - 3) = 0 := by decide
  have a4 : (if (4 : Int32) < 4 then (0 : Int32) else 4 - 3) = 1 := by decide
  have a5 : (if (5 : Int32) < 4 then (0 : Int32) else 5 - 3) = 2 := by decide
  have a6 : (if (6 : Int32) < 4 then (0 : Int32) else 6 - 3) = 3 := by decide
  simp only [x187_0, x187_1, x187_36, x187_37, x187_39, x187_42, x187_43, x187_44, x187_45, x187_48, x187_49, x187_52, x187_53, x187_54, x187_55, x187_57, x187_60, x187_61, x187_62, x187_65, x187_66, x187_69, x187_70, x187_71, x187_72, x187_74, x187_77, x187_78, x187_80, x187_83, x187_84, x187_87, x187_88, x187_91, x187_92, x187_93, x187_94, x187_95, x187_98, x187_99, x187_102, ka_kk_i, ka_kk_n, ka_cl_i, ka_cl_r, ka_cl_n, or_true, true_or, ka_ne2, ka_ne4, ka_ne5, ka_ne10, not_false_eq_true, not_true_eq_false, if_true, if_false, ka_k_0, ka_k_1, ka_k_2, ka_k_3, ka_k_4, ka_k_5, ka_k_6, ka_k_7, ka_k_8, ka_k_9, ka_k_10, ka_k_11, ka_k_12, ka_k_13, ka_k_14, ka_k_15, ka_k_16, ka_k_17, ka_k_18, ka_k_19, ka_k_20, ka_k_21, ka_k_22, ka_k_23, ka_k_24, ka_k_25, ka_k_26, ka_k_27, ka_k_28, ka_k_29, ka_k_30, ka_k_31, ka_k_32, ka_k_33, ka_k_34, ka_k_35, ka_k_36, ka_k_37, ka_k_38, ka_k_39, ka_k_40, ka_k_41, ka_k_42, ka_k_43, ka_k_44, ka_k_45, ka_k_46, ka_k_47, ka_k_48, ka_k_49, ka_k_50, ka_k_51, ka_k_52, ka_k_53, ka_k_54, ka_k_55, ka_k_56, ka_k_57, ka_k_58, ka_k_59, ka_k_60, ka_k_61, ka_k_62, ka_k_63, ka_k_64, ka_k_65, ka_k_66, ka_k_67, ka_k_68, ka_k_69, ka_k_70, ka_k_71, ka_k_72, ka_k_73, ka_k_74, ka_k_75, ka_k_76, ka_k_77, ka_k_78, ka_k_79, ka_k_80, ka_k_81, ka_k_82, ka_k_83, ka_k_84, ka_k_85, ka_k_86, ka_k_87, ka_k_88, ka_k_89, ka_k_90, ka_k_91, ka_k_92, ka_k_93, ka_k_94, ka_k_95, ka_k_96, ka_k_97, ka_k_98, ka_k_99, ka_k_100, q0, q1, q2, q3, q4, q5, q6, sp_155, a0, a1, a2, a3, a4, a5, a6, m18, sp_122 h8 w1, ka_c_0, ka_c_1, ka_c_2, ka_c_3, ka_c_4, ka_c_5, ka_c_6, ka_c_7, ka_c_8, ka_c_9, ka_c_10, ka_c_11, ka_c_12, ka_c_13, ka_c_14, ka_c_15, ka_c_16, ka_c_17, ka_c_18, ka_c_19, ka_c_20, ka_c_28, ka_c_40, ka_c_50, ka_c_87, wm_88, k1, sp_183w (show n < 40 by omega), @wb_3_grind_0 sc (d) X Q M W (n + 1) (kn_up r (n) 40) x hW h8 k0 k1 (by omega)]
theorem wb_3_tells_0 {n : Nat} {r : Nat → Int32} {x : Int32} (hW : Q 18 = W) (h8 : 0 ≤ W.toInt ∧ W.toInt < 8) (k0 : X 88 (13 + 9 * W.toNatClampNeg + 0) = 3) (k1 : X 88 (13 + 9 * W.toNatClampNeg + 1) = M) (hn : n + 5 ≤ 40) : ka_ex sc (d + 5) 188 0 [.ref 87, .int 0, .int x, ka_nv] [] (ka_mem (wm X Q n r)) = some (some (.int (((x + W) * 2) ^^^ (-(x - M)))), ka_mem (wm X Q (n + 1 + 1 + 1 + 1 + 1) (kn_up (kn_up (kn_up (kn_up (kn_up r (n) 13) (n + 1) 11) (n + 1 + 1) 10) (n + 1 + 1 + 1) 40) (n + 1 + 1 + 1 + 1) 12))) := by
  have q0 : ((0 : Int32) = 0) = True := by decide
  have q1 : ((0 : Int32) = 1) = False := by decide
  have q2 : ((0 : Int32) = 2) = False := by decide
  have q3 : ((0 : Int32) = 3) = False := by decide
  have q4 : ((0 : Int32) = 4) = False := by decide
  have q5 : ((0 : Int32) = 5) = False := by decide
  have q6 : ((0 : Int32) = 6) = False := by decide
  have w1 : 0 ≤ (1 : Int32).toInt ∧ (1 : Int32).toInt < 9 := by decide
  have m18 : ∀ n r, wm X Q n r 87 18 = W := fun n r => (wm_87 (by decide)).trans hW
  have a0 : (if (0 : Int32) < 4 then (0 : Int32) else 0 - 3) = 0 := by decide
  have a1 : (if (1 : Int32) < 4 then (0 : Int32) else 1 - 3) = 0 := by decide
  have a2 : (if (2 : Int32) < 4 then (0 : Int32) else 2 - 3) = 0 := by decide
  have a3 : (if (3 : Int32) < 4 then (0 : Int32) else 3 - 3) = 0 := by decide
  have a4 : (if (4 : Int32) < 4 then (0 : Int32) else 4 - 3) = 1 := by decide
  have a5 : (if (5 : Int32) < 4 then (0 : Int32) else 5 - 3) = 2 := by decide
  have a6 : (if (6 : Int32) < 4 then (0 : Int32) else 6 - 3) = 3 := by decide
  simp only [x188_0, x188_1, x188_36, x188_37, x188_39, x188_42, x188_43, x188_44, x188_47, x188_48, x188_51, x188_52, x188_53, x188_54, x188_55, x188_58, x188_59, x188_62, x188_63, x188_64, x188_65, x188_67, x188_70, x188_71, x188_72, x188_75, x188_76, x188_79, x188_80, x188_81, x188_82, x188_83, x188_86, x188_87, x188_90, x188_91, x188_92, x188_93, x188_95, x188_98, x188_99, x188_100, x188_103, x188_104, x188_107, x188_108, x188_109, x188_110, x188_112, x188_115, x188_116, x188_119, x188_120, x188_121, x188_122, x188_123, x188_126, x188_127, x188_130, ka_kk_i, ka_kk_n, ka_cl_i, ka_cl_r, ka_cl_n, or_true, true_or, ka_ne2, ka_ne4, ka_ne5, ka_ne10, not_false_eq_true, not_true_eq_false, if_true, if_false, ka_k_0, ka_k_1, ka_k_2, ka_k_3, ka_k_4, ka_k_5, ka_k_6, ka_k_7, ka_k_8, ka_k_9, ka_k_10, ka_k_11, ka_k_12, ka_k_13, ka_k_14, ka_k_15, ka_k_16, ka_k_17, ka_k_18, ka_k_19, ka_k_20, ka_k_21, ka_k_22, ka_k_23, ka_k_24, ka_k_25, ka_k_26, ka_k_27, ka_k_28, ka_k_29, ka_k_30, ka_k_31, ka_k_32, ka_k_33, ka_k_34, ka_k_35, ka_k_36, ka_k_37, ka_k_38, ka_k_39, ka_k_40, ka_k_41, ka_k_42, ka_k_43, ka_k_44, ka_k_45, ka_k_46, ka_k_47, ka_k_48, ka_k_49, ka_k_50, ka_k_51, ka_k_52, ka_k_53, ka_k_54, ka_k_55, ka_k_56, ka_k_57, ka_k_58, ka_k_59, ka_k_60, ka_k_61, ka_k_62, ka_k_63, ka_k_64, ka_k_65, ka_k_66, ka_k_67, ka_k_68, ka_k_69, ka_k_70, ka_k_71, ka_k_72, ka_k_73, ka_k_74, ka_k_75, ka_k_76, ka_k_77, ka_k_78, ka_k_79, ka_k_80, ka_k_81, ka_k_82, ka_k_83, ka_k_84, ka_k_85, ka_k_86, ka_k_87, ka_k_88, ka_k_89, ka_k_90, ka_k_91, ka_k_92, ka_k_93, ka_k_94, ka_k_95, ka_k_96, ka_k_97, ka_k_98, ka_k_99, ka_k_100, q0, q1, q2, q3, q4, q5, q6, sp_155, a0, a1, a2, a3, a4, a5, a6, m18, sp_122 h8 w1, ka_c_0, ka_c_1, ka_c_2, ka_c_3, ka_c_4, ka_c_5, ka_c_6, ka_c_7, ka_c_8, ka_c_9, ka_c_10, ka_c_11, ka_c_12, ka_c_13, ka_c_14, ka_c_15, ka_c_16, ka_c_17, ka_c_18, ka_c_19, ka_c_20, ka_c_28, ka_c_40, ka_c_50, ka_c_87, wm_88, k1, sp_183w (show n < 40 by omega), sp_184w hW h8 k0, @wb_3_rings_3 sc (d) X Q M W (n + 1) (kn_up r (n) 13) x hW h8 k0 k1 (by omega), @wb_3_grind_3 sc (d + 2) X Q M W (n + 1 + 1 + 1) (kn_up (kn_up (kn_up r (n) 13) (n + 1) 11) (n + 1 + 1) 10) x hW h8 k0 k1 (by omega)]
theorem wb_3_tells_3 {n : Nat} {r : Nat → Int32} {x : Int32} (hW : Q 18 = W) (h8 : 0 ≤ W.toInt ∧ W.toInt < 8) (k0 : X 88 (13 + 9 * W.toNatClampNeg + 0) = 3) (k1 : X 88 (13 + 9 * W.toNatClampNeg + 1) = M) (hn : n + 5 ≤ 40) : ka_ex sc (d + 6) 188 0 [.ref 87, .int 3, .int x, ka_nv] [] (ka_mem (wm X Q n r)) = some (some (.int (((x + W) * 2) ^^^ (-(x - M)))), ka_mem (wm X Q (n + 1 + 1 + 1 + 1 + 1) (kn_up (kn_up (kn_up (kn_up (kn_up r (n) 13) (n + 1) 11) (n + 1 + 1) 10) (n + 1 + 1 + 1) 40) (n + 1 + 1 + 1 + 1) 12))) := by
  have q0 : ((3 : Int32) = 0) = False := by decide
  have q1 : ((3 : Int32) = 1) = False := by decide
  have q2 : ((3 : Int32) = 2) = False := by decide
  have q3 : ((3 : Int32) = 3) = True := by decide
  have q4 : ((3 : Int32) = 4) = False := by decide
  have q5 : ((3 : Int32) = 5) = False := by decide
  have q6 : ((3 : Int32) = 6) = False := by decide
  have w1 : 0 ≤ (1 : Int32).toInt ∧ (1 : Int32).toInt < 9 := by decide
  have m18 : ∀ n r, wm X Q n r 87 18 = W := fun n r => (wm_87 (by decide)).trans hW
  have a0 : (if (0 : Int32) < 4 then (0 : Int32) else 0 - 3) = 0 := by decide
  have a1 : (if (1 : Int32) < 4 then (0 : Int32) else 1 - 3) = 0 := by decide
  have a2 : (if (2 : Int32) < 4 then (0 : Int32) else 2 - 3) = 0 := by decide
  have a3 : (if (3 : Int32) < 4 then (0 : Int32) else 3 - 3) = 0 := by decide
  have a4 : (if (4 : Int32) < 4 then (0 : Int32) else 4 - 3) = 1 := by decide
  have a5 : (if (5 : Int32) < 4 then (0 : Int32) else 5 - 3) = 2 := by decide
  have a6 : (if (6 : Int32) < 4 then (0 : Int32) else 6 - 3) = 3 := by decide
  simp only [x188_0, x188_1, x188_36, x188_37, x188_39, x188_42, x188_43, x188_44, x188_47, x188_48, x188_51, x188_52, x188_53, x188_54, x188_55, x188_58, x188_59, x188_62, x188_63, x188_64, x188_65, x188_67, x188_70, x188_71, x188_72, x188_75, x188_76, x188_79, x188_80, x188_81, x188_82, x188_83, x188_86, x188_87, x188_90, x188_91, x188_92, x188_93, x188_95, x188_98, x188_99, x188_100, x188_103, x188_104, x188_107, x188_108, x188_109, x188_110, x188_112, x188_115, x188_116, x188_119, x188_120, x188_121, x188_122, x188_123, x188_126, x188_127, x188_130, ka_kk_i, ka_kk_n, ka_cl_i, ka_cl_r, ka_cl_n, or_true, true_or, ka_ne2, ka_ne4, ka_ne5, ka_ne10, not_false_eq_true, not_true_eq_false, if_true, if_false, ka_k_0, ka_k_1, ka_k_2, ka_k_3, ka_k_4, ka_k_5, ka_k_6, ka_k_7, ka_k_8, ka_k_9, ka_k_10, ka_k_11, ka_k_12, ka_k_13, ka_k_14, ka_k_15, ka_k_16, ka_k_17, ka_k_18, ka_k_19, ka_k_20, ka_k_21, ka_k_22, ka_k_23, ka_k_24, ka_k_25, ka_k_26, ka_k_27, ka_k_28, ka_k_29, ka_k_30, ka_k_31, ka_k_32, ka_k_33, ka_k_34, ka_k_35, ka_k_36, ka_k_37, ka_k_38, ka_k_39, ka_k_40, ka_k_41, ka_k_42, ka_k_43, ka_k_44, ka_k_45, ka_k_46, ka_k_47, ka_k_48, ka_k_49, ka_k_50, ka_k_51, ka_k_52, ka_k_53, ka_k_54, ka_k_55, ka_k_56, ka_k_57, ka_k_58, ka_k_59, ka_k_60, ka_k_61, ka_k_62, ka_k_63, ka_k_64, ka_k_65, ka_k_66, ka_k_67, ka_k_68, ka_k_69, ka_k_70, ka_k_71, ka_k_72, ka_k_73, ka_k_74, ka_k_75, ka_k_76, ka_k_77, ka_k_78, ka_k_79, ka_k_80, ka_k_81, ka_k_82, ka_k_83, ka_k_84, ka_k_85, ka_k_86, ka_k_87, ka_k_88, ka_k_89, ka_k_90, ka_k_91, ka_k_92, ka_k_93, ka_k_94, ka_k_95, ka_k_96, ka_k_97, ka_k_98, ka_k_99, ka_k_100, q0, q1, q2, q3, q4, q5, q6, sp_155, a0, a1, a2, a3, a4, a5, a6, m18, sp_122 h8 w1, ka_c_0, ka_c_1, ka_c_2, ka_c_3, ka_c_4, ka_c_5, ka_c_6, ka_c_7, ka_c_8, ka_c_9, ka_c_10, ka_c_11, ka_c_12, ka_c_13, ka_c_14, ka_c_15, ka_c_16, ka_c_17, ka_c_18, ka_c_19, ka_c_20, ka_c_28, ka_c_40, ka_c_50, ka_c_87, wm_88, k1, @wb_3_tells_0 sc (d) X Q M W (n) r x hW h8 k0 k1 (by omega)]
theorem wb_4_cut_0 {n : Nat} {r : Nat → Int32} {x : Int32} (hW : Q 18 = W) (h8 : 0 ≤ W.toInt ∧ W.toInt < 8) (k0 : X 88 (13 + 9 * W.toNatClampNeg + 0) = 4) (k1 : X 88 (13 + 9 * W.toNatClampNeg + 1) = M) (hn : n + 1 ≤ 40) : ka_ex sc (d + 1) 185 0 [.ref 87, .int 0, .int x] [] (ka_mem (wm X Q n r)) = some (some (.int (x + W)), ka_mem (wm X Q (n + 1) (kn_up r (n) 10))) := by
  have q0 : ((0 : Int32) = 0) = True := by decide
  have q1 : ((0 : Int32) = 1) = False := by decide
  have q2 : ((0 : Int32) = 2) = False := by decide
  have q3 : ((0 : Int32) = 3) = False := by decide
  have q4 : ((0 : Int32) = 4) = False := by decide
  have q5 : ((0 : Int32) = 5) = False := by decide
  have q6 : ((0 : Int32) = 6) = False := by decide
  have w1 : 0 ≤ (1 : Int32).toInt ∧ (1 : Int32).toInt < 9 := by decide
  have m18 : ∀ n r, wm X Q n r 87 18 = W := fun n r => (wm_87 (by decide)).trans hW
  have a0 : (if (0 : Int32) < 4 then (0 : Int32) else 0 - 3) = 0 := by decide
  have a1 : (if (1 : Int32) < 4 then (0 : Int32) else 1 - 3) = 0 := by decide
  have a2 : (if (2 : Int32) < 4 then (0 : Int32) else 2 - 3) = 0 := by decide
  have a3 : (if (3 : Int32) < 4 then (0 : Int32) else 3 - 3) = 0 := by decide
  have a4 : (if (4 : Int32) < 4 then (0 : Int32) else 4 - 3) = 1 := by decide
  have a5 : (if (5 : Int32) < 4 then (0 : Int32) else 5 - 3) = 2 := by decide
  have a6 : (if (6 : Int32) < 4 then (0 : Int32) else 6 - 3) = 3 := by decide
  simp only [x185_0, x185_1, x185_28, x185_29, x185_31, x185_34, x185_35, x185_36, x185_39, x185_40, x185_41, x185_42, x185_44, x185_47, x185_48, x185_49, x185_52, x185_53, x185_56, x185_57, x185_58, x185_59, x185_60, x185_61, x185_64, x185_65, x185_68, ka_kk_i, ka_kk_n, ka_cl_i, ka_cl_r, ka_cl_n, or_true, true_or, ka_ne2, ka_ne4, ka_ne5, ka_ne10, not_false_eq_true, not_true_eq_false, if_true, if_false, ka_k_0, ka_k_1, ka_k_2, ka_k_3, ka_k_4, ka_k_5, ka_k_6, ka_k_7, ka_k_8, ka_k_9, ka_k_10, ka_k_11, ka_k_12, ka_k_13, ka_k_14, ka_k_15, ka_k_16, ka_k_17, ka_k_18, ka_k_19, ka_k_20, ka_k_21, ka_k_22, ka_k_23, ka_k_24, ka_k_25, ka_k_26, ka_k_27, ka_k_28, ka_k_29, ka_k_30, ka_k_31, ka_k_32, ka_k_33, ka_k_34, ka_k_35, ka_k_36, ka_k_37, ka_k_38, ka_k_39, ka_k_40, ka_k_41, ka_k_42, ka_k_43, ka_k_44, ka_k_45, ka_k_46, ka_k_47, ka_k_48, ka_k_49, ka_k_50, ka_k_51, ka_k_52, ka_k_53, ka_k_54, ka_k_55, ka_k_56, ka_k_57, ka_k_58, ka_k_59, ka_k_60, ka_k_61, ka_k_62, ka_k_63, ka_k_64, ka_k_65, ka_k_66, ka_k_67, ka_k_68, ka_k_69, ka_k_70, ka_k_71, ka_k_72, ka_k_73, ka_k_74, ka_k_75, ka_k_76, ka_k_77, ka_k_78, ka_k_79, ka_k_80, ka_k_81, ka_k_82, ka_k_83, ka_k_84, ka_k_85, ka_k_86, ka_k_87, ka_k_88, ka_k_89, ka_k_90, ka_k_91, ka_k_92, ka_k_93, ka_k_94, ka_k_95, ka_k_96, ka_k_97, ka_k_98, ka_k_99, ka_k_100, q0, q1, q2, q3, q4, q5, q6, sp_155, a0, a1, a2, a3, a4, a5, a6, m18, sp_122 h8 w1, ka_c_0, ka_c_1, ka_c_2, ka_c_3, ka_c_4, ka_c_5, ka_c_6, ka_c_7, ka_c_8, ka_c_9, ka_c_10, ka_c_11, ka_c_12, ka_c_13, ka_c_14, ka_c_15, ka_c_16, ka_c_17, ka_c_18, ka_c_19, ka_c_20, ka_c_28, ka_c_40, ka_c_50, ka_c_87, wm_88, k1, sp_183w (show n < 40 by omega)]
theorem wb_4_cut_1 {n : Nat} {r : Nat → Int32} {x : Int32} (hW : Q 18 = W) (h8 : 0 ≤ W.toInt ∧ W.toInt < 8) (k0 : X 88 (13 + 9 * W.toNatClampNeg + 0) = 4) (k1 : X 88 (13 + 9 * W.toNatClampNeg + 1) = M) (hn : n + 1 ≤ 40) : ka_ex sc (d + 2) 185 0 [.ref 87, .int 1, .int x] [] (ka_mem (wm X Q n r)) = some (some (.int (x + W)), ka_mem (wm X Q (n + 1) (kn_up r (n) 10))) := by
  have q0 : ((1 : Int32) = 0) = False := by decide
  have q1 : ((1 : Int32) = 1) = True := by decide
  have q2 : ((1 : Int32) = 2) = False := by decide
  have q3 : ((1 : Int32) = 3) = False := by decide
  have q4 : ((1 : Int32) = 4) = False := by decide
  have q5 : ((1 : Int32) = 5) = False := by decide
  have q6 : ((1 : Int32) = 6) = False := by decide
  have w1 : 0 ≤ (1 : Int32).toInt ∧ (1 : Int32).toInt < 9 := by decide
  have m18 : ∀ n r, wm X Q n r 87 18 = W := fun n r => (wm_87 (by decide)).trans hW
  have a0 : (if (0 : Int32) < 4 then (0 : Int32) else 0 - 3) = 0 := by decide
  have a1 : (if (1 : Int32) < 4 then (0 : Int32) else 1 - 3) = 0 := by decide
  have a2 : (if (2 : Int32) < 4 then (0 : Int32) else 2 - 3) = 0 := by decide
  have a3 : (if (3 : Int32) < 4 then (0 : Int32) else 3 - 3) = 0 := by decide
  have a4 : (if (4 : Int32) < 4 then (0 : Int32) else 4 - 3) = 1 := by decide
  have a5 : (if (5 : Int32) < 4 then (0 : Int32) else 5 - 3) = 2 := by decide
  have a6 : (if (6 : Int32) < 4 then (0 : Int32) else 6 - 3) = 3 := by decide
  simp only [x185_0, x185_1, x185_28, x185_29, x185_31, x185_34, x185_35, x185_36, x185_39, x185_40, x185_41, x185_42, x185_44, x185_47, x185_48, x185_49, x185_52, x185_53, x185_56, x185_57, x185_58, x185_59, x185_60, x185_61, x185_64, x185_65, x185_68, ka_kk_i, ka_kk_n, ka_cl_i, ka_cl_r, ka_cl_n, or_true, true_or, ka_ne2, ka_ne4, ka_ne5, ka_ne10, not_false_eq_true, not_true_eq_false, if_true, if_false, ka_k_0, ka_k_1, ka_k_2, ka_k_3, ka_k_4, ka_k_5, ka_k_6, ka_k_7, ka_k_8, ka_k_9, ka_k_10, ka_k_11, ka_k_12, ka_k_13, ka_k_14, ka_k_15, ka_k_16, ka_k_17, ka_k_18, ka_k_19, ka_k_20, ka_k_21, ka_k_22, ka_k_23, ka_k_24, ka_k_25, ka_k_26, ka_k_27, ka_k_28, ka_k_29, ka_k_30, ka_k_31, ka_k_32, ka_k_33, ka_k_34, ka_k_35, ka_k_36, ka_k_37, ka_k_38, ka_k_39, ka_k_40, ka_k_41, ka_k_42, ka_k_43, ka_k_44, ka_k_45, ka_k_46, ka_k_47, ka_k_48, ka_k_49, ka_k_50, ka_k_51, ka_k_52, ka_k_53, ka_k_54, ka_k_55, ka_k_56, ka_k_57, ka_k_58, ka_k_59, ka_k_60, ka_k_61, ka_k_62, ka_k_63, ka_k_64, ka_k_65, ka_k_66, ka_k_67, ka_k_68, ka_k_69, ka_k_70, ka_k_71, ka_k_72, ka_k_73, ka_k_74, ka_k_75, ka_k_76, ka_k_77, ka_k_78, ka_k_79, ka_k_80, ka_k_81, ka_k_82, ka_k_83, ka_k_84, ka_k_85, ka_k_86, ka_k_87, ka_k_88, ka_k_89, ka_k_90, ka_k_91, ka_k_92, ka_k_93, ka_k_94, ka_k_95, ka_k_96, ka_k_97, ka_k_98, ka_k_99, ka_k_100, q0, q1, q2, q3, q4, q5, q6, sp_155, a0, a1, a2, a3, a4, a5, a6, m18, sp_122 h8 w1, ka_c_0, ka_c_1, ka_c_2, ka_c_3, ka_c_4, ka_c_5, ka_c_6, ka_c_7, ka_c_8, ka_c_9, ka_c_10, ka_c_11, ka_c_12, ka_c_13, ka_c_14, ka_c_15, ka_c_16, ka_c_17, ka_c_18, ka_c_19, ka_c_20, ka_c_28, ka_c_40, ka_c_50, ka_c_87, wm_88, k1, @wb_4_cut_0 sc (d) X Q M W (n) r x hW h8 k0 k1 (by omega)]
theorem wb_4_cut_4 {n : Nat} {r : Nat → Int32} {x : Int32} (hW : Q 18 = W) (h8 : 0 ≤ W.toInt ∧ W.toInt < 8) (k0 : X 88 (13 + 9 * W.toNatClampNeg + 0) = 4) (k1 : X 88 (13 + 9 * W.toNatClampNeg + 1) = M) (hn : n + 1 ≤ 40) : ka_ex sc (d + 3) 185 0 [.ref 87, .int 4, .int x] [] (ka_mem (wm X Q n r)) = some (some (.int (x + W)), ka_mem (wm X Q (n + 1) (kn_up r (n) 10))) := by
  have q0 : ((4 : Int32) = 0) = False := by decide
  have q1 : ((4 : Int32) = 1) = False := by decide
  have q2 : ((4 : Int32) = 2) = False := by decide
  have q3 : ((4 : Int32) = 3) = False := by decide
  have q4 : ((4 : Int32) = 4) = True := by decide
  have q5 : ((4 : Int32) = 5) = False := by decide
  have q6 : ((4 : Int32) = 6) = False := by decide
  have w1 : 0 ≤ (1 : Int32).toInt ∧ (1 : Int32).toInt < 9 := by decide
  have m18 : ∀ n r, wm X Q n r 87 18 = W := fun n r => (wm_87 (by decide)).trans hW
  have a0 : (if (0 : Int32) < 4 then (0 : Int32) else 0 - 3) = 0 := by decide
  have a1 : (if (1 : Int32) < 4 then (0 : Int32) else 1 - 3) = 0 := by decide
  have a2 : (if (2 : Int32) < 4 then (0 : Int32) else 2 - 3) = 0 := by decide
  have a3 : (if (3 : Int32) < 4 then (0 : Int32) else 3 - 3) = 0 := by decide
  have a4 : (if (4 : Int32) < 4 then (0 : Int32) else 4 - 3) = 1 := by decide
  have a5 : (if (5 : Int32) < 4 then (0 : Int32) else 5 - 3) = 2 := by decide
  have a6 : (if (6 : Int32) < 4 then (0 : Int32) else 6 - 3) = 3 := by decide
  simp only [x185_0, x185_1, x185_28, x185_29, x185_31, x185_34, x185_35, x185_36, x185_39, x185_40, x185_41, x185_42, x185_44, x185_47, x185_48, x185_49, x185_52, x185_53, x185_56, x185_57, x185_58, x185_59, x185_60, x185_61, x185_64, x185_65, x185_68, ka_kk_i, ka_kk_n, ka_cl_i, ka_cl_r, ka_cl_n, or_true, true_or, ka_ne2, ka_ne4, ka_ne5, ka_ne10, not_false_eq_true, not_true_eq_false, if_true, if_false, ka_k_0, ka_k_1, ka_k_2, ka_k_3, ka_k_4, ka_k_5, ka_k_6, ka_k_7, ka_k_8, ka_k_9, ka_k_10, ka_k_11, ka_k_12, ka_k_13, ka_k_14, ka_k_15, ka_k_16, ka_k_17, ka_k_18, ka_k_19, ka_k_20, ka_k_21, ka_k_22, ka_k_23, ka_k_24, ka_k_25, ka_k_26, ka_k_27, ka_k_28, ka_k_29, ka_k_30, ka_k_31, ka_k_32, ka_k_33, ka_k_34, ka_k_35, ka_k_36, ka_k_37, ka_k_38, ka_k_39, ka_k_40, ka_k_41, ka_k_42, ka_k_43, ka_k_44, ka_k_45, ka_k_46, ka_k_47, ka_k_48, ka_k_49, ka_k_50, ka_k_51, ka_k_52, ka_k_53, ka_k_54, ka_k_55, ka_k_56, ka_k_57, ka_k_58, ka_k_59, ka_k_60, ka_k_61, ka_k_62, ka_k_63, ka_k_64, ka_k_65, ka_k_66, ka_k_67, ka_k_68, ka_k_69, ka_k_70, ka_k_71, ka_k_72, ka_k_73, ka_k_74, ka_k_75, ka_k_76, ka_k_77, ka_k_78, ka_k_79, ka_k_80, ka_k_81, ka_k_82, ka_k_83, ka_k_84, ka_k_85, ka_k_86, ka_k_87, ka_k_88, ka_k_89, ka_k_90, ka_k_91, ka_k_92, ka_k_93, ka_k_94, ka_k_95, ka_k_96, ka_k_97, ka_k_98, ka_k_99, ka_k_100, q0, q1, q2, q3, q4, q5, q6, sp_155, a0, a1, a2, a3, a4, a5, a6, m18, sp_122 h8 w1, ka_c_0, ka_c_1, ka_c_2, ka_c_3, ka_c_4, ka_c_5, ka_c_6, ka_c_7, ka_c_8, ka_c_9, ka_c_10, ka_c_11, ka_c_12, ka_c_13, ka_c_14, ka_c_15, ka_c_16, ka_c_17, ka_c_18, ka_c_19, ka_c_20, ka_c_28, ka_c_40, ka_c_50, ka_c_87, wm_88, k1, @wb_4_cut_1 sc (d) X Q M W (n) r x hW h8 k0 k1 (by omega)]
theorem wb_4_rings_0 {n : Nat} {r : Nat → Int32} {x : Int32} (hW : Q 18 = W) (h8 : 0 ≤ W.toInt ∧ W.toInt < 8) (k0 : X 88 (13 + 9 * W.toNatClampNeg + 0) = 4) (k1 : X 88 (13 + 9 * W.toNatClampNeg + 1) = M) (hn : n + 2 ≤ 40) : ka_ex sc (d + 4) 186 0 [.ref 87, .int 0, .int x, ka_nv] [] (ka_mem (wm X Q n r)) = some (some (.int ((x + W) * 2)), ka_mem (wm X Q (n + 1 + 1) (kn_up (kn_up r (n) 11) (n + 1) 10))) := by
  have q0 : ((0 : Int32) = 0) = True := by decide
  have q1 : ((0 : Int32) = 1) = False := by decide
  have q2 : ((0 : Int32) = 2) = False := by decide
  have q3 : ((0 : Int32) = 3) = False := by decide
  have q4 : ((0 : Int32) = 4) = False := by decide
  have q5 : ((0 : Int32) = 5) = False := by decide
  have q6 : ((0 : Int32) = 6) = False := by decide
  have w1 : 0 ≤ (1 : Int32).toInt ∧ (1 : Int32).toInt < 9 := by decide
  have m18 : ∀ n r, wm X Q n r 87 18 = W := fun n r => (wm_87 (by decide)).trans hW
  have a0 : (if (0 : Int32) < 4 then (0 : Int32) else 0 - 3) = 0 := by decide
  have a1 : (if (1 : Int32) < 4 then (0 : Int32) else 1 - 3) = 0 := by decide
  have a2 : (if (2 : Int32) < 4 then (0 : Int32) else 2 - 3) = 0 := by decide
  have a3 : (if (3 : Int32) < 4 then (0 : Int32) else 3 - 3) = 0 := by decide
  have a4 : (if (4 : Int32) < 4 then (0 : Int32) else 4 - 3) = 1 := by decide
  have a5 : (if (5 : Int32) < 4 then (0 : Int32) else 5 - 3) = 2 := by decide
  have a6 : (if (6 : Int32) < 4 then (0 : Int32) else 6 - 3) = 3 := by decide
  simp only [x186_0, x186_1, x186_36, x186_37, x186_39, x186_42, x186_43, x186_44, x186_47, x186_48, x186_51, x186_52, x186_53, x186_54, x186_55, x186_57, x186_60, x186_61, x186_62, x186_65, x186_66, x186_69, x186_70, x186_71, x186_72, x186_73, x186_76, x186_77, x186_80, x186_81, x186_82, x186_83, x186_85, x186_88, x186_89, x186_90, x186_93, x186_94, x186_95, x186_96, x186_99, x186_100, x186_101, x186_102, x186_105, x186_106, x186_109, ka_kk_i, ka_kk_n, ka_cl_i, ka_cl_r, ka_cl_n, or_true, true_or, ka_ne2, ka_ne4, ka_ne5, ka_ne10, not_false_eq_true, not_true_eq_false, if_true, if_false, ka_k_0, ka_k_1, ka_k_2, ka_k_3, ka_k_4, ka_k_5, ka_k_6, ka_k_7, ka_k_8, ka_k_9, ka_k_10, ka_k_11, ka_k_12, ka_k_13, ka_k_14, ka_k_15, ka_k_16, ka_k_17, ka_k_18, ka_k_19, ka_k_20, ka_k_21, ka_k_22, ka_k_23, ka_k_24, ka_k_25, ka_k_26, ka_k_27, ka_k_28, ka_k_29, ka_k_30, ka_k_31, ka_k_32, ka_k_33, ka_k_34, ka_k_35, ka_k_36, ka_k_37, ka_k_38, ka_k_39, ka_k_40, ka_k_41, ka_k_42, ka_k_43, ka_k_44, ka_k_45, ka_k_46, ka_k_47, ka_k_48, ka_k_49, ka_k_50, ka_k_51, ka_k_52, ka_k_53, ka_k_54, ka_k_55, ka_k_56, ka_k_57, ka_k_58, ka_k_59, ka_k_60, ka_k_61, ka_k_62, ka_k_63, ka_k_64, ka_k_65, ka_k_66, ka_k_67, ka_k_68, ka_k_69, ka_k_70, ka_k_71, ka_k_72, ka_k_73, ka_k_74, ka_k_75, ka_k_76, ka_k_77, ka_k_78, ka_k_79, ka_k_80, ka_k_81, ka_k_82, ka_k_83, ka_k_84, ka_k_85, ka_k_86, ka_k_87, ka_k_88, ka_k_89, ka_k_90, ka_k_91, ka_k_92, ka_k_93, ka_k_94, ka_k_95, ka_k_96, ka_k_97, ka_k_98, ka_k_99, ka_k_100, q0, q1, q2, q3, q4, q5, q6, sp_155, a0, a1, a2, a3, a4, a5, a6, m18, sp_122 h8 w1, ka_c_0, ka_c_1, ka_c_2, ka_c_3, ka_c_4, ka_c_5, ka_c_6, ka_c_7, ka_c_8, ka_c_9, ka_c_10, ka_c_11, ka_c_12, ka_c_13, ka_c_14, ka_c_15, ka_c_16, ka_c_17, ka_c_18, ka_c_19, ka_c_20, ka_c_28, ka_c_40, ka_c_50, ka_c_87, wm_88, k1, sp_183w (show n < 40 by omega), sp_184w hW h8 k0, @wb_4_cut_4 sc (d) X Q M W (n + 1) (kn_up r (n) 11) x hW h8 k0 k1 (by omega)]
theorem wb_4_grind_0 {n : Nat} {r : Nat → Int32} {x : Int32} (hW : Q 18 = W) (h8 : 0 ≤ W.toInt ∧ W.toInt < 8) (k0 : X 88 (13 + 9 * W.toNatClampNeg + 0) = 4) (k1 : X 88 (13 + 9 * W.toNatClampNeg + 1) = M) (hn : n + 1 ≤ 40) : ka_ex sc (d + 1) 187 0 [.ref 87, .int 0, .int x] [] (ka_mem (wm X Q n r)) = some (some (.int (x - M)), ka_mem (wm X Q (n + 1) (kn_up r (n) 12))) := by
  have q0 : ((0 : Int32) = 0) = True := by decide
  have q1 : ((0 : Int32) = 1) = False := by decide
  have q2 : ((0 : Int32) = 2) = False := by decide
  have q3 : ((0 : Int32) = 3) = False := by decide
  have q4 : ((0 : Int32) = 4) = False := by decide
  have q5 : ((0 : Int32) = 5) = False := by decide
  have q6 : ((0 : Int32) = 6) = False := by decide
  have w1 : 0 ≤ (1 : Int32).toInt ∧ (1 : Int32).toInt < 9 := by decide
  have m18 : ∀ n r, wm X Q n r 87 18 = W := fun n r => (wm_87 (by decide)).trans hW
  have a0 : (if (0 : Int32) < 4 then (0 : Int32) else 0 - 3) = 0 := by decide
  have a1 : (if (1 : Int32) < 4 then (0 : Int32) else 1 - 3) = 0 := by decide
  have a2 : (if (2 : Int32) < 4 then (0 : Int32) else 2 - 3) = 0 := by decide
  have a3 : (if (3 : Int32) < 4 then (0 : Int32) else 3 - 3) = 0 := by decide
  have a4 : (if (4 : Int32) < 4 then (0 : Int32) else 4 - 3) = 1 := by decide
  have a5 : (if (5 : Int32) < 4 then (0 : Int32) else 5 - 3) = 2 := by decide
  have a6 : (if (6 : Int32) < 4 then (0 : Int32) else 6 - 3) = 3 := by decide
  simp only [x187_0, x187_1, x187_36, x187_37, x187_39, x187_42, x187_43, x187_44, x187_45, x187_48, x187_49, x187_52, x187_53, x187_54, x187_55, x187_57, x187_60, x187_61, x187_62, x187_65, x187_66, x187_69, x187_70, x187_71, x187_72, x187_74, x187_77, x187_78, x187_80, x187_83, x187_84, x187_87, x187_88, x187_91, x187_92, x187_93, x187_94, x187_95, x187_98, x187_99, x187_102, ka_kk_i, ka_kk_n, ka_cl_i, ka_cl_r, ka_cl_n, or_true, true_or, ka_ne2, ka_ne4, ka_ne5, ka_ne10, not_false_eq_true, not_true_eq_false, if_true, if_false, ka_k_0, ka_k_1, ka_k_2, ka_k_3, ka_k_4, ka_k_5, ka_k_6, ka_k_7, ka_k_8, ka_k_9, ka_k_10, ka_k_11, ka_k_12, ka_k_13, ka_k_14, ka_k_15, ka_k_16, ka_k_17, ka_k_18, ka_k_19, ka_k_20, ka_k_21, ka_k_22, ka_k_23, ka_k_24, ka_k_25, ka_k_26, ka_k_27, ka_k_28, ka_k_29, ka_k_30, ka_k_31, ka_k_32, ka_k_33, ka_k_34, ka_k_35, ka_k_36, ka_k_37, ka_k_38, ka_k_39, ka_k_40, ka_k_41, ka_k_42, ka_k_43, ka_k_44, ka_k_45, ka_k_46, ka_k_47, ka_k_48, ka_k_49, ka_k_50, ka_k_51, ka_k_52, ka_k_53, ka_k_54, ka_k_55, ka_k_56, ka_k_57, ka_k_58, ka_k_59, ka_k_60, ka_k_61, ka_k_62, ka_k_63, ka_k_64, ka_k_65, ka_k_66, ka_k_67, ka_k_68, ka_k_69, ka_k_70, ka_k_71, ka_k_72, ka_k_73, ka_k_74, ka_k_75, ka_k_76, ka_k_77, ka_k_78, ka_k_79, ka_k_80, ka_k_81, ka_k_82, ka_k_83, ka_k_84, ka_k_85, ka_k_86, ka_k_87, ka_k_88, ka_k_89, ka_k_90, ka_k_91, ka_k_92, ka_k_93, ka_k_94, ka_k_95, ka_k_96, ka_k_97, ka_k_98, ka_k_99, ka_k_100, q0, q1, q2, q3, q4, q5, q6, sp_155, a0, a1, a2, a3, a4, a5, a6, m18, sp_122 h8 w1, ka_c_0, ka_c_1, ka_c_2, ka_c_3, ka_c_4, ka_c_5, ka_c_6, ka_c_7, ka_c_8, ka_c_9, ka_c_10, ka_c_11, ka_c_12, ka_c_13, ka_c_14, ka_c_15, ka_c_16, ka_c_17, ka_c_18, ka_c_19, ka_c_20, ka_c_28, ka_c_40, ka_c_50, ka_c_87, wm_88, k1, sp_183w (show n < 40 by omega)]
theorem wb_4_grind_1 {n : Nat} {r : Nat → Int32} {x : Int32} (hW : Q 18 = W) (h8 : 0 ≤ W.toInt ∧ W.toInt < 8) (k0 : X 88 (13 + 9 * W.toNatClampNeg + 0) = 4) (k1 : X 88 (13 + 9 * W.toNatClampNeg + 1) = M) (hn : n + 1 ≤ 40) : ka_ex sc (d + 2) 187 0 [.ref 87, .int 1, .int x] [] (ka_mem (wm X Q n r)) = some (some (.int (x - M)), ka_mem (wm X Q (n + 1) (kn_up r (n) 12))) := by
  have q0 : ((1 : Int32) = 0) = False := by decide
  have q1 : ((1 : Int32) = 1) = True := by decide
  have q2 : ((1 : Int32) = 2) = False := by decide
  have q3 : ((1 : Int32) = 3) = False := by decide
  have q4 : ((1 : Int32) = 4) = False := by decide
  have q5 : ((1 : Int32) = 5) = False := by decide
  have q6 : ((1 : Int32) = 6) = False := by decide
  have w1 : 0 ≤ (1 : Int32).toInt ∧ (1 : Int32).toInt < 9 := by decide
  have m18 : ∀ n r, wm X Q n r 87 18 = W := fun n r => (wm_87 (by decide)).trans hW
  have a0 : (if (0 : Int32) < 4 then (0 : Int32) else 0 - 3) = 0 := by decide
  have a1 : (if (1 : Int32) < 4 then (0 : Int32) else 1 - 3) = 0 := by decide
  have a2 : (if (2 : Int32) < 4 then (0 : Int32) else 2 - 3) = 0 := by decide
  have a3 : (if (3 : Int32) < 4 then (0 : Int32) else 3 - 3) = 0 := by decide
  have a4 : (if (4 : Int32) < 4 then (0 : Int32) else 4 - 3) = 1 := by decide
  have a5 : (if (5 : Int32) < 4 then (0 : Int32) else 5 - 3) = 2 := by decide
  have a6 : (if (6 : Int32) < 4 then (0 : Int32) else 6 - 3) = 3 := by decide
  simp only [x187_0, x187_1, x187_36, x187_37, x187_39, x187_42, x187_43, x187_44, x187_45, x187_48, x187_49, x187_52, x187_53, x187_54, x187_55, x187_57, x187_60, x187_61, x187_62, x187_65, x187_66, x187_69, x187_70, x187_71, x187_72, x187_74, x187_77, x187_78, x187_80, x187_83, x187_84, x187_87, x187_88, x187_91, x187_92, x187_93, x187_94, x187_95, x187_98, x187_99, x187_102, ka_kk_i, ka_kk_n, ka_cl_i, ka_cl_r, ka_cl_n, or_true, true_or, ka_ne2, ka_ne4, ka_ne5, ka_ne10, not_false_eq_true, not_true_eq_false, if_true, if_false, ka_k_0, ka_k_1, ka_k_2, ka_k_3, ka_k_4, ka_k_5, ka_k_6, ka_k_7, ka_k_8, ka_k_9, ka_k_10, ka_k_11, ka_k_12, ka_k_13, ka_k_14, ka_k_15, ka_k_16, ka_k_17, ka_k_18, ka_k_19, ka_k_20, ka_k_21, ka_k_22, ka_k_23, ka_k_24, ka_k_25, ka_k_26, ka_k_27, ka_k_28, ka_k_29, ka_k_30, ka_k_31, ka_k_32, ka_k_33, ka_k_34, ka_k_35, ka_k_36, ka_k_37, ka_k_38, ka_k_39, ka_k_40, ka_k_41, ka_k_42, ka_k_43, ka_k_44, ka_k_45, ka_k_46, ka_k_47, ka_k_48, ka_k_49, ka_k_50, ka_k_51, ka_k_52, ka_k_53, ka_k_54, ka_k_55, ka_k_56, ka_k_57, ka_k_58, ka_k_59, ka_k_60, ka_k_61, ka_k_62, ka_k_63, ka_k_64, ka_k_65, ka_k_66, ka_k_67, ka_k_68, ka_k_69, ka_k_70, ka_k_71, ka_k_72, ka_k_73, ka_k_74, ka_k_75, ka_k_76, ka_k_77, ka_k_78, ka_k_79, ka_k_80, ka_k_81, ka_k_82, ka_k_83, ka_k_84, ka_k_85, ka_k_86, ka_k_87, ka_k_88, ka_k_89, ka_k_90, ka_k_91, ka_k_92, ka_k_93, ka_k_94, ka_k_95, ka_k_96, ka_k_97, ka_k_98, ka_k_99, ka_k_100, q0, q1, q2, q3, q4, q5, q6, sp_155, a0, a1, a2, a3, a4, a5, a6, m18, sp_122 h8 w1, ka_c_0, ka_c_1, ka_c_2, ka_c_3, ka_c_4, ka_c_5, ka_c_6, ka_c_7, ka_c_8, ka_c_9, ka_c_10, ka_c_11, ka_c_12, ka_c_13, ka_c_14, ka_c_15, ka_c_16, ka_c_17, ka_c_18, ka_c_19, ka_c_20, ka_c_28, ka_c_40, ka_c_50, ka_c_87, wm_88, k1, @wb_4_grind_0 sc (d) X Q M W (n) r x hW h8 k0 k1 (by omega)]
theorem wb_4_grind_4 {n : Nat} {r : Nat → Int32} {x : Int32} (hW : Q 18 = W) (h8 : 0 ≤ W.toInt ∧ W.toInt < 8) (k0 : X 88 (13 + 9 * W.toNatClampNeg + 0) = 4) (k1 : X 88 (13 + 9 * W.toNatClampNeg + 1) = M) (hn : n + 1 ≤ 40) : ka_ex sc (d + 3) 187 0 [.ref 87, .int 4, .int x] [] (ka_mem (wm X Q n r)) = some (some (.int (x - M)), ka_mem (wm X Q (n + 1) (kn_up r (n) 12))) := by
  have q0 : ((4 : Int32) = 0) = False := by decide
  have q1 : ((4 : Int32) = 1) = False := by decide
  have q2 : ((4 : Int32) = 2) = False := by decide
  have q3 : ((4 : Int32) = 3) = False := by decide
  have q4 : ((4 : Int32) = 4) = True := by decide
  have q5 : ((4 : Int32) = 5) = False := by decide
  have q6 : ((4 : Int32) = 6) = False := by decide
  have w1 : 0 ≤ (1 : Int32).toInt ∧ (1 : Int32).toInt < 9 := by decide
  have m18 : ∀ n r, wm X Q n r 87 18 = W := fun n r => (wm_87 (by decide)).trans hW
  have a0 : (if (0 : Int32) < 4 then (0 : Int32) else 0 - 3) = 0 := by decide
  have a1 : (if (1 : Int32) < 4 then (0 : Int32) else 1 - 3) = 0 := by decide
  have a2 : (if (2 : Int32) < 4 then (0 : Int32) else 2 - 3) = 0 := by decide
  have a3 : (if (3 : Int32) < 4 then (0 : Int32) else 3 - 3) = 0 := by decide
  have a4 : (if (4 : Int32) < 4 then (0 : Int32) else 4 - 3) = 1 := by decide
  have a5 : (if (5 : Int32) < 4 then (0 : Int32) else 5 - 3) = 2 := by decide
  have a6 : (if (6 : Int32) < 4 then (0 : Int32) else 6 - 3) = 3 := by decide
  simp only [x187_0, x187_1, x187_36, x187_37, x187_39, x187_42, x187_43, x187_44, x187_45, x187_48, x187_49, x187_52, x187_53, x187_54, x187_55, x187_57, x187_60, x187_61, x187_62, x187_65, x187_66, x187_69, x187_70, x187_71, x187_72, x187_74, x187_77, x187_78, x187_80, x187_83, x187_84, x187_87, x187_88, x187_91, x187_92, x187_93, x187_94, x187_95, x187_98, x187_99, x187_102, ka_kk_i, ka_kk_n, ka_cl_i, ka_cl_r, ka_cl_n, or_true, true_or, ka_ne2, ka_ne4, ka_ne5, ka_ne10, not_false_eq_true, not_true_eq_false, if_true, if_false, ka_k_0, ka_k_1, ka_k_2, ka_k_3, ka_k_4, ka_k_5, ka_k_6, ka_k_7, ka_k_8, ka_k_9, ka_k_10, ka_k_11, ka_k_12, ka_k_13, ka_k_14, ka_k_15, ka_k_16, ka_k_17, ka_k_18, ka_k_19, ka_k_20, ka_k_21, ka_k_22, ka_k_23, ka_k_24, ka_k_25, ka_k_26, ka_k_27, ka_k_28, ka_k_29, ka_k_30, ka_k_31, ka_k_32, ka_k_33, ka_k_34, ka_k_35, ka_k_36, ka_k_37, ka_k_38, ka_k_39, ka_k_40, ka_k_41, ka_k_42, ka_k_43, ka_k_44, ka_k_45, ka_k_46, ka_k_47, ka_k_48, ka_k_49, ka_k_50, ka_k_51, ka_k_52, ka_k_53, ka_k_54, ka_k_55, ka_k_56, ka_k_57, ka_k_58, ka_k_59, ka_k_60, ka_k_61, ka_k_62, ka_k_63, ka_k_64, ka_k_65, ka_k_66, ka_k_67, ka_k_68, ka_k_69, ka_k_70, ka_k_71, ka_k_72, ka_k_73, ka_k_74, ka_k_75, ka_k_76, ka_k_77, ka_k_78, ka_k_79, ka_k_80, ka_k_81, ka_k_82, ka_k_83, ka_k_84, ka_k_85, ka_k_86, ka_k_87, ka_k_88, ka_k_89, ka_k_90, ka_k_91, ka_k_92, ka_k_93, ka_k_94, ka_k_95, ka_k_96, ka_k_97, ka_k_98, ka_k_99, ka_k_100, q0, q1, q2, q3, q4, q5, q6, sp_155, a0, a1, a2, a3, a4, a5, a6, m18, sp_122 h8 w1, ka_c_0, ka_c_1, ka_c_2, ka_c_3, ka_c_4, ka_c_5, ka_c_6, ka_c_7, ka_c_8, ka_c_9, ka_c_10, ka_c_11, ka_c_12, ka_c_13, ka_c_14, ka_c_15, ka_c_16, ka_c_17, ka_c_18, ka_c_19, ka_c_20, ka_c_28, ka_c_40, ka_c_50, ka_c_87, wm_88, k1, @wb_4_grind_1 sc (d) X Q M W (n) r x hW h8 k0 k1 (by omega)]
theorem wb_4_rings_1 {n : Nat} {r : Nat → Int32} {x : Int32} (hW : Q 18 = W) (h8 : 0 ≤ W.toInt ∧ W.toInt < 8) (k0 : X 88 (13 + 9 * W.toNatClampNeg + 0) = 4) (k1 : X 88 (13 + 9 * W.toNatClampNeg + 1) = M) (hn : n + 4 ≤ 40) : ka_ex sc (d + 5) 186 0 [.ref 87, .int 1, .int x, ka_nv] [] (ka_mem (wm X Q n r)) = some (some (.int (((x + W) * 2) - (1 - M))), ka_mem (wm X Q (n + 1 + 1 + 1 + 1) (kn_up (kn_up (kn_up (kn_up r (n) 20) (n + 1) 11) (n + 1 + 1) 10) (n + 1 + 1 + 1) 12))) := by
  have q0 : ((1 : Int32) = 0) = False := by decide
  have q1 : ((1 : Int32) = 1) = True := by decide
  have q2 : ((1 : Int32) = 2) = False := by decide
  have q3 : ((1 : Int32) = 3) = False := by decide
  have q4 : ((1 : Int32) = 4) = False := by decide
  have q5 : ((1 : Int32) = 5) = False := by decide
  have q6 : ((1 : Int32) = 6) = False := by decide
  have w1 : 0 ≤ (1 : Int32).toInt ∧ (1 : Int32).toInt < 9 := by decide
  have m18 : ∀ n r, wm X Q n r 87 18 = W := fun n r => (wm_87 (by decide)).trans hW
  have a0 : (if (0 : Int32) < 4 then (0 : Int32) else 0 - 3) = 0 := by decide
  have a1 : (if (1 : Int32) < 4 then (0 : Int32) else 1 - 3) = 0 := by decide
  have a2 : (if (2 : Int32) < 4 then (0 : Int32) else 2 - 3) = 0 := by decide
  have a3 : (if (3 : Int32) < 4 then (0 : Int32) else 3 - 3) = 0 := by decide
  have a4 : (if (4 : Int32) < 4 then (0 : Int32) else 4 - 3) = 1 := by decide
  have a5 : (if (5 : Int32) < 4 then (0 : Int32) else 5 - 3) = 2 := by decide
  have a6 : (if (6 : Int32) < 4 then (0 : Int32) else 6 - 3) = 3 := by decide
  simp only [x186_0, x186_1, x186_36, x186_37, x186_39, x186_42, x186_43, x186_44, x186_47, x186_48, x186_51, x186_52, x186_53, x186_54, x186_55, x186_57, x186_60, x186_61, x186_62, x186_65, x186_66, x186_69, x186_70, x186_71, x186_72, x186_73, x186_76, x186_77, x186_80, x186_81, x186_82, x186_83, x186_85, x186_88, x186_89, x186_90, x186_93, x186_94, x186_95, x186_96, x186_99, x186_100, x186_101, x186_102, x186_105, x186_106, x186_109, ka_kk_i, ka_kk_n, ka_cl_i, ka_cl_r, ka_cl_n, or_true, true_or, ka_ne2, ka_ne4, ka_ne5, ka_ne10, not_false_eq_true, not_true_eq_false, if_true, if_false, ka_k_0, ka_k_1, ka_k_2, ka_k_3, ka_k_4, ka_k_5, ka_k_6, ka_k_7, ka_k_8, ka_k_9, ka_k_10, ka_k_11, ka_k_12, ka_k_13, ka_k_14, ka_k_15, ka_k_16, ka_k_17, ka_k_18, ka_k_19, ka_k_20, ka_k_21, ka_k_22, ka_k_23, ka_k_24, ka_k_25, ka_k_26, ka_k_27, ka_k_28, ka_k_29, ka_k_30, ka_k_31, ka_k_32, ka_k_33, ka_k_34, ka_k_35, ka_k_36, ka_k_37, ka_k_38, ka_k_39, ka_k_40, ka_k_41, ka_k_42, ka_k_43, ka_k_44, ka_k_45, ka_k_46, ka_k_47, ka_k_48, ka_k_49, ka_k_50, ka_k_51, ka_k_52, ka_k_53, ka_k_54, ka_k_55, ka_k_56, ka_k_57, ka_k_58, ka_k_59, ka_k_60, ka_k_61, ka_k_62, ka_k_63, ka_k_64, ka_k_65, ka_k_66, ka_k_67, ka_k_68, ka_k_69, ka_k_70, ka_k_71, ka_k_72, ka_k_73, ka_k_74, ka_k_75, ka_k_76, ka_k_77, ka_k_78, ka_k_79, ka_k_80, ka_k_81, ka_k_82, ka_k_83, ka_k_84, ka_k_85, ka_k_86, ka_k_87, ka_k_88, ka_k_89, ka_k_90, ka_k_91, ka_k_92, ka_k_93, ka_k_94, ka_k_95, ka_k_96, ka_k_97, ka_k_98, ka_k_99, ka_k_100, q0, q1, q2, q3, q4, q5, q6, sp_155, a0, a1, a2, a3, a4, a5, a6, m18, sp_122 h8 w1, ka_c_0, ka_c_1, ka_c_2, ka_c_3, ka_c_4, ka_c_5, ka_c_6, ka_c_7, ka_c_8, ka_c_9, ka_c_10, ka_c_11, ka_c_12, ka_c_13, ka_c_14, ka_c_15, ka_c_16, ka_c_17, ka_c_18, ka_c_19, ka_c_20, ka_c_28, ka_c_40, ka_c_50, ka_c_87, wm_88, k1, sp_183w (show n < 40 by omega), sp_184w hW h8 k0, @wb_4_rings_0 sc (d) X Q M W (n + 1) (kn_up r (n) 20) x hW h8 k0 k1 (by omega), @wb_4_grind_4 sc (d + 1) X Q M W (n + 1 + 1 + 1) (kn_up (kn_up (kn_up r (n) 20) (n + 1) 11) (n + 1 + 1) 10) 1 hW h8 k0 k1 (by omega)]
theorem wb_4_rings_4 {n : Nat} {r : Nat → Int32} {x : Int32} (hW : Q 18 = W) (h8 : 0 ≤ W.toInt ∧ W.toInt < 8) (k0 : X 88 (13 + 9 * W.toNatClampNeg + 0) = 4) (k1 : X 88 (13 + 9 * W.toNatClampNeg + 1) = M) (hn : n + 5 ≤ 40) : ka_ex sc (d + 6) 186 0 [.ref 87, .int 4, .int x, ka_nv] [] (ka_mem (wm X Q n r)) = some (some (.int ((((x + 1) + W) * 2) - (1 - M))), ka_mem (wm X Q (n + 1 + 1 + 1 + 1 + 1) (kn_up (kn_up (kn_up (kn_up (kn_up r (n) 50) (n + 1) 20) (n + 1 + 1) 11) (n + 1 + 1 + 1) 10) (n + 1 + 1 + 1 + 1) 12))) := by
  have q0 : ((4 : Int32) = 0) = False := by decide
  have q1 : ((4 : Int32) = 1) = False := by decide
  have q2 : ((4 : Int32) = 2) = False := by decide
  have q3 : ((4 : Int32) = 3) = False := by decide
  have q4 : ((4 : Int32) = 4) = True := by decide
  have q5 : ((4 : Int32) = 5) = False := by decide
  have q6 : ((4 : Int32) = 6) = False := by decide
  have w1 : 0 ≤ (1 : Int32).toInt ∧ (1 : Int32).toInt < 9 := by decide
  have m18 : ∀ n r, wm X Q n r 87 18 = W := fun n r => (wm_87 (by decide)).trans hW
  have a0 : (if (0 : Int32) < 4 then (0 : Int32) else 0 - 3) = 0 := by decide
  have a1 : (if (1 : Int32) < 4 then (0 : Int32) else 1 - 3) = 0 := by decide
  have a2 : (if (2 : Int32) < 4 then (0 : Int32) else 2 - 3) = 0 := by decide
  have a3 : (if (3 : Int32) < 4 then (0 : Int32) else 3 - 3) = 0 := by decide
  have a4 : (if (4 : Int32) < 4 then (0 : Int32) else 4 - 3) = 1 := by decide
  have a5 : (if (5 : Int32) < 4 then (0 : Int32) else 5 - 3) = 2 := by decide
  have a6 : (if (6 : Int32) < 4 then (0 : Int32) else 6 - 3) = 3 := by decide
  simp only [x186_0, x186_1, x186_36, x186_37, x186_39, x186_42, x186_43, x186_44, x186_47, x186_48, x186_51, x186_52, x186_53, x186_54, x186_55, x186_57, x186_60, x186_61, x186_62, x186_65, x186_66, x186_69, x186_70, x186_71, x186_72, x186_73, x186_76, x186_77, x186_80, x186_81, x186_82, x186_83, x186_85, x186_88, x186_89, x186_90, x186_93, x186_94, x186_95, x186_96, x186_99, x186_100, x186_101, x186_102, x186_105, x186_106, x186_109, ka_kk_i, ka_kk_n, ka_cl_i, ka_cl_r, ka_cl_n, or_true, true_or, ka_ne2, ka_ne4, ka_ne5, ka_ne10, not_false_eq_true, not_true_eq_false, if_true, if_false, ka_k_0, ka_k_1, ka_k_2, ka_k_3, ka_k_4, ka_k_5, ka_k_6, ka_k_7, ka_k_8, ka_k_9, ka_k_10, ka_k_11, ka_k_12, ka_k_13, ka_k_14, ka_k_15, ka_k_16, ka_k_17, ka_k_18, ka_k_19, ka_k_20, ka_k_21, ka_k_22, ka_k_23, ka_k_24, ka_k_25, ka_k_26, ka_k_27, ka_k_28, ka_k_29, ka_k_30, ka_k_31, ka_k_32, ka_k_33, ka_k_34, ka_k_35, ka_k_36, ka_k_37, ka_k_38, ka_k_39, ka_k_40, ka_k_41, ka_k_42, ka_k_43, ka_k_44, ka_k_45, ka_k_46, ka_k_47, ka_k_48, ka_k_49, ka_k_50, ka_k_51, ka_k_52, ka_k_53, ka_k_54, ka_k_55, ka_k_56, ka_k_57, ka_k_58, ka_k_59, ka_k_60, ka_k_61, ka_k_62, ka_k_63, ka_k_64, ka_k_65, ka_k_66, ka_k_67, ka_k_68, ka_k_69, ka_k_70, ka_k_71, ka_k_72, ka_k_73, ka_k_74, ka_k_75, ka_k_76, ka_k_77, ka_k_78, ka_k_79, ka_k_80, ka_k_81, ka_k_82, ka_k_83, ka_k_84, ka_k_85, ka_k_86, ka_k_87, ka_k_88, ka_k_89, ka_k_90, ka_k_91, ka_k_92, ka_k_93, ka_k_94, ka_k_95, ka_k_96, ka_k_97, ka_k_98, ka_k_99, ka_k_100, q0, q1, q2, q3, q4, q5, q6, sp_155, a0, a1, a2, a3, a4, a5, a6, m18, sp_122 h8 w1, ka_c_0, ka_c_1, ka_c_2, ka_c_3, ka_c_4, ka_c_5, ka_c_6, ka_c_7, ka_c_8, ka_c_9, ka_c_10, ka_c_11, ka_c_12, ka_c_13, ka_c_14, ka_c_15, ka_c_16, ka_c_17, ka_c_18, ka_c_19, ka_c_20, ka_c_28, ka_c_40, ka_c_50, ka_c_87, wm_88, k1, sp_183w (show n < 40 by omega), @wb_4_rings_1 sc (d) X Q M W (n + 1) (kn_up r (n) 50) (x + 1) hW h8 k0 k1 (by omega)]
theorem wb_4_tells_0 {n : Nat} {r : Nat → Int32} {x : Int32} (hW : Q 18 = W) (h8 : 0 ≤ W.toInt ∧ W.toInt < 8) (k0 : X 88 (13 + 9 * W.toNatClampNeg + 0) = 4) (k1 : X 88 (13 + 9 * W.toNatClampNeg + 1) = M) (hn : n + 7 ≤ 40) : ka_ex sc (d + 7) 188 0 [.ref 87, .int 0, .int x, ka_nv] [] (ka_mem (wm X Q n r)) = some (some (.int (((((x + 1) + W) * 2) - (1 - M)) ^^^ (x - M))), ka_mem (wm X Q (n + 1 + 1 + 1 + 1 + 1 + 1 + 1) (kn_up (kn_up (kn_up (kn_up (kn_up (kn_up (kn_up r (n) 13) (n + 1) 50) (n + 1 + 1) 20) (n + 1 + 1 + 1) 11) (n + 1 + 1 + 1 + 1) 10) (n + 1 + 1 + 1 + 1 + 1) 12) (n + 1 + 1 + 1 + 1 + 1 + 1) 12))) := by
  have q0 : ((0 : Int32) = 0) = True := by decide
  have q1 : ((0 : Int32) = 1) = False := by decide
  have q2 : ((0 : Int32) = 2) = False := by decide
  have q3 : ((0 : Int32) = 3) = False := by decide
  have q4 : ((0 : Int32) = 4) = False := by decide
  have q5 : ((0 : Int32) = 5) = False := by decide
  have q6 : ((0 : Int32) = 6) = False := by decide
  have w1 : 0 ≤ (1 : Int32).toInt ∧ (1 : Int32).toInt < 9 := by decide
  have m18 : ∀ n r, wm X Q n r 87 18 = W := fun n r => (wm_87 (by decide)).trans hW
  have a0 : (if (0 : Int32) < 4 then (0 : Int32) else 0 - 3) = 0 := by decide
  have a1 : (if (1 : Int32) < 4 then (0 : Int32) else 1 - 3) = 0 := by decide
  have a2 : (if (2 : Int32) < 4 then (0 : Int32) else 2 - 3) = 0 := by decide
  have a3 : (if (3 : Int32) < 4 then (0 : Int32) else 3 - 3) = 0 := by decide
  have a4 : (if (4 : Int32) < 4 then (0 : Int32) else 4 - 3) = 1 := by decide
  have a5 : (if (5 : Int32) < 4 then (0 : Int32) else 5 - 3) = 2 := by decide
  have a6 : (if (6 : Int32) < 4 then (0 : Int32) else 6 - 3) = 3 := by decide
  simp only [x188_0, x188_1, x188_36, x188_37, x188_39, x188_42, x188_43, x188_44, x188_47, x188_48, x188_51, x188_52, x188_53, x188_54, x188_55, x188_58, x188_59, x188_62, x188_63, x188_64, x188_65, x188_67, x188_70, x188_71, x188_72, x188_75, x188_76, x188_79, x188_80, x188_81, x188_82, x188_83, x188_86, x188_87, x188_90, x188_91, x188_92, x188_93, x188_95, x188_98, x188_99, x188_100, x188_103, x188_104, x188_107, x188_108, x188_109, x188_110, x188_112, x188_115, x188_116, x188_119, x188_120, x188_121, x188_122, x188_123, x188_126, x188_127, x188_130, ka_kk_i, ka_kk_n, ka_cl_i, ka_cl_r, ka_cl_n, or_true, true_or, ka_ne2, ka_ne4, ka_ne5, ka_ne10, not_false_eq_true, not_true_eq_false, if_true, if_false, ka_k_0, ka_k_1, ka_k_2, ka_k_3, ka_k_4, ka_k_5, ka_k_6, ka_k_7, ka_k_8, ka_k_9, ka_k_10, ka_k_11, ka_k_12, ka_k_13, ka_k_14, ka_k_15, ka_k_16, ka_k_17, ka_k_18, ka_k_19, ka_k_20, ka_k_21, ka_k_22, ka_k_23, ka_k_24, ka_k_25, ka_k_26, ka_k_27, ka_k_28, ka_k_29, ka_k_30, ka_k_31, ka_k_32, ka_k_33, ka_k_34, ka_k_35, ka_k_36, ka_k_37, ka_k_38, ka_k_39, ka_k_40, ka_k_41, ka_k_42, ka_k_43, ka_k_44, ka_k_45, ka_k_46, ka_k_47, ka_k_48, ka_k_49, ka_k_50, ka_k_51, ka_k_52, ka_k_53, ka_k_54, ka_k_55, ka_k_56, ka_k_57, ka_k_58, ka_k_59, ka_k_60, ka_k_61, ka_k_62, ka_k_63, ka_k_64, ka_k_65, ka_k_66, ka_k_67, ka_k_68, ka_k_69, ka_k_70, ka_k_71, ka_k_72, ka_k_73, ka_k_74, ka_k_75, ka_k_76, ka_k_77, ka_k_78, ka_k_79, ka_k_80, ka_k_81, ka_k_82, ka_k_83, ka_k_84, ka_k_85, ka_k_86, ka_k_87, ka_k_88, ka_k_89, ka_k_90, ka_k_91, ka_k_92, ka_k_93, ka_k_94, ka_k_95, ka_k_96, ka_k_97, ka_k_98, ka_k_99, ka_k_100, q0, q1, q2, q3, q4, q5, q6, sp_155, a0, a1, a2, a3, a4, a5, a6, m18, sp_122 h8 w1, ka_c_0, ka_c_1, ka_c_2, ka_c_3, ka_c_4, ka_c_5, ka_c_6, ka_c_7, ka_c_8, ka_c_9, ka_c_10, ka_c_11, ka_c_12, ka_c_13, ka_c_14, ka_c_15, ka_c_16, ka_c_17, ka_c_18, ka_c_19, ka_c_20, ka_c_28, ka_c_40, ka_c_50, ka_c_87, wm_88, k1, sp_183w (show n < 40 by omega), sp_184w hW h8 k0, @wb_4_rings_4 sc (d) X Q M W (n + 1) (kn_up r (n) 13) x hW h8 k0 k1 (by omega), @wb_4_grind_4 sc (d + 3) X Q M W (n + 1 + 1 + 1 + 1 + 1 + 1) (kn_up (kn_up (kn_up (kn_up (kn_up (kn_up r (n) 13) (n + 1) 50) (n + 1 + 1) 20) (n + 1 + 1 + 1) 11) (n + 1 + 1 + 1 + 1) 10) (n + 1 + 1 + 1 + 1 + 1) 12) x hW h8 k0 k1 (by omega)]
theorem wb_4_tells_1 {n : Nat} {r : Nat → Int32} {x : Int32} (hW : Q 18 = W) (h8 : 0 ≤ W.toInt ∧ W.toInt < 8) (k0 : X 88 (13 + 9 * W.toNatClampNeg + 0) = 4) (k1 : X 88 (13 + 9 * W.toNatClampNeg + 1) = M) (hn : n + 7 ≤ 40) : ka_ex sc (d + 8) 188 0 [.ref 87, .int 1, .int x, ka_nv] [] (ka_mem (wm X Q n r)) = some (some (.int (((((x + 1) + W) * 2) - (1 - M)) ^^^ (x - M))), ka_mem (wm X Q (n + 1 + 1 + 1 + 1 + 1 + 1 + 1) (kn_up (kn_up (kn_up (kn_up (kn_up (kn_up (kn_up r (n) 13) (n + 1) 50) (n + 1 + 1) 20) (n + 1 + 1 + 1) 11) (n + 1 + 1 + 1 + 1) 10) (n + 1 + 1 + 1 + 1 + 1) 12) (n + 1 + 1 + 1 + 1 + 1 + 1) 12))) := by
  have q0 : ((1 : Int32) = 0) = False := by decide
  have q1 : ((1 : Int32) = 1) = True := by decide
  have q2 : ((1 : Int32) = 2) = False := by decide
  have q3 : ((1 : Int32) = 3) = False := by decide
  have q4 : ((1 : Int32) = 4) = False := by decide
  have q5 : ((1 : Int32) = 5) = False := by decide
  have q6 : ((1 : Int32) = 6) = False := by decide
  have w1 : 0 ≤ (1 : Int32).toInt ∧ (1 : Int32).toInt < 9 := by decide
  have m18 : ∀ n r, wm X Q n r 87 18 = W := fun n r => (wm_87 (by decide)).trans hW
  have a0 : (if (0 : Int32) < 4 then (0 : Int32) else 0 - 3) = 0 := by decide
  have a1 : (if (1 : Int32) < 4 then (0 : Int32) else 1 - 3) = 0 := by decide
  have a2 : (if (2 : Int32) < 4 then (0 : Int32) else 2 - 3) = 0 := by decide
  have a3 : (if (3 : Int32) < 4 then (0 : Int32) else 3 - 3) = 0 := by decide
  have a4 : (if (4 : Int32) < 4 then (0 : Int32) else 4 - 3) = 1 := by decide
  have a5 : (if (5 : Int32) < 4 then (0 : Int32) else 5 - 3) = 2 := by decide
  have a6 : (if (6 : Int32) < 4 then (0 : Int32) else 6 - 3) = 3 := by decide
  simp only [x188_0, x188_1, x188_36, x188_37, x188_39, x188_42, x188_43, x188_44, x188_47, x188_48, x188_51, x188_52, x188_53, x188_54, x188_55, x188_58, x188_59, x188_62, x188_63, x188_64, x188_65, x188_67, x188_70, x188_71, x188_72, x188_75, x188_76, x188_79, x188_80, x188_81, x188_82, x188_83, x188_86, x188_87, x188_90, x188_91, x188_92, x188_93, x188_95, x188_98, x188_99, x188_100, x188_103, x188_104, x188_107, x188_108, x188_109, x188_110, x188_112, x188_115, x188_116, x188_119, x188_120, x188_121, x188_122, x188_123, x188_126, x188_127, x188_130, ka_kk_i, ka_kk_n, ka_cl_i, ka_cl_r, ka_cl_n, or_true, true_or, ka_ne2, ka_ne4, ka_ne5, ka_ne10, not_false_eq_true, not_true_eq_false, if_true, if_false, ka_k_0, ka_k_1, ka_k_2, ka_k_3, ka_k_4, ka_k_5, ka_k_6, ka_k_7, ka_k_8, ka_k_9, ka_k_10, ka_k_11, ka_k_12, ka_k_13, ka_k_14, ka_k_15, ka_k_16, ka_k_17, ka_k_18, ka_k_19, ka_k_20, ka_k_21, ka_k_22, ka_k_23, ka_k_24, ka_k_25, ka_k_26, ka_k_27, ka_k_28, ka_k_29, ka_k_30, ka_k_31, ka_k_32, ka_k_33, ka_k_34, ka_k_35, ka_k_36, ka_k_37, ka_k_38, ka_k_39, ka_k_40, ka_k_41, ka_k_42, ka_k_43, ka_k_44, ka_k_45, ka_k_46, ka_k_47, ka_k_48, ka_k_49, ka_k_50, ka_k_51, ka_k_52, ka_k_53, ka_k_54, ka_k_55, ka_k_56, ka_k_57, ka_k_58, ka_k_59, ka_k_60, ka_k_61, ka_k_62, ka_k_63, ka_k_64, ka_k_65, ka_k_66, ka_k_67, ka_k_68, ka_k_69, ka_k_70, ka_k_71, ka_k_72, ka_k_73, ka_k_74, ka_k_75, ka_k_76, ka_k_77, ka_k_78, ka_k_79, ka_k_80, ka_k_81, ka_k_82, ka_k_83, ka_k_84, ka_k_85, ka_k_86, ka_k_87, ka_k_88, ka_k_89, ka_k_90, ka_k_91, ka_k_92, ka_k_93, ka_k_94, ka_k_95, ka_k_96, ka_k_97, ka_k_98, ka_k_99, ka_k_100, q0, q1, q2, q3, q4, q5, q6, sp_155, a0, a1, a2, a3, a4, a5, a6, m18, sp_122 h8 w1, ka_c_0, ka_c_1, ka_c_2, ka_c_3, ka_c_4, ka_c_5, ka_c_6, ka_c_7, ka_c_8, ka_c_9, ka_c_10, ka_c_11, ka_c_12, ka_c_13, ka_c_14, ka_c_15, ka_c_16, ka_c_17, ka_c_18, ka_c_19, ka_c_20, ka_c_28, ka_c_40, ka_c_50, ka_c_87, wm_88, k1, @wb_4_tells_0 sc (d) X Q M W (n) r x hW h8 k0 k1 (by omega)]
theorem wb_4_tells_4 {n : Nat} {r : Nat → Int32} {x : Int32} (hW : Q 18 = W) (h8 : 0 ≤ W.toInt ∧ W.toInt < 8) (k0 : X 88 (13 + 9 * W.toNatClampNeg + 0) = 4) (k1 : X 88 (13 + 9 * W.toNatClampNeg + 1) = M) (hn : n + 7 ≤ 40) : ka_ex sc (d + 9) 188 0 [.ref 87, .int 4, .int x, ka_nv] [] (ka_mem (wm X Q n r)) = some (some (.int (((((x + 1) + W) * 2) - (1 - M)) ^^^ (x - M))), ka_mem (wm X Q (n + 1 + 1 + 1 + 1 + 1 + 1 + 1) (kn_up (kn_up (kn_up (kn_up (kn_up (kn_up (kn_up r (n) 13) (n + 1) 50) (n + 1 + 1) 20) (n + 1 + 1 + 1) 11) (n + 1 + 1 + 1 + 1) 10) (n + 1 + 1 + 1 + 1 + 1) 12) (n + 1 + 1 + 1 + 1 + 1 + 1) 12))) := by
  have q0 : ((4 : Int32) = 0) = False := by decide
  have q1 : ((4 : Int32) = 1) = False := by decide
  have q2 : ((4 : Int32) = 2) = False := by decide
  have q3 : ((4 : Int32) = 3) = False := by decide
  have q4 : ((4 : Int32) = 4) = True := by decide
  have q5 : ((4 : Int32) = 5) = False := by decide
  have q6 : ((4 : Int32) = 6) = False := by decide
  have w1 : 0 ≤ (1 : Int32).toInt ∧ (1 : Int32).toInt < 9 := by decide
  have m18 : ∀ n r, wm X Q n r 87 18 = W := fun n r => (wm_87 (by decide)).trans hW
  have a0 : (if (0 : Int32) < 4 then (0 : Int32) else 0 - 3) = 0 := by decide
  have a1 : (if (1 : Int32) < 4 then (0 : Int32) else 1 - 3) = 0 := by decide
  have a2 : (if (2 : Int32) < 4 then (0 : Int32) else 2 - 3) = 0 := by decide
  have a3 : (if (3 : Int32) < 4 then (0 : Int32) else 3 - 3) = 0 := by decide
  have a4 : (if (4 : Int32) < 4 then (0 : Int32) else 4 - 3) = 1 := by decide
  have a5 : (if (5 : Int32) < 4 then (0 : Int32) else 5 - 3) = 2 := by decide
  have a6 : (if (6 : Int32) < 4 then (0 : Int32) else 6 - 3) = 3 := by decide
  simp only [x188_0, x188_1, x188_36, x188_37, x188_39, x188_42, x188_43, x188_44, x188_47, x188_48, x188_51, x188_52, x188_53, x188_54, x188_55, x188_58, x188_59, x188_62, x188_63, x188_64, x188_65, x188_67, x188_70, x188_71, x188_72, x188_75, x188_76, x188_79, x188_80, x188_81, x188_82, x188_83, x188_86, x188_87, x188_90, x188_91, x188_92, x188_93, x188_95, x188_98, x188_99, x188_100, x188_103, x188_104, x188_107, x188_108, x188_109, x188_110, x188_112, x188_115, x188_116, x188_119, x188_120, x188_121, x188_122, x188_123, x188_126, x188_127, x188_130, ka_kk_i, ka_kk_n, ka_cl_i, ka_cl_r, ka_cl_n, or_true, true_or, ka_ne2, ka_ne4, ka_ne5, ka_ne10, not_false_eq_true, not_true_eq_false, if_true, if_false, ka_k_0, ka_k_1, ka_k_2, ka_k_3, ka_k_4, ka_k_5, ka_k_6, ka_k_7, ka_k_8, ka_k_9, ka_k_10, ka_k_11, ka_k_12, ka_k_13, ka_k_14, ka_k_15, ka_k_16, ka_k_17, ka_k_18, ka_k_19, ka_k_20, ka_k_21, ka_k_22, ka_k_23, ka_k_24, ka_k_25, ka_k_26, ka_k_27, ka_k_28, ka_k_29, ka_k_30, ka_k_31, ka_k_32, ka_k_33, ka_k_34, ka_k_35, ka_k_36, ka_k_37, ka_k_38, ka_k_39, ka_k_40, ka_k_41, ka_k_42, ka_k_43, ka_k_44, ka_k_45, ka_k_46, ka_k_47, ka_k_48, ka_k_49, ka_k_50, ka_k_51, ka_k_52, ka_k_53, ka_k_54, ka_k_55, ka_k_56, ka_k_57, ka_k_58, ka_k_59, ka_k_60, ka_k_61, ka_k_62, ka_k_63, ka_k_64, ka_k_65, ka_k_66, ka_k_67, ka_k_68, ka_k_69, ka_k_70, ka_k_71, ka_k_72, ka_k_73, ka_k_74, ka_k_75, ka_k_76, ka_k_77, ka_k_78, ka_k_79, ka_k_80, ka_k_81, ka_k_82, ka_k_83, ka_k_84, ka_k_85, ka_k_86, ka_k_87, ka_k_88, ka_k_89, ka_k_90, ka_k_91, ka_k_92, ka_k_93, ka_k_94, ka_k_95, ka_k_96, ka_k_97, ka_k_98, ka_k_99, ka_k_100, q0, q1, q2, q3, q4, q5, q6, sp_155, a0, a1, a2, a3, a4, a5, a6, m18, sp_122 h8 w1, ka_c_0, ka_c_1, ka_c_2, ka_c_3, ka_c_4, ka_c_5, ka_c_6, ka_c_7, ka_c_8, ka_c_9, ka_c_10, ka_c_11, ka_c_12, ka_c_13, ka_c_14, ka_c_15, ka_c_16, ka_c_17, ka_c_18, ka_c_19, ka_c_20, ka_c_28, ka_c_40, ka_c_50, ka_c_87, wm_88, k1, @wb_4_tells_1 sc (d) X Q M W (n) r x hW h8 k0 k1 (by omega)]
theorem wb_5_cut_0 {n : Nat} {r : Nat → Int32} {x : Int32} (hW : Q 18 = W) (h8 : 0 ≤ W.toInt ∧ W.toInt < 8) (k0 : X 88 (13 + 9 * W.toNatClampNeg + 0) = 5) (k1 : X 88 (13 + 9 * W.toNatClampNeg + 1) = M) (hn : n + 1 ≤ 40) : ka_ex sc (d + 1) 185 0 [.ref 87, .int 0, .int x] [] (ka_mem (wm X Q n r)) = some (some (.int (x + W)), ka_mem (wm X Q (n + 1) (kn_up r (n) 10))) := by
  have q0 : ((0 : Int32) = 0) = True := by decide
  have q1 : ((0 : Int32) = 1) = False := by decide
  have q2 : ((0 : Int32) = 2) = False := by decide
  have q3 : ((0 : Int32) = 3) = False := by decide
  have q4 : ((0 : Int32) = 4) = False := by decide
  have q5 : ((0 : Int32) = 5) = False := by decide
  have q6 : ((0 : Int32) = 6) = False := by decide
  have w1 : 0 ≤ (1 : Int32).toInt ∧ (1 : Int32).toInt < 9 := by decide
  have m18 : ∀ n r, wm X Q n r 87 18 = W := fun n r => (wm_87 (by decide)).trans hW
  have a0 : (if (0 : Int32) < 4 then (0 : Int32) else 0 - 3) = 0 := by decide
  have a1 : (if (1 : Int32) < 4 then (0 : Int32) else 1 - 3) = 0 := by decide
  have a2 : (if (2 : Int32) < 4 then (0 : Int32) else 2 - 3) = 0 := by decide
  have a3 : (if (3 : Int32) < 4 then (0 : Int32) else 3 - 3) = 0 := by decide
  have a4 : (if (4 : Int32) < 4 then (0 : Int32) else 4 - 3) = 1 := by decide
  have a5 : (if (5 : Int32) < 4 then (0 : Int32) else 5 - 3) = 2 := by decide
  have a6 : (if (6 : Int32) < 4 then (0 : Int32) else 6 - 3) = 3 := by decide
  simp only [x185_0, x185_1, x185_28, x185_29, x185_31, x185_34, x185_35, x185_36, x185_39, x185_40, x185_41, x185_42, x185_44, x185_47, x185_48, x185_49, x185_52, x185_53, x185_56, x185_57, x185_58, x185_59, x185_60, x185_61, x185_64, x185_65, x185_68, ka_kk_i, ka_kk_n, ka_cl_i, ka_cl_r, ka_cl_n, or_true, true_or, ka_ne2, ka_ne4, ka_ne5, ka_ne10, not_false_eq_true, not_true_eq_false, if_true, if_false, ka_k_0, ka_k_1, ka_k_2, ka_k_3, ka_k_4, ka_k_5, ka_k_6, ka_k_7, ka_k_8, ka_k_9, ka_k_10, ka_k_11, ka_k_12, ka_k_13, ka_k_14, ka_k_15, ka_k_16, ka_k_17, ka_k_18, ka_k_19, ka_k_20, ka_k_21, ka_k_22, ka_k_23, ka_k_24, ka_k_25, ka_k_26, ka_k_27, ka_k_28, ka_k_29, ka_k_30, ka_k_31, ka_k_32, ka_k_33, ka_k_34, ka_k_35, ka_k_36, ka_k_37, ka_k_38, ka_k_39, ka_k_40, ka_k_41, ka_k_42, ka_k_43, ka_k_44, ka_k_45, ka_k_46, ka_k_47, ka_k_48, ka_k_49, ka_k_50, ka_k_51, ka_k_52, ka_k_53, ka_k_54, ka_k_55, ka_k_56, ka_k_57, ka_k_58, ka_k_59, ka_k_60, ka_k_61, ka_k_62, ka_k_63, ka_k_64, ka_k_65, ka_k_66, ka_k_67, ka_k_68, ka_k_69, ka_k_70, ka_k_71, ka_k_72, ka_k_73, ka_k_74, ka_k_75, ka_k_76, ka_k_77, ka_k_78, ka_k_79, ka_k_80, ka_k_81, ka_k_82, ka_k_83, ka_k_84, ka_k_85, ka_k_86, ka_k_87, ka_k_88, ka_k_89, ka_k_90, ka_k_91, ka_k_92, ka_k_93, ka_k_94, ka_k_95, ka_k_96, ka_k_97, ka_k_98, ka_k_99, ka_k_100, q0, q1, q2, q3, q4, q5, q6, sp_155, a0, a1, a2, a3, a4, a5, a6, m18, sp_122 h8 w1, ka_c_0, ka_c_1, ka_c_2, ka_c_3, ka_c_4, ka_c_5, ka_c_6, ka_c_7, ka_c_8, ka_c_9, ka_c_10, ka_c_11, ka_c_12, ka_c_13, ka_c_14, ka_c_15, ka_c_16, ka_c_17, ka_c_18, ka_c_19, ka_c_20, ka_c_28, ka_c_40, ka_c_50, ka_c_87, wm_88, k1, sp_183w (show n < 40 by omega)]
theorem wb_5_cut_2 {n : Nat} {r : Nat → Int32} {x : Int32} (hW : Q 18 = W) (h8 : 0 ≤ W.toInt ∧ W.toInt < 8) (k0 : X 88 (13 + 9 * W.toNatClampNeg + 0) = 5) (k1 : X 88 (13 + 9 * W.toNatClampNeg + 1) = M) (hn : n + 2 ≤ 40) : ka_ex sc (d + 2) 185 0 [.ref 87, .int 2, .int x] [] (ka_mem (wm X Q n r)) = some (some (.int ((x + W) * 3)), ka_mem (wm X Q (n + 1 + 1) (kn_up (kn_up r (n) 30) (n + 1) 10))) := by
  have q0 : ((2 : Int32) = 0) = False := by decide
  have q1 : ((2 : Int32) = 1) = False := by decide
  have q2 : ((2 : Int32) = 2) = True := by decide
  have q3 : ((2 : Int32) = 3) = False := by decide
  have q4 : ((2 : Int32) = 4) = False := by decide
  have q5 : ((2 : Int32) = 5) = False := by decide
  have q6 : ((2 : Int32) = 6) = False := by decide
  have w1 : 0 ≤ (1 : Int32).toInt ∧ (1 : Int32).toInt < 9 := by decide
  have m18 : ∀ n r, wm X Q n r 87 18 = W := fun n r => (wm_87 (by decide)).trans hW
  have a0 : (if (0 : Int32) < 4 then (0 : Int32) else 0 - 3) = 0 := by decide
  have a1 : (if (1 : Int32) < 4 then (0 : Int32) else 1 - 3) = 0 := by decide
  have a2 : (if (2 : Int32) < 4 then (0 : Int32) else 2 - 3) = 0 := by decide
  have a3 : (if (3 : Int32) < 4 then (0 : Int32) else 3 - 3) = 0 := by decide
  have a4 : (if (4 : Int32) < 4 then (0 : Int32) else 4 - 3) = 1 := by decide
  have a5 : (if (5 : Int32) < 4 then (0 : Int32) else 5 - 3) = 2 := by decide
  have a6 : (if (6 : Int32) < 4 then (0 : Int32) else 6 - 3) = 3 := by decide
  simp only [x185_0, x185_1, x185_28, x185_29, x185_31, x185_34, x185_35, x185_36, x185_39, x185_40, x185_41, x185_42, x185_44, x185_47, x185_48, x185_49, x185_52, x185_53, x185_56, x185_57, x185_58, x185_59, x185_60, x185_61, x185_64, x185_65, x185_68, ka_kk_i, ka_kk_n, ka_cl_i, ka_cl_r, ka_cl_n, or_true, true_or, ka_ne2, ka_ne4, ka_ne5, ka_ne10, not_false_eq_true, not_true_eq_false, if_true, if_false, ka_k_0, ka_k_1, ka_k_2, ka_k_3, ka_k_4, ka_k_5, ka_k_6, ka_k_7, ka_k_8, ka_k_9, ka_k_10, ka_k_11, ka_k_12, ka_k_13, ka_k_14, ka_k_15, ka_k_16, ka_k_17, ka_k_18, ka_k_19, ka_k_20, ka_k_21, ka_k_22, ka_k_23, ka_k_24, ka_k_25, ka_k_26, ka_k_27, ka_k_28, ka_k_29, ka_k_30, ka_k_31, ka_k_32, ka_k_33, ka_k_34, ka_k_35, ka_k_36, ka_k_37, ka_k_38, ka_k_39, ka_k_40, ka_k_41, ka_k_42, ka_k_43, ka_k_44, ka_k_45, ka_k_46, ka_k_47, ka_k_48, ka_k_49, ka_k_50, ka_k_51, ka_k_52, ka_k_53, ka_k_54, ka_k_55, ka_k_56, ka_k_57, ka_k_58, ka_k_59, ka_k_60, ka_k_61, ka_k_62, ka_k_63, ka_k_64, ka_k_65, ka_k_66, ka_k_67, ka_k_68, ka_k_69, ka_k_70, ka_k_71, ka_k_72, ka_k_73, ka_k_74, ka_k_75, ka_k_76, ka_k_77, ka_k_78, ka_k_79, ka_k_80, ka_k_81, ka_k_82, ka_k_83, ka_k_84, ka_k_85, ka_k_86, ka_k_87, ka_k_88, ka_k_89, ka_k_90, ka_k_91, ka_k_92, ka_k_93, ka_k_94, ka_k_95, ka_k_96, ka_k_97, ka_k_98, ka_k_99, ka_k_100, q0, q1, q2, q3, q4, q5, q6, sp_155, a0, a1, a2, a3, a4, a5, a6, m18, sp_122 h8 w1, ka_c_0, ka_c_1, ka_c_2, ka_c_3, ka_c_4, ka_c_5, ka_c_6, ka_c_7, ka_c_8, ka_c_9, ka_c_10, ka_c_11, ka_c_12, ka_c_13, ka_c_14, ka_c_15, ka_c_16, ka_c_17, ka_c_18, ka_c_19, ka_c_20, ka_c_28, ka_c_40, ka_c_50, ka_c_87, wm_88, k1, sp_183w (show n < 40 by omega), @wb_5_cut_0 sc (d) X Q M W (n + 1) (kn_up r (n) 30) x hW h8 k0 k1 (by omega)]
theorem wb_5_cut_5 {n : Nat} {r : Nat → Int32} {x : Int32} (hW : Q 18 = W) (h8 : 0 ≤ W.toInt ∧ W.toInt < 8) (k0 : X 88 (13 + 9 * W.toNatClampNeg + 0) = 5) (k1 : X 88 (13 + 9 * W.toNatClampNeg + 1) = M) (hn : n + 2 ≤ 40) : ka_ex sc (d + 3) 185 0 [.ref 87, .int 5, .int x] [] (ka_mem (wm X Q n r)) = some (some (.int ((x + W) * 3)), ka_mem (wm X Q (n + 1 + 1) (kn_up (kn_up r (n) 30) (n + 1) 10))) := by
  have q0 : ((5 : Int32) = 0) = False := by decide
  have q1 : ((5 : Int32) = 1) = False := by decide
  have q2 : ((5 : Int32) = 2) = False := by decide
  have q3 : ((5 : Int32) = 3) = False := by decide
  have q4 : ((5 : Int32) = 4) = False := by decide
  have q5 : ((5 : Int32) = 5) = True := by decide
  have q6 : ((5 : Int32) = 6) = False := by decide
  have w1 : 0 ≤ (1 : Int32).toInt ∧ (1 : Int32).toInt < 9 := by decide
  have m18 : ∀ n r, wm X Q n r 87 18 = W := fun n r => (wm_87 (by decide)).trans hW
  have a0 : (if (0 : Int32) < 4 then (0 : Int32) else 0 - 3) = 0 := by decide
  have a1 : (if (1 : Int32) < 4 then (0 : Int32) else 1 - 3) = 0 := by decide
  have a2 : (if (2 : Int32) < 4 then (0 : Int32) else 2 - 3) = 0 := by decide
  have a3 : (if (3 : Int32) < 4 then (0 : Int32) else 3 - 3) = 0 := by decide
  have a4 : (if (4 : Int32) < 4 then (0 : Int32) else 4 - 3) = 1 := by decide
  have a5 : (if (5 : Int32) < 4 then (0 : Int32) else 5 - 3) = 2 := by decide
  have a6 : (if (6 : Int32) < 4 then (0 : Int32) else 6 - 3) = 3 := by decide
  simp only [x185_0, x185_1, x185_28, x185_29, x185_31, x185_34, x185_35, x185_36, x185_39, x185_40, x185_41, x185_42, x185_44, x185_47, x185_48, x185_49, x185_52, x185_53, x185_56, x185_57, x185_58, x185_59, x185_60, x185_61, x185_64, x185_65, x185_68, ka_kk_i, ka_kk_n, ka_cl_i, ka_cl_r, ka_cl_n, or_true, true_or, ka_ne2, ka_ne4, ka_ne5, ka_ne10, not_false_eq_true, not_true_eq_false, if_true, if_false, ka_k_0, ka_k_1, ka_k_2, ka_k_3, ka_k_4, ka_k_5, ka_k_6, ka_k_7, ka_k_8, ka_k_9, ka_k_10, ka_k_11, ka_k_12, ka_k_13, ka_k_14, ka_k_15, ka_k_16, ka_k_17, ka_k_18, ka_k_19, ka_k_20, ka_k_21, ka_k_22, ka_k_23, ka_k_24, ka_k_25, ka_k_26, ka_k_27, ka_k_28, ka_k_29, ka_k_30, ka_k_31, ka_k_32, ka_k_33, ka_k_34, ka_k_35, ka_k_36, ka_k_37, ka_k_38, ka_k_39, ka_k_40, ka_k_41, ka_k_42, ka_k_43, ka_k_44, ka_k_45, ka_k_46, ka_k_47, ka_k_48, ka_k_49, ka_k_50, ka_k_51, ka_k_52, ka_k_53, ka_k_54, ka_k_55, ka_k_56, ka_k_57, ka_k_58, ka_k_59, ka_k_60, ka_k_61, ka_k_62, ka_k_63, ka_k_64, ka_k_65, ka_k_66, ka_k_67, ka_k_68, ka_k_69, ka_k_70, ka_k_71, ka_k_72, ka_k_73, ka_k_74, ka_k_75, ka_k_76, ka_k_77, ka_k_78, ka_k_79, ka_k_80, ka_k_81, ka_k_82, ka_k_83, ka_k_84, ka_k_85, ka_k_86, ka_k_87, ka_k_88, ka_k_89, ka_k_90, ka_k_91, ka_k_92, ka_k_93, ka_k_94, ka_k_95, ka_k_96, ka_k_97, ka_k_98, ka_k_99, ka_k_100, q0, q1, q2, q3, q4, q5, q6, sp_155, a0, a1, a2, a3, a4, a5, a6, m18, sp_122 h8 w1, ka_c_0, ka_c_1, ka_c_2, ka_c_3, ka_c_4, ka_c_5, ka_c_6, ka_c_7, ka_c_8, ka_c_9, ka_c_10, ka_c_11, ka_c_12, ka_c_13, ka_c_14, ka_c_15, ka_c_16, ka_c_17, ka_c_18, ka_c_19, ka_c_20, ka_c_28, ka_c_40, ka_c_50, ka_c_87, wm_88, k1, @wb_5_cut_2 sc (d) X Q M W (n) r x hW h8 k0 k1 (by omega)]
theorem wb_5_rings_0 {n : Nat} {r : Nat → Int32} {x : Int32} (hW : Q 18 = W) (h8 : 0 ≤ W.toInt ∧ W.toInt < 8) (k0 : X 88 (13 + 9 * W.toNatClampNeg + 0) = 5) (k1 : X 88 (13 + 9 * W.toNatClampNeg + 1) = M) (hn : n + 3 ≤ 40) : ka_ex sc (d + 4) 186 0 [.ref 87, .int 0, .int x, ka_nv] [] (ka_mem (wm X Q n r)) = some (some (.int (((x + W) * 3) * 2)), ka_mem (wm X Q (n + 1 + 1 + 1) (kn_up (kn_up (kn_up r (n) 11) (n + 1) 30) (n + 1 + 1) 10))) := by
  have q0 : ((0 : Int32) = 0) = True := by decide
  have q1 : ((0 : Int32) = 1) = False := by decide
  have q2 : ((0 : Int32) = 2) = False := by decide
  have q3 : ((0 : Int32) = 3) = False := by decide
  have q4 : ((0 : Int32) = 4) = False := by decide
  have q5 : ((0 : Int32) = 5) = False := by decide
  have q6 : ((0 : Int32) = 6) = False := by decide
  have w1 : 0 ≤ (1 : Int32).toInt ∧ (1 : Int32).toInt < 9 := by decide
  have m18 : ∀ n r, wm X Q n r 87 18 = W := fun n r => (wm_87 (by decide)).trans hW
  have a0 : (if (0 : Int32) < 4 then (0 : Int32) else 0 - 3) = 0 := by decide
  have a1 : (if (1 : Int32) < 4 then (0 : Int32) else 1 - 3) = 0 := by decide
  have a2 : (if (2 : Int32) < 4 then (0 : Int32) else 2 - 3) = 0 := by decide
  have a3 : (if (3 : Int32) < 4 then (0 : Int32) else 3 - 3) = 0 := by decide
  have a4 : (if (4 : Int32) < 4 then (0 : Int32) else 4 - 3) = 1 := by decide
  have a5 : (if (5 : Int32) < 4 then (0 : Int32) else 5 - 3) = 2 := by decide
  have a6 : (if (6 : Int32) < 4 then (0 : Int32) else 6 - 3) = 3 := by decide
  simp only [x186_0, x186_1, x186_36, x186_37, x186_39, x186_42, x186_43, x186_44, x186_47, x186_48, x186_51, x186_52, x186_53, x186_54, x186_55, x186_57, x186_60, x186_61, x186_62, x186_65, x186_66, x186_69, x186_70, x186_71, x186_72, x186_73, x186_76, x186_77, x186_80, x186_81, x186_82, x186_83, x186_85, x186_88, x186_89, x186_90, x186_93, x186_94, x186_95, x186_96, x186_99, x186_100, x186_101, x186_102, x186_105, x186_106, x186_109, ka_kk_i, ka_kk_n, ka_cl_i, ka_cl_r, ka_cl_n, or_true, true_or, ka_ne2, ka_ne4, ka_ne5, ka_ne10, not_false_eq_true, not_true_eq_false, if_true, if_false, ka_k_0, ka_k_1, ka_k_2, ka_k_3, ka_k_4, ka_k_5, ka_k_6, ka_k_7, ka_k_8, ka_k_9, ka_k_10, ka_k_11, ka_k_12, ka_k_13, ka_k_14, ka_k_15, ka_k_16, ka_k_17, ka_k_18, ka_k_19, ka_k_20, ka_k_21, ka_k_22, ka_k_23, ka_k_24, ka_k_25, ka_k_26, ka_k_27, ka_k_28, ka_k_29, ka_k_30, ka_k_31, ka_k_32, ka_k_33, ka_k_34, ka_k_35, ka_k_36, ka_k_37, ka_k_38, ka_k_39, ka_k_40, ka_k_41, ka_k_42, ka_k_43, ka_k_44, ka_k_45, ka_k_46, ka_k_47, ka_k_48, ka_k_49, ka_k_50, ka_k_51, ka_k_52, ka_k_53, ka_k_54, ka_k_55, ka_k_56, ka_k_57, ka_k_58, ka_k_59, ka_k_60, ka_k_61, ka_k_62, ka_k_63, ka_k_64, ka_k_65, ka_k_66, ka_k_67, ka_k_68, ka_k_69, ka_k_70, ka_k_71, ka_k_72, ka_k_73, ka_k_74, ka_k_75, ka_k_76, ka_k_77, ka_k_78, ka_k_79, ka_k_80, ka_k_81, ka_k_82, ka_k_83, ka_k_84, ka_k_85, ka_k_86, ka_k_87, ka_k_88, ka_k_89, ka_k_90, ka_k_91, ka_k_92, ka_k_93, ka_k_94, ka_k_95, ka_k_96, ka_k_97, ka_k_98, ka_k_99, ka_k_100, q0, q1, q2, q3, q4, q5, q6, sp_155, a0, a1, a2, a3, a4, a5, a6, m18, sp_122 h8 w1, ka_c_0, ka_c_1, ka_c_2, ka_c_3, ka_c_4, ka_c_5, ka_c_6, ka_c_7, ka_c_8, ka_c_9, ka_c_10, ka_c_11, ka_c_12, ka_c_13, ka_c_14, ka_c_15, ka_c_16, ka_c_17, ka_c_18, ka_c_19, ka_c_20, ka_c_28, ka_c_40, ka_c_50, ka_c_87, wm_88, k1, sp_183w (show n < 40 by omega), sp_184w hW h8 k0, @wb_5_cut_5 sc (d) X Q M W (n + 1) (kn_up r (n) 11) x hW h8 k0 k1 (by omega)]
theorem wb_5_rings_2 {n : Nat} {r : Nat → Int32} {x : Int32} (hW : Q 18 = W) (h8 : 0 ≤ W.toInt ∧ W.toInt < 8) (k0 : X 88 (13 + 9 * W.toNatClampNeg + 0) = 5) (k1 : X 88 (13 + 9 * W.toNatClampNeg + 1) = M) (hn : n + 3 ≤ 40) : ka_ex sc (d + 5) 186 0 [.ref 87, .int 2, .int x, ka_nv] [] (ka_mem (wm X Q n r)) = some (some (.int (((x + W) * 3) * 2)), ka_mem (wm X Q (n + 1 + 1 + 1) (kn_up (kn_up (kn_up r (n) 11) (n + 1) 30) (n + 1 + 1) 10))) := by
  have q0 : ((2 : Int32) = 0) = False := by decide
  have q1 : ((2 : Int32) = 1) = False := by decide
  have q2 : ((2 : Int32) = 2) = True := by decide
  have q3 : ((2 : Int32) = 3) = False := by decide
  have q4 : ((2 : Int32) = 4) = False := by decide
  have q5 : ((2 : Int32) = 5) = False := by decide
  have q6 : ((2 : Int32) = 6) = False := by decide
  have w1 : 0 ≤ (1 : Int32).toInt ∧ (1 : Int32).toInt < 9 := by decide
  have m18 : ∀ n r, wm X Q n r 87 18 = W := fun n r => (wm_87 (by decide)).trans hW
  have a0 : (if (0 : Int32) < 4 then (0 : Int32) else 0 - 3) = 0 := by decide
  have a1 : (if (1 : Int32) < 4 then (0 : Int32) else 1 - 3) = 0 := by decide
  have a2 : (if (2 : Int32) < 4 then (0 : Int32) else 2 - 3) = 0 := by decide
  have a3 : (if (3 : Int32) < 4 then (0 : Int32) else 3 - 3) = 0 := by decide
  have a4 : (if (4 : Int32) < 4 then (0 : Int32) else 4 - 3) = 1 := by decide
  have a5 : (if (5 : Int32) < 4 then (0 : Int32) else 5 - 3) = 2 := by decide
  have a6 : (if (6 : Int32) < 4 then (0 : Int32) else 6 - 3) = 3 := by decide
  simp only [x186_0, x186_1, x186_36, x186_37, x186_39, x186_42, x186_43, x186_44, x186_47, x186_48, x186_51, x186_52, x186_53, x186_54, x186_55, x186_57, x186_60, x186_61, x186_62, x186_65, x186_66, x186_69, x186_70, x186_71, x186_72, x186_73, x186_76, x186_77, x186_80, x186_81, x186_82, x186_83, x186_85, x186_88, x186_89, x186_90, x186_93, x186_94, x186_95, x186_96, x186_99, x186_100, x186_101, x186_102, x186_105, x186_106, x186_109, ka_kk_i, ka_kk_n, ka_cl_i, ka_cl_r, ka_cl_n, or_true, true_or, ka_ne2, ka_ne4, ka_ne5, ka_ne10, not_false_eq_true, not_true_eq_false, if_true, if_false, ka_k_0, ka_k_1, ka_k_2, ka_k_3, ka_k_4, ka_k_5, ka_k_6, ka_k_7, ka_k_8, ka_k_9, ka_k_10, ka_k_11, ka_k_12, ka_k_13, ka_k_14, ka_k_15, ka_k_16, ka_k_17, ka_k_18, ka_k_19, ka_k_20, ka_k_21, ka_k_22, ka_k_23, ka_k_24, ka_k_25, ka_k_26, ka_k_27, ka_k_28, ka_k_29, ka_k_30, ka_k_31, ka_k_32, ka_k_33, ka_k_34, ka_k_35, ka_k_36, ka_k_37, ka_k_38, ka_k_39, ka_k_40, ka_k_41, ka_k_42, ka_k_43, ka_k_44, ka_k_45, ka_k_46, ka_k_47, ka_k_48, ka_k_49, ka_k_50, ka_k_51, ka_k_52, ka_k_53, ka_k_54, ka_k_55, ka_k_56, ka_k_57, ka_k_58, ka_k_59, ka_k_60, ka_k_61, ka_k_62, ka_k_63, ka_k_64, ka_k_65, ka_k_66, ka_k_67, ka_k_68, ka_k_69, ka_k_70, ka_k_71, ka_k_72, ka_k_73, ka_k_74, ka_k_75, ka_k_76, ka_k_77, ka_k_78, ka_k_79, ka_k_80, ka_k_81, ka_k_82, ka_k_83, ka_k_84, ka_k_85, ka_k_86, ka_k_87, ka_k_88, ka_k_89, ka_k_90, ka_k_91, ka_k_92, ka_k_93, ka_k_94, ka_k_95, ka_k_96, ka_k_97, ka_k_98, ka_k_99, ka_k_100, q0, q1, q2, q3, q4, q5, q6, sp_155, a0, a1, a2, a3, a4, a5, a6, m18, sp_122 h8 w1, ka_c_0, ka_c_1, ka_c_2, ka_c_3, ka_c_4, ka_c_5, ka_c_6, ka_c_7, ka_c_8, ka_c_9, ka_c_10, ka_c_11, ka_c_12, ka_c_13, ka_c_14, ka_c_15, ka_c_16, ka_c_17, ka_c_18, ka_c_19, ka_c_20, ka_c_28, ka_c_40, ka_c_50, ka_c_87, wm_88, k1, @wb_5_rings_0 sc (d) X Q M W (n) r x hW h8 k0 k1 (by omega)]
theorem wb_5_rings_5 {n : Nat} {r : Nat → Int32} {x : Int32} (hW : Q 18 = W) (h8 : 0 ≤ W.toInt ∧ W.toInt < 8) (k0 : X 88 (13 + 9 * W.toNatClampNeg + 0) = 5) (k1 : X 88 (13 + 9 * W.toNatClampNeg + 1) = M) (hn : n + 3 ≤ 40) : ka_ex sc (d + 6) 186 0 [.ref 87, .int 5, .int x, ka_nv] [] (ka_mem (wm X Q n r)) = some (some (.int (((x + W) * 3) * 2)), ka_mem (wm X Q (n + 1 + 1 + 1) (kn_up (kn_up (kn_up r (n) 11) (n + 1) 30) (n + 1 + 1) 10))) := by
  have q0 : ((5 : Int32) = 0) = False := by decide
  have q1 : ((5 : Int32) = 1) = False := by decide
  have q2 : ((5 : Int32) = 2) = False := by decide
  have q3 : ((5 : Int32) = 3) = False := by decide
  have q4 : ((5 : Int32) = 4) = False := by decide
  have q5 : ((5 : Int32) = 5) = True := by decide
  have q6 : ((5 : Int32) = 6) = False := by decide
  have w1 : 0 ≤ (1 : Int32).toInt ∧ (1 : Int32).toInt < 9 := by decide
  have m18 : ∀ n r, wm X Q n r 87 18 = W := fun n r => (wm_87 (by decide)).trans hW
  have a0 : (if (0 : Int32) < 4 then (0 : Int32) else 0 - 3) = 0 := by decide
  have a1 : (if (1 : Int32) < 4 then (0 : Int32) else 1 - 3) = 0 := by decide
  have a2 : (if (2 : Int32) < 4 then (0 : Int32) else 2 - 3) = 0 := by decide
  have a3 : (if (3 : Int32) < 4 then (0 : Int32) else 3 - 3) = 0 := by decide
  have a4 : (if (4 : Int32) < 4 then (0 : Int32) else 4 - 3) = 1 := by decide
  have a5 : (if (5 : Int32) < 4 then (0 : Int32) else 5 - 3) = 2 := by decide
  have a6 : (if (6 : Int32) < 4 then (0 : Int32) else 6 - 3) = 3 := by decide
  simp only [x186_0, x186_1, x186_36, x186_37, x186_39, x186_42, x186_43, x186_44, x186_47, x186_48, x186_51, x186_52, x186_53, x186_54, x186_55, x186_57, x186_60, x186_61, x186_62, x186_65, x186_66, x186_69, x186_70, x186_71, x186_72, x186_73, x186_76, x186_77, x186_80, x186_81, x186_82, x186_83, x186_85, x186_88, x186_89, x186_90, x186_93, x186_94, x186_95, x186_96, x186_99, x186_100, x186_101, x186_102, x186_105, x186_106, x186_109, ka_kk_i, ka_kk_n, ka_cl_i, ka_cl_r, ka_cl_n, or_true, true_or, ka_ne2, ka_ne4, ka_ne5, ka_ne10, not_false_eq_true, not_true_eq_false, if_true, if_false, ka_k_0, ka_k_1, ka_k_2, ka_k_3, ka_k_4, ka_k_5, ka_k_6, ka_k_7, ka_k_8, ka_k_9, ka_k_10, ka_k_11, ka_k_12, ka_k_13, ka_k_14, ka_k_15, ka_k_16, ka_k_17, ka_k_18, ka_k_19, ka_k_20, ka_k_21, ka_k_22, ka_k_23, ka_k_24, ka_k_25, ka_k_26, ka_k_27, ka_k_28, ka_k_29, ka_k_30, ka_k_31, ka_k_32, ka_k_33, ka_k_34, ka_k_35, ka_k_36, ka_k_37, ka_k_38, ka_k_39, ka_k_40, ka_k_41, ka_k_42, ka_k_43, ka_k_44, ka_k_45, ka_k_46, ka_k_47, ka_k_48, ka_k_49, ka_k_50, ka_k_51, ka_k_52, ka_k_53, ka_k_54, ka_k_55, ka_k_56, ka_k_57, ka_k_58, ka_k_59, ka_k_60, ka_k_61, ka_k_62, ka_k_63, ka_k_64, ka_k_65, ka_k_66, ka_k_67, ka_k_68, ka_k_69, ka_k_70, ka_k_71, ka_k_72, ka_k_73, ka_k_74, ka_k_75, ka_k_76, ka_k_77, ka_k_78, ka_k_79, ka_k_80, ka_k_81, ka_k_82, ka_k_83, ka_k_84, ka_k_85, ka_k_86, ka_k_87, ka_k_88, ka_k_89, ka_k_90, ka_k_91, ka_k_92, ka_k_93, ka_k_94, ka_k_95, ka_k_96, ka_k_97, ka_k_98, ka_k_99, ka_k_100, q0, q1, q2, q3, q4, q5, q6, sp_155, a0, a1, a2, a3, a4, a5, a6, m18, sp_122 h8 w1, ka_c_0, ka_c_1, ka_c_2, ka_c_3, ka_c_4, ka_c_5, ka_c_6, ka_c_7, ka_c_8, ka_c_9, ka_c_10, ka_c_11, ka_c_12, ka_c_13, ka_c_14, ka_c_15, ka_c_16, ka_c_17, ka_c_18, ka_c_19, ka_c_20, ka_c_28, ka_c_40, ka_c_50, ka_c_87, wm_88, k1, @wb_5_rings_2 sc (d) X Q M W (n) r x hW h8 k0 k1 (by omega)]
theorem wb_5_grind_0 {n : Nat} {r : Nat → Int32} {x : Int32} (hW : Q 18 = W) (h8 : 0 ≤ W.toInt ∧ W.toInt < 8) (k0 : X 88 (13 + 9 * W.toNatClampNeg + 0) = 5) (k1 : X 88 (13 + 9 * W.toNatClampNeg + 1) = M) (hn : n + 1 ≤ 40) : ka_ex sc (d + 1) 187 0 [.ref 87, .int 0, .int x] [] (ka_mem (wm X Q n r)) = some (some (.int (x - M)), ka_mem (wm X Q (n + 1) (kn_up r (n) 12))) := by
  have q0 : ((0 : Int32) = 0) = True := by decide
  have q1 : ((0 : Int32) = 1) = False := by decide
  have q2 : ((0 : Int32) = 2) = False := by decide
  have q3 : ((0 : Int32) = 3) = False := by decide
  have q4 : ((0 : Int32) = 4) = False := by decide
  have q5 : ((0 : Int32) = 5) = False := by decide
  have q6 : ((0 : Int32) = 6) = False := by decide
  have w1 : 0 ≤ (1 : Int32).toInt ∧ (1 : Int32).toInt < 9 := by decide
  have m18 : ∀ n r, wm X Q n r 87 18 = W := fun n r => (wm_87 (by decide)).trans hW
  have a0 : (if (0 : Int32) < 4 then (0 : Int32) else 0 - 3) = 0 := by decide
  have a1 : (if (1 : Int32) < 4 then (0 : Int32) else 1 - 3) = 0 := by decide
  have a2 : (if (2 : Int32) < 4 then (0 : Int32) else 2 - 3) = 0 := by decide
  have a3 : (if (3 : Int32) < 4 then (0 : Int32) else 3 - 3) = 0 := by decide
  have a4 : (if (4 : Int32) < 4 then (0 : Int32) else 4 - 3) = 1 := by decide
  have a5 : (if (5 : Int32) < 4 then (0 : Int32) else 5 - 3) = 2 := by decide
  have a6 : (if (6 : Int32) < 4 then (0 : Int32) else 6 - 3) = 3 := by decide
  simp only [x187_0, x187_1, x187_36, x187_37, x187_39, x187_42, x187_43, x187_44, x187_45, x187_48, x187_49, x187_52, x187_53, x187_54, x187_55, x187_57, x187_60, x187_61, x187_62, x187_65, x187_66, x187_69, x187_70, x187_71, x187_72, x187_74, x187_77, x187_78, x187_80, x187_83, x187_84, x187_87, x187_88, x187_91, x187_92, x187_93, x187_94, x187_95, x187_98, x187_99, x187_102, ka_kk_i, ka_kk_n, ka_cl_i, ka_cl_r, ka_cl_n, or_true, true_or, ka_ne2, ka_ne4, ka_ne5, ka_ne10, not_false_eq_true, not_true_eq_false, if_true, if_false, ka_k_0, ka_k_1, ka_k_2, ka_k_3, ka_k_4, ka_k_5, ka_k_6, ka_k_7, ka_k_8, ka_k_9, ka_k_10, ka_k_11, ka_k_12, ka_k_13, ka_k_14, ka_k_15, ka_k_16, ka_k_17, ka_k_18, ka_k_19, ka_k_20, ka_k_21, ka_k_22, ka_k_23, ka_k_24, ka_k_25, ka_k_26, ka_k_27, ka_k_28, ka_k_29, ka_k_30, ka_k_31, ka_k_32, ka_k_33, ka_k_34, ka_k_35, ka_k_36, ka_k_37, ka_k_38, ka_k_39, ka_k_40, ka_k_41, ka_k_42, ka_k_43, ka_k_44, ka_k_45, ka_k_46, ka_k_47, ka_k_48, ka_k_49, ka_k_50, ka_k_51, ka_k_52, ka_k_53, ka_k_54, ka_k_55, ka_k_56, ka_k_57, ka_k_58, ka_k_59, ka_k_60, ka_k_61, ka_k_62, ka_k_63, ka_k_64, ka_k_65, ka_k_66, ka_k_67, ka_k_68, ka_k_69, ka_k_70, ka_k_71, ka_k_72, ka_k_73, ka_k_74, ka_k_75, ka_k_76, ka_k_77, ka_k_78, ka_k_79, ka_k_80, ka_k_81, ka_k_82, ka_k_83, ka_k_84, ka_k_85, ka_k_86, ka_k_87, ka_k_88, ka_k_89, ka_k_90, ka_k_91, ka_k_92, ka_k_93, ka_k_94, ka_k_95, ka_k_96, ka_k_97, ka_k_98, ka_k_99, ka_k_100, q0, q1, q2, q3, q4, q5, q6, sp_155, a0, a1, a2, a3, a4, a5, a6, m18, sp_122 h8 w1, ka_c_0, ka_c_1, ka_c_2, ka_c_3, ka_c_4, ka_c_5, ka_c_6, ka_c_7, ka_c_8, ka_c_9, ka_c_10, ka_c_11, ka_c_12, ka_c_13, ka_c_14, ka_c_15, ka_c_16, ka_c_17, ka_c_18, ka_c_19, ka_c_20, ka_c_28, ka_c_40, ka_c_50, ka_c_87, wm_88, k1, sp_183w (show n < 40 by omega)]
theorem wb_5_grind_2 {n : Nat} {r : Nat → Int32} {x : Int32} (hW : Q 18 = W) (h8 : 0 ≤ W.toInt ∧ W.toInt < 8) (k0 : X 88 (13 + 9 * W.toNatClampNeg + 0) = 5) (k1 : X 88 (13 + 9 * W.toNatClampNeg + 1) = M) (hn : n + 1 ≤ 40) : ka_ex sc (d + 2) 187 0 [.ref 87, .int 2, .int x] [] (ka_mem (wm X Q n r)) = some (some (.int (x - M)), ka_mem (wm X Q (n + 1) (kn_up r (n) 12))) := by
  have q0 : ((2 : Int32) = 0) = False := by decide
  have q1 : ((2 : Int32) = 1) = False := by decide
  have q2 : ((2 : Int32) = 2) = True := by decide
  have q3 : ((2 : Int32) = 3) = False := by decide
  have q4 : ((2 : Int32) = 4) = False := by decide
  have q5 : ((2 : Int32) = 5) = False := by decide
  have q6 : ((2 : Int32) = 6) = False := by decide
  have w1 : 0 ≤ (1 : Int32).toInt ∧ (1 : Int32).toInt < 9 := by decide
  have m18 : ∀ n r, wm X Q n r 87 18 = W := fun n r => (wm_87 (by decide)).trans hW
  have a0 : (if (0 : Int32) < 4 then (0 : Int32) else 0 - 3) = 0 := by decide
  have a1 : (if (1 : Int32) < 4 then (0 : Int32) else 1 - 3) = 0 := by decide
  have a2 : (if (2 : Int32) < 4 then (0 : Int32) else 2 - 3) = 0 := by decide
  have a3 : (if (3 : Int32) < 4 then (0 : Int32) else 3 - 3) = 0 := by decide
  have a4 : (if (4 : Int32) < 4 then (0 : Int32) else 4 - 3) = 1 := by decide
  have a5 : (if (5 : Int32) < 4 then (0 : Int32) else 5 - 3) = 2 := by decide
  have a6 : (if (6 : Int32) < 4 then (0 : Int32) else 6 - 3) = 3 := by decide
  simp only [x187_0, x187_1, x187_36, x187_37, x187_39, x187_42, x187_43, x187_44, x187_45, x187_48, x187_49, x187_52, x187_53, x187_54, x187_55, x187_57, x187_60, x187_61, x187_62, x187_65, x187_66, x187_69, x187_70, x187_71, x187_72, x187_74, x187_77, x187_78, x187_80, x187_83, x187_84, x187_87, x187_88, x187_91, x187_92, x187_93, x187_94, x187_95, x187_98, x187_99, x187_102, ka_kk_i, ka_kk_n, ka_cl_i, ka_cl_r, ka_cl_n, or_true, true_or, ka_ne2, ka_ne4, ka_ne5, ka_ne10, not_false_eq_true, not_true_eq_false, if_true, if_false, ka_k_0, ka_k_1, ka_k_2, ka_k_3, ka_k_4, ka_k_5, ka_k_6, ka_k_7, ka_k_8, ka_k_9, ka_k_10, ka_k_11, ka_k_12, ka_k_13, ka_k_14, ka_k_15, ka_k_16, ka_k_17, ka_k_18, ka_k_19, ka_k_20, ka_k_21, ka_k_22, ka_k_23, ka_k_24, ka_k_25, ka_k_26, ka_k_27, ka_k_28, ka_k_29, ka_k_30, ka_k_31, ka_k_32, ka_k_33, ka_k_34, ka_k_35, ka_k_36, ka_k_37, ka_k_38, ka_k_39, ka_k_40, ka_k_41, ka_k_42, ka_k_43, ka_k_44, ka_k_45, ka_k_46, ka_k_47, ka_k_48, ka_k_49, ka_k_50, ka_k_51, ka_k_52, ka_k_53, ka_k_54, ka_k_55, ka_k_56, ka_k_57, ka_k_58, ka_k_59, ka_k_60, ka_k_61, ka_k_62, ka_k_63, ka_k_64, ka_k_65, ka_k_66, ka_k_67, ka_k_68, ka_k_69, ka_k_70, ka_k_71, ka_k_72, ka_k_73, ka_k_74, ka_k_75, ka_k_76, ka_k_77, ka_k_78, ka_k_79, ka_k_80, ka_k_81, ka_k_82, ka_k_83, ka_k_84, ka_k_85, ka_k_86, ka_k_87, ka_k_88, ka_k_89, ka_k_90, ka_k_91, ka_k_92, ka_k_93, ka_k_94, ka_k_95, ka_k_96, ka_k_97, ka_k_98, ka_k_99, ka_k_100, q0, q1, q2, q3, q4, q5, q6, sp_155, a0, a1, a2, a3, a4, a5, a6, m18, sp_122 h8 w1, ka_c_0, ka_c_1, ka_c_2, ka_c_3, ka_c_4, ka_c_5, ka_c_6, ka_c_7, ka_c_8, ka_c_9, ka_c_10, ka_c_11, ka_c_12, ka_c_13, ka_c_14, ka_c_15, ka_c_16, ka_c_17, ka_c_18, ka_c_19, ka_c_20, ka_c_28, ka_c_40, ka_c_50, ka_c_87, wm_88, k1, @wb_5_grind_0 sc (d) X Q M W (n) r x hW h8 k0 k1 (by omega)]
theorem wb_5_grind_5 {n : Nat} {r : Nat → Int32} {x : Int32} (hW : Q 18 = W) (h8 : 0 ≤ W.toInt ∧ W.toInt < 8) (k0 : X 88 (13 + 9 * W.toNatClampNeg + 0) = 5) (k1 : X 88 (13 + 9 * W.toNatClampNeg + 1) = M) (hn : n + 1 ≤ 40) : ka_ex sc (d + 3) 187 0 [.ref 87, .int 5, .int x] [] (ka_mem (wm X Q n r)) = some (some (.int (x - M)), ka_mem (wm X Q (n + 1) (kn_up r (n) 12))) := by
  have q0 : ((5 : Int32) = 0) = False := by decide
  have q1 : ((5 : Int32) = 1) = False := by decide
  have q2 : ((5 : Int32) = 2) = False := by decide
  have q3 : ((5 : Int32) = 3) = False := by decide
  have q4 : ((5 : Int32) = 4) = False := by decide
  have q5 : ((5 : Int32) = 5) = True := by decide
  have q6 : ((5 : Int32) = 6) = False := by decide
  have w1 : 0 ≤ (1 : Int32).toInt ∧ (1 : Int32).toInt < 9 := by decide
  have m18 : ∀ n r, wm X Q n r 87 18 = W := fun n r => (wm_87 (by decide)).trans hW
  have a0 : (if (0 : Int32) < 4 then (0 : Int32) else 0 - 3) = 0 := by decide
  have a1 : (if (1 : Int32) < 4 then (0 : Int32) else 1 - 3) = 0 := by decide
  have a2 : (if (2 : Int32) < 4 then (0 : Int32) else 2 - 3) = 0 := by decide
  have a3 : (if (3 : Int32) < 4 then (0 : Int32) else 3 - 3) = 0 := by decide
  have a4 : (if (4 : Int32) < 4 then (0 : Int32) else 4 - 3) = 1 := by decide
  have a5 : (if (5 : Int32) < 4 then (0 : Int32) else 5 - 3) = 2 := by decide
  have a6 : (if (6 : Int32) < 4 then (0 : Int32) else 6 - 3) = 3 := by decide
  simp only [x187_0, x187_1, x187_36, x187_37, x187_39, x187_42, x187_43, x187_44, x187_45, x187_48, x187_49, x187_52, x187_53, x187_54, x187_55, x187_57, x187_60, x187_61, x187_62, x187_65, x187_66, x187_69, x187_70, x187_71, x187_72, x187_74, x187_77, x187_78, x187_80, x187_83, x187_84, x187_87, x187_88, x187_91, x187_92, x187_93, x187_94, x187_95, x187_98, x187_99, x187_102, ka_kk_i, ka_kk_n, ka_cl_i, ka_cl_r, ka_cl_n, or_true, true_or, ka_ne2, ka_ne4, ka_ne5, ka_ne10, not_false_eq_true, not_true_eq_false, if_true, if_false, ka_k_0, ka_k_1, ka_k_2, ka_k_3, ka_k_4, ka_k_5, ka_k_6, ka_k_7, ka_k_8, ka_k_9, ka_k_10, ka_k_11, ka_k_12, ka_k_13, ka_k_14, ka_k_15, ka_k_16, ka_k_17, ka_k_18, ka_k_19, ka_k_20, ka_k_21, ka_k_22, ka_k_23, ka_k_24, ka_k_25, ka_k_26, ka_k_27, ka_k_28, ka_k_29, ka_k_30, ka_k_31, ka_k_32, ka_k_33, ka_k_34, ka_k_35, ka_k_36, ka_k_37, ka_k_38, ka_k_39, ka_k_40, ka_k_41, ka_k_42, ka_k_43, ka_k_44, ka_k_45, ka_k_46, ka_k_47, ka_k_48, ka_k_49, ka_k_50, ka_k_51, ka_k_52, ka_k_53, ka_k_54, ka_k_55, ka_k_56, ka_k_57, ka_k_58, ka_k_59, ka_k_60, ka_k_61, ka_k_62, ka_k_63, ka_k_64, ka_k_65, ka_k_66, ka_k_67, ka_k_68, ka_k_69, ka_k_70, ka_k_71, ka_k_72, ka_k_73, ka_k_74, ka_k_75, ka_k_76, ka_k_77, ka_k_78, ka_k_79, ka_k_80, ka_k_81, ka_k_82, ka_k_83, ka_k_84, ka_k_85, ka_k_86, ka_k_87, ka_k_88, ka_k_89, ka_k_90, ka_k_91, ka_k_92, ka_k_93, ka_k_94, ka_k_95, ka_k_96, ka_k_97, ka_k_98, ka_k_99, ka_k_100, q0, q1, q2, q3, q4, q5, q6, sp_155, a0, a1, a2, a3, a4, a5, a6, m18, sp_122 h8 w1, ka_c_0, ka_c_1, ka_c_2, ka_c_3, ka_c_4, ka_c_5, ka_c_6, ka_c_7, ka_c_8, ka_c_9, ka_c_10, ka_c_11, ka_c_12, ka_c_13, ka_c_14, ka_c_15, ka_c_16, ka_c_17, ka_c_18, ka_c_19, ka_c_20, ka_c_28, ka_c_40, ka_c_50, ka_c_87, wm_88, k1, @wb_5_grind_2 sc (d) X Q M W (n) r x hW h8 k0 k1 (by omega)]
theorem wb_5_tells_0 {n : Nat} {r : Nat → Int32} {x : Int32} (hW : Q 18 = W) (h8 : 0 ≤ W.toInt ∧ W.toInt < 8) (k0 : X 88 (13 + 9 * W.toNatClampNeg + 0) = 5) (k1 : X 88 (13 + 9 * W.toNatClampNeg + 1) = M) (hn : n + 5 ≤ 40) : ka_ex sc (d + 7) 188 0 [.ref 87, .int 0, .int x, ka_nv] [] (ka_mem (wm X Q n r)) = some (some (.int ((((x + W) * 3) * 2) ^^^ (x - M))), ka_mem (wm X Q (n + 1 + 1 + 1 + 1 + 1) (kn_up (kn_up (kn_up (kn_up (kn_up r (n) 13) (n + 1) 11) (n + 1 + 1) 30) (n + 1 + 1 + 1) 10) (n + 1 + 1 + 1 + 1) 12))) := by
  have q0 : ((0 : Int32) = 0) = True := by decide
  have q1 : ((0 : Int32) = 1) = False := by decide
  have q2 : ((0 : Int32) = 2) = False := by decide
  have q3 : ((0 : Int32) = 3) = False := by decide
  have q4 : ((0 : Int32) = 4) = False := by decide
  have q5 : ((0 : Int32) = 5) = False := by decide
  have q6 : ((0 : Int32) = 6) = False := by decide
  have w1 : 0 ≤ (1 : Int32).toInt ∧ (1 : Int32).toInt < 9 := by decide
  have m18 : ∀ n r, wm X Q n r 87 18 = W := fun n r => (wm_87 (by decide)).trans hW
  have a0 : (if (0 : Int32) < 4 then (0 : Int32) else 0 - 3) = 0 := by decide
  have a1 : (if (1 : Int32) < 4 then (0 : Int32) else 1 - 3) = 0 := by decide
  have a2 : (if (2 : Int32) < 4 then (0 : Int32) else 2 - 3) = 0 := by decide
  have a3 : (if (3 : Int32) < 4 then (0 : Int32) else 3 - 3) = 0 := by decide
  have a4 : (if (4 : Int32) < 4 then (0 : Int32) else 4 - 3) = 1 := by decide
  have a5 : (if (5 : Int32) < 4 then (0 : Int32) else 5 - 3) = 2 := by decide
  have a6 : (if (6 : Int32) < 4 then (0 : Int32) else 6 - 3) = 3 := by decide
  simp only [x188_0, x188_1, x188_36, x188_37, x188_39, x188_42, x188_43, x188_44, x188_47, x188_48, x188_51, x188_52, x188_53, x188_54, x188_55, x188_58, x188_59, x188_62, x188_63, x188_64, x188_65, x188_67, x188_70, x188_71, x188_72, x188_75, x188_76, x188_79, x188_80, x188_81, x188_82, x188_83, x188_86, x188_87, x188_90, x188_91, x188_92, x188_93, x188_95, x188_98, x188_99, x188_100, x188_103, x188_104, x188_107, x188_108, x188_109, x188_110, x188_112, x188_115, x188_116, x188_119, x188_120, x188_121, x188_122, x188_123, x188_126, x188_127, x188_130, ka_kk_i, ka_kk_n, ka_cl_i, ka_cl_r, ka_cl_n, or_true, true_or, ka_ne2, ka_ne4, ka_ne5, ka_ne10, not_false_eq_true, not_true_eq_false, if_true, if_false, ka_k_0, ka_k_1, ka_k_2, ka_k_3, ka_k_4, ka_k_5, ka_k_6, ka_k_7, ka_k_8, ka_k_9, ka_k_10, ka_k_11, ka_k_12, ka_k_13, ka_k_14, ka_k_15, ka_k_16, ka_k_17, ka_k_18, ka_k_19, ka_k_20, ka_k_21, ka_k_22, ka_k_23, ka_k_24, ka_k_25, ka_k_26, ka_k_27, ka_k_28, ka_k_29, ka_k_30, ka_k_31, ka_k_32, ka_k_33, ka_k_34, ka_k_35, ka_k_36, ka_k_37, ka_k_38, ka_k_39, ka_k_40, ka_k_41, ka_k_42, ka_k_43, ka_k_44, ka_k_45, ka_k_46, ka_k_47, ka_k_48, ka_k_49, ka_k_50, ka_k_51, ka_k_52, ka_k_53, ka_k_54, ka_k_55, ka_k_56, ka_k_57, ka_k_58, ka_k_59, ka_k_60, ka_k_61, ka_k_62, ka_k_63, ka_k_64, ka_k_65, ka_k_66, ka_k_67, ka_k_68, ka_k_69, ka_k_70, ka_k_71, ka_k_72, ka_k_73, ka_k_74, ka_k_75, ka_k_76, ka_k_77, ka_k_78, ka_k_79, ka_k_80, ka_k_81, ka_k_82, ka_k_83, ka_k_84, ka_k_85, ka_k_86, ka_k_87, ka_k_88, ka_k_89, ka_k_90, ka_k_91, ka_k_92, ka_k_93, ka_k_94, ka_k_95, ka_k_96, ka_k_97, ka_k_98, ka_k_99, ka_k_100, q0, q1, q2, q3, q4, q5, q6, sp_155, a0, a1, a2, a3, a4, a5, a6, m18, sp_122 h8 w1, ka_c_0, ka_c_1, ka_c_2, ka_c_3, ka_c_4, ka_c_5, ka_c_6, ka_c_7, ka_c_8, ka_c_9, ka_c_10, ka_c_11, ka_c_12, ka_c_13, ka_c_14, ka_c_15, ka_c_16, ka_c_17, ka_c_18, ka_c_19, ka_c_20, ka_c_28, ka_c_40, ka_c_50, ka_c_87, wm_88, k1, sp_183w (show n < 40 by omega), sp_184w hW h8 k0, @wb_5_rings_5 sc (d) X Q M W (n + 1) (kn_up r (n) 13) x hW h8 k0 k1 (by omega), @wb_5_grind_5 sc (d + 3) X Q M W (n + 1 + 1 + 1 + 1) (kn_up (kn_up (kn_up (kn_up r (n) 13) (n + 1) 11) (n + 1 + 1) 30) (n + 1 + 1 + 1) 10) x hW h8 k0 k1 (by omega)]
theorem wb_5_tells_2 {n : Nat} {r : Nat → Int32} {x : Int32} (hW : Q 18 = W) (h8 : 0 ≤ W.toInt ∧ W.toInt < 8) (k0 : X 88 (13 + 9 * W.toNatClampNeg + 0) = 5) (k1 : X 88 (13 + 9 * W.toNatClampNeg + 1) = M) (hn : n + 5 ≤ 40) : ka_ex sc (d + 8) 188 0 [.ref 87, .int 2, .int x, ka_nv] [] (ka_mem (wm X Q n r)) = some (some (.int ((((x + W) * 3) * 2) ^^^ (x - M))), ka_mem (wm X Q (n + 1 + 1 + 1 + 1 + 1) (kn_up (kn_up (kn_up (kn_up (kn_up r (n) 13) (n + 1) 11) (n + 1 + 1) 30) (n + 1 + 1 + 1) 10) (n + 1 + 1 + 1 + 1) 12))) := by
  have q0 : ((2 : Int32) = 0) = False := by decide
  have q1 : ((2 : Int32) = 1) = False := by decide
  have q2 : ((2 : Int32) = 2) = True := by decide
  have q3 : ((2 : Int32) = 3) = False := by decide
  have q4 : ((2 : Int32) = 4) = False := by decide
  have q5 : ((2 : Int32) = 5) = False := by decide
  have q6 : ((2 : Int32) = 6) = False := by decide
  have w1 : 0 ≤ (1 : Int32).toInt ∧ (1 : Int32).toInt < 9 := by decide
  have m18 : ∀ n r, wm X Q n r 87 18 = W := fun n r => (wm_87 (by decide)).trans hW
  have a0 : (if (0 : Int32) < 4 then (0 : Int32) else 0 - 3) = 0 := by decide
  have a1 : (if (1 : Int32) < 4 then (0 : Int32) else 1 - 3) = 0 := by decide
  have a2 : (if (2 : Int32) < 4 then (0 : Int32) else 2 - 3) = 0 := by decide
  have a3 : (if (3 : Int32) < 4 then (0 : Int32) else 3 - 3) = 0 := by decide
  have a4 : (if (4 : Int32) < 4 then (0 : Int32) else 4 - 3) = 1 := by decide
  have a5 : (if (5 : Int32) < 4 then (0 : Int32) else 5 - 3) = 2 := by decide
  have a6 : (if (6 : Int32) < 4 then (0 : Int32) else 6 - 3) = 3 := by decide
  simp only [x188_0, x188_1, x188_36, x188_37, x188_39, x188_42, x188_43, x188_44, x188_47, x188_48, x188_51, x188_52, x188_53, x188_54, x188_55, x188_58, x188_59, x188_62, x188_63, x188_64, x188_65, x188_67, x188_70, x188_71, x188_72, x188_75, x188_76, x188_79, x188_80, x188_81, x188_82, x188_83, x188_86, x188_87, x188_90, x188_91, x188_92, x188_93, x188_95, x188_98, x188_99, x188_100, x188_103, x188_104, x188_107, x188_108, x188_109, x188_110, x188_112, x188_115, x188_116, x188_119, x188_120, x188_121, x188_122, x188_123, x188_126, x188_127, x188_130, ka_kk_i, ka_kk_n, ka_cl_i, ka_cl_r, ka_cl_n, or_true, true_or, ka_ne2, ka_ne4, ka_ne5, ka_ne10, not_false_eq_true, not_true_eq_false, if_true, if_false, ka_k_0, ka_k_1, ka_k_2, ka_k_3, ka_k_4, ka_k_5, ka_k_6, ka_k_7, ka_k_8, ka_k_9, ka_k_10, ka_k_11, ka_k_12, ka_k_13, ka_k_14, ka_k_15, ka_k_16, ka_k_17, ka_k_18, ka_k_19, ka_k_20, ka_k_21, ka_k_22, ka_k_23, ka_k_24, ka_k_25, ka_k_26, ka_k_27, ka_k_28, ka_k_29, ka_k_30, ka_k_31, ka_k_32, ka_k_33, ka_k_34, ka_k_35, ka_k_36, ka_k_37, ka_k_38, ka_k_39, ka_k_40, ka_k_41, ka_k_42, ka_k_43, ka_k_44, ka_k_45, ka_k_46, ka_k_47, ka_k_48, ka_k_49, ka_k_50, ka_k_51, ka_k_52, ka_k_53, ka_k_54, ka_k_55, ka_k_56, ka_k_57, ka_k_58, ka_k_59, ka_k_60, ka_k_61, ka_k_62, ka_k_63, ka_k_64, ka_k_65, ka_k_66, ka_k_67, ka_k_68, ka_k_69, ka_k_70, ka_k_71, ka_k_72, ka_k_73, ka_k_74, ka_k_75, ka_k_76, ka_k_77, ka_k_78, ka_k_79, ka_k_80, ka_k_81, ka_k_82, ka_k_83, ka_k_84, ka_k_85, ka_k_86, ka_k_87, ka_k_88, ka_k_89, ka_k_90, ka_k_91, ka_k_92, ka_k_93, ka_k_94, ka_k_95, ka_k_96, ka_k_97, ka_k_98, ka_k_99, ka_k_100, q0, q1, q2, q3, q4, q5, q6, sp_155, a0, a1, a2, a3, a4, a5, a6, m18, sp_122 h8 w1, ka_c_0, ka_c_1, ka_c_2, ka_c_3, ka_c_4, ka_c_5, ka_c_6, ka_c_7, ka_c_8, ka_c_9, ka_c_10, ka_c_11, ka_c_12, ka_c_13, ka_c_14, ka_c_15, ka_c_16, ka_c_17, ka_c_18, ka_c_19, ka_c_20, ka_c_28, ka_c_40, ka_c_50, ka_c_87, wm_88, k1, @wb_5_tells_0 sc (d) X Q M W (n) r x hW h8 k0 k1 (by omega)]
theorem wb_5_tells_5 {n : Nat} {r : Nat → Int32} {x : Int32} (hW : Q 18 = W) (h8 : 0 ≤ W.toInt ∧ W.toInt < 8) (k0 : X 88 (13 + 9 * W.toNatClampNeg + 0) = 5) (k1 : X 88 (13 + 9 * W.toNatClampNeg + 1) = M) (hn : n + 8 ≤ 40) : ka_ex sc (d + 9) 188 0 [.ref 87, .int 5, .int x, ka_nv] [] (ka_mem (wm X Q n r)) = some (some (.int (((((x + W) * 3) * 2) ^^^ (x - M)) - ((2 + W) * 3))), ka_mem (wm X Q (n + 1 + 1 + 1 + 1 + 1 + 1 + 1 + 1) (kn_up (kn_up (kn_up (kn_up (kn_up (kn_up (kn_up (kn_up r (n) 60) (n + 1) 13) (n + 1 + 1) 11) (n + 1 + 1 + 1) 30) (n + 1 + 1 + 1 + 1) 10) (n + 1 + 1 + 1 + 1 + 1) 12) (n + 1 + 1 + 1 + 1 + 1 + 1) 30) (n + 1 + 1 + 1 + 1 + 1 + 1 + 1) 10))) := by
  have q0 : ((5 : Int32) = 0) = False := by decide
  have q1 : ((5 : Int32) = 1) = False := by decide
  have q2 : ((5 : Int32) = 2) = False := by decide
  have q3 : ((5 : Int32) = 3) = False := by decide
  have q4 : ((5 : Int32) = 4) = False := by decide
  have q5 : ((5 : Int32) = 5) = True := by decide
  have q6 : ((5 : Int32) = 6) = False := by decide
  have w1 : 0 ≤ (1 : Int32).toInt ∧ (1 : Int32).toInt < 9 := by decide
  have m18 : ∀ n r, wm X Q n r 87 18 = W := fun n r => (wm_87 (by decide)).trans hW
  have a0 : (if (0 : Int32) < 4 then (0 : Int32) else 0 - 3) = 0 := by decide
  have a1 : (if (1 : Int32) < 4 then (0 : Int32) else 1 - 3) = 0 := by decide
  have a2 : (if (2 : Int32) < 4 then (0 : Int32) else 2 - 3) = 0 := by decide
  have a3 : (if (3 : Int32) < 4 then (0 : Int32) else 3 - 3) = 0 := by decide
  have a4 : (if (4 : Int32) < 4 then (0 : Int32) else 4 - 3) = 1 := by decide
  have a5 : (if (5 : Int32) < 4 then (0 : Int32) else 5 - 3) = 2 := by decide
  have a6 : (if (6 : Int32) < 4 then (0 : Int32) else 6 - 3) = 3 := by decide
  simp only [x188_0, x188_1, x188_36, x188_37, x188_39, x188_42, x188_43, x188_44, x188_47, x188_48, x188_51, x188_52, x188_53, x188_54, x188_55, x188_58, x188_59, x188_62, x188_63, x188_64, x188_65, x188_67, x188_70, x188_71, x188_72, x188_75, x188_76, x188_79, x188_80, x188_81, x188_82, x188_83, x188_86, x188_87, x188_90, x188_91, x188_92, x188_93, x188_95, x188_98, x188_99, x188_100, x188_103, x188_104, x188_107, x188_108, x188_109, x188_110, x188_112, x188_115, x188_116, x188_119, x188_120, x188_121, x188_122, x188_123, x188_126, x188_127, x188_130, ka_kk_i, ka_kk_n, ka_cl_i, ka_cl_r, ka_cl_n, or_true, true_or, ka_ne2, ka_ne4, ka_ne5, ka_ne10, not_false_eq_true, not_true_eq_false, if_true, if_false, ka_k_0, ka_k_1, ka_k_2, ka_k_3, ka_k_4, ka_k_5, ka_k_6, ka_k_7, ka_k_8, ka_k_9, ka_k_10, ka_k_11, ka_k_12, ka_k_13, ka_k_14, ka_k_15, ka_k_16, ka_k_17, ka_k_18, ka_k_19, ka_k_20, ka_k_21, ka_k_22, ka_k_23, ka_k_24, ka_k_25, ka_k_26, ka_k_27, ka_k_28, ka_k_29, ka_k_30, ka_k_31, ka_k_32, ka_k_33, ka_k_34, ka_k_35, ka_k_36, ka_k_37, ka_k_38, ka_k_39, ka_k_40, ka_k_41, ka_k_42, ka_k_43, ka_k_44, ka_k_45, ka_k_46, ka_k_47, ka_k_48, ka_k_49, ka_k_50, ka_k_51, ka_k_52, ka_k_53, ka_k_54, ka_k_55, ka_k_56, ka_k_57, ka_k_58, ka_k_59, ka_k_60, ka_k_61, ka_k_62, ka_k_63, ka_k_64, ka_k_65, ka_k_66, ka_k_67, ka_k_68, ka_k_69, ka_k_70, ka_k_71, ka_k_72, ka_k_73, ka_k_74, ka_k_75, ka_k_76, ka_k_77, ka_k_78, ka_k_79, ka_k_80, ka_k_81, ka_k_82, ka_k_83, ka_k_84, ka_k_85, ka_k_86, ka_k_87, ka_k_88, ka_k_89, ka_k_90, ka_k_91, ka_k_92, ka_k_93, ka_k_94, ka_k_95, ka_k_96, ka_k_97, ka_k_98, ka_k_99, ka_k_100, q0, q1, q2, q3, q4, q5, q6, sp_155, a0, a1, a2, a3, a4, a5, a6, m18, sp_122 h8 w1, ka_c_0, ka_c_1, ka_c_2, ka_c_3, ka_c_4, ka_c_5, ka_c_6, ka_c_7, ka_c_8, ka_c_9, ka_c_10, ka_c_11, ka_c_12, ka_c_13, ka_c_14, ka_c_15, ka_c_16, ka_c_17, ka_c_18, ka_c_19, ka_c_20, ka_c_28, ka_c_40, ka_c_50, ka_c_87, wm_88, k1, sp_183w (show n < 40 by omega), sp_184w hW h8 k0, @wb_5_tells_2 sc (d) X Q M W (n + 1) (kn_up r (n) 60) x hW h8 k0 k1 (by omega), @wb_5_cut_5 sc (d + 5) X Q M W (n + 1 + 1 + 1 + 1 + 1 + 1) (kn_up (kn_up (kn_up (kn_up (kn_up (kn_up r (n) 60) (n + 1) 13) (n + 1 + 1) 11) (n + 1 + 1 + 1) 30) (n + 1 + 1 + 1 + 1) 10) (n + 1 + 1 + 1 + 1 + 1) 12) 2 hW h8 k0 k1 (by omega)]
theorem wb_6_cut_0 {n : Nat} {r : Nat → Int32} {x : Int32} (hW : Q 18 = W) (h8 : 0 ≤ W.toInt ∧ W.toInt < 8) (k0 : X 88 (13 + 9 * W.toNatClampNeg + 0) = 6) (k1 : X 88 (13 + 9 * W.toNatClampNeg + 1) = M) (hn : n + 1 ≤ 40) : ka_ex sc (d + 1) 185 0 [.ref 87, .int 0, .int x] [] (ka_mem (wm X Q n r)) = some (some (.int (x + W)), ka_mem (wm X Q (n + 1) (kn_up r (n) 10))) := by
  have q0 : ((0 : Int32) = 0) = True := by decide
  have q1 : ((0 : Int32) = 1) = False := by decide
  have q2 : ((0 : Int32) = 2) = False := by decide
  have q3 : ((0 : Int32) = 3) = False := by decide
  have q4 : ((0 : Int32) = 4) = False := by decide
  have q5 : ((0 : Int32) = 5) = False := by decide
  have q6 : ((0 : Int32) = 6) = False := by decide
  have w1 : 0 ≤ (1 : Int32).toInt ∧ (1 : Int32).toInt < 9 := by decide
  have m18 : ∀ n r, wm X Q n r 87 18 = W := fun n r => (wm_87 (by decide)).trans hW
  have a0 : (if (0 : Int32) < 4 then (0 : Int32) else 0 - 3) = 0 := by decide
  have a1 : (if (1 : Int32) < 4 then (0 : Int32) else 1 - 3) = 0 := by decide
  have a2 : (if (2 : Int32) < 4 then (0 : Int32) else 2 - 3) = 0 := by decide
  have a3 : (if (3 : Int32) < 4 then (0 : Int32) else 3 - 3) = 0 := by decide
  have a4 : (if (4 : Int32) < 4 then (0 : Int32) else 4 - 3) = 1 := by decide
  have a5 : (if (5 : Int32) < 4 then (0 : Int32) else 5 - 3) = 2 := by decide
  have a6 : (if (6 : Int32) < 4 then (0 : Int32) else 6 - 3) = 3 := by decide
  simp only [x185_0, x185_1, x185_28, x185_29, x185_31, x185_34, x185_35, x185_36, x185_39, x185_40, x185_41, x185_42, x185_44, x185_47, x185_48, x185_49, x185_52, x185_53, x185_56, x185_57, x185_58, x185_59, x185_60, x185_61, x185_64, x185_65, x185_68, ka_kk_i, ka_kk_n, ka_cl_i, ka_cl_r, ka_cl_n, or_true, true_or, ka_ne2, ka_ne4, ka_ne5, ka_ne10, not_false_eq_true, not_true_eq_false, if_true, if_false, ka_k_0, ka_k_1, ka_k_2, ka_k_3, ka_k_4, ka_k_5, ka_k_6, ka_k_7, ka_k_8, ka_k_9, ka_k_10, ka_k_11, ka_k_12, ka_k_13, ka_k_14, ka_k_15, ka_k_16, ka_k_17, ka_k_18, ka_k_19, ka_k_20, ka_k_21, ka_k_22, ka_k_23, ka_k_24, ka_k_25, ka_k_26, ka_k_27, ka_k_28, ka_k_29, ka_k_30, ka_k_31, ka_k_32, ka_k_33, ka_k_34, ka_k_35, ka_k_36, ka_k_37, ka_k_38, ka_k_39, ka_k_40, ka_k_41, ka_k_42, ka_k_43, ka_k_44, ka_k_45, ka_k_46, ka_k_47, ka_k_48, ka_k_49, ka_k_50, ka_k_51, ka_k_52, ka_k_53, ka_k_54, ka_k_55, ka_k_56, ka_k_57, ka_k_58, ka_k_59, ka_k_60, ka_k_61, ka_k_62, ka_k_63, ka_k_64, ka_k_65, ka_k_66, ka_k_67, ka_k_68, ka_k_69, ka_k_70, ka_k_71, ka_k_72, ka_k_73, ka_k_74, ka_k_75, ka_k_76, ka_k_77, ka_k_78, ka_k_79, ka_k_80, ka_k_81, ka_k_82, ka_k_83, ka_k_84, ka_k_85, ka_k_86, ka_k_87, ka_k_88, ka_k_89, ka_k_90, ka_k_91, ka_k_92, ka_k_93, ka_k_94, ka_k_95, ka_k_96, ka_k_97, ka_k_98, ka_k_99, ka_k_100, q0, q1, q2, q3, q4, q5, q6, sp_155, a0, a1, a2, a3, a4, a5, a6, m18, sp_122 h8 w1, ka_c_0, ka_c_1, ka_c_2, ka_c_3, ka_c_4, ka_c_5, ka_c_6, ka_c_7, ka_c_8, ka_c_9, ka_c_10, ka_c_11, ka_c_12, ka_c_13, ka_c_14, ka_c_15, ka_c_16, ka_c_17, ka_c_18, ka_c_19, ka_c_20, ka_c_28, ka_c_40, ka_c_50, ka_c_87, wm_88, k1, sp_183w (show n < 40 by omega)]
theorem wb_6_cut_3 {n : Nat} {r : Nat → Int32} {x : Int32} (hW : Q 18 = W) (h8 : 0 ≤ W.toInt ∧ W.toInt < 8) (k0 : X 88 (13 + 9 * W.toNatClampNeg + 0) = 6) (k1 : X 88 (13 + 9 * W.toNatClampNeg + 1) = M) (hn : n + 1 ≤ 40) : ka_ex sc (d + 2) 185 0 [.ref 87, .int 3, .int x] [] (ka_mem (wm X Q n r)) = some (some (.int (x + W)), ka_mem (wm X Q (n + 1) (kn_up r (n) 10))) := by
  have q0 : ((3 : Int32) = 0) = False := by decide
  have q1 : ((3 : Int32) = 1) = False := by decide
  have q2 : ((3 : Int32) = 2) = False := by decide
  have q3 : ((3 : Int32) = 3) = True := by decide
  have q4 : ((3 : Int32) = 4) = False := by decide
  have q5 : ((3 : Int32) = 5) = False := by decide
  have q6 : ((3 : Int32) = 6) = False := by decide
  have w1 : 0 ≤ (1 : Int32).toInt ∧ (1 : Int32).toInt < 9 := by decide
  have m18 : ∀ n r, wm X Q n r 87 18 = W := fun n r => (wm_87 (by decide)).trans hW
  have a0 : (if (0 : Int32) < 4 then (0 : Int32) else 0 - 3) = 0 := by decide
  have a1 : (if (1 : Int32) < 4 then (0 : Int32) else 1 - 3) = 0 := by decide
  have a2 : (if (2 : Int32) < 4 then (0 : Int32) else 2 - 3) = 0 := by decide
  have a3 : (if (3 : Int32) < 4 then (0 : Int32) else 3 - 3) = 0 := by decide
  have a4 : (if (4 : Int32) < 4 then (0 : Int32) else 4 - 3) = 1 := by decide
  have a5 : (if (5 : Int32) < 4 then (0 : Int32) else 5 - 3) = 2 := by decide
  have a6 : (if (6 : Int32) < 4 then (0 : Int32) else 6 - 3) = 3 := by decide
  simp only [x185_0, x185_1, x185_28, x185_29, x185_31, x185_34, x185_35, x185_36, x185_39, x185_40, x185_41, x185_42, x185_44, x185_47, x185_48, x185_49, x185_52, x185_53, x185_56, x185_57, x185_58, x185_59, x185_60, x185_61, x185_64, x185_65, x185_68, ka_kk_i, ka_kk_n, ka_cl_i, ka_cl_r, ka_cl_n, or_true, true_or, ka_ne2, ka_ne4, ka_ne5, ka_ne10, not_false_eq_true, not_true_eq_false, if_true, if_false, ka_k_0, ka_k_1, ka_k_2, ka_k_3, ka_k_4, ka_k_5, ka_k_6, ka_k_7, ka_k_8, ka_k_9, ka_k_10, ka_k_11, ka_k_12, ka_k_13, ka_k_14, ka_k_15, ka_k_16, ka_k_17, ka_k_18, ka_k_19, ka_k_20, ka_k_21, ka_k_22, ka_k_23, ka_k_24, ka_k_25, ka_k_26, ka_k_27, ka_k_28, ka_k_29, ka_k_30, ka_k_31, ka_k_32, ka_k_33, ka_k_34, ka_k_35, ka_k_36, ka_k_37, ka_k_38, ka_k_39, ka_k_40, ka_k_41, ka_k_42, ka_k_43, ka_k_44, ka_k_45, ka_k_46, ka_k_47, ka_k_48, ka_k_49, ka_k_50, ka_k_51, ka_k_52, ka_k_53, ka_k_54, ka_k_55, ka_k_56, ka_k_57, ka_k_58, ka_k_59, ka_k_60, ka_k_61, ka_k_62, ka_k_63, ka_k_64, ka_k_65, ka_k_66, ka_k_67, ka_k_68, ka_k_69, ka_k_70, ka_k_71, ka_k_72, ka_k_73, ka_k_74, ka_k_75, ka_k_76, ka_k_77, ka_k_78, ka_k_79, ka_k_80, ka_k_81, ka_k_82, ka_k_83, ka_k_84, ka_k_85, ka_k_86, ka_k_87, ka_k_88, ka_k_89, ka_k_90, ka_k_91, ka_k_92, ka_k_93, ka_k_94, ka_k_95, ka_k_96, ka_k_97, ka_k_98, ka_k_99, ka_k_100, q0, q1, q2, q3, q4, q5, q6, sp_155, a0, a1, a2, a3, a4, a5, a6, m18, sp_122 h8 w1, ka_c_0, ka_c_1, ka_c_2, ka_c_3, ka_c_4, ka_c_5, ka_c_6, ka_c_7, ka_c_8, ka_c_9, ka_c_10, ka_c_11, ka_c_12, ka_c_13, ka_c_14, ka_c_15, ka_c_16, ka_c_17, ka_c_18, ka_c_19, ka_c_20, ka_c_28, ka_c_40, ka_c_50, ka_c_87, wm_88, k1, @wb_6_cut_0 sc (d) X Q M W (n) r x hW h8 k0 k1 (by omega)]
theorem wb_6_cut_6 {n : Nat} {r : Nat → Int32} {x : Int32} (hW : Q 18 = W) (h8 : 0 ≤ W.toInt ∧ W.toInt < 8) (k0 : X 88 (13 + 9 * W.toNatClampNeg + 0) = 6) (k1 : X 88 (13 + 9 * W.toNatClampNeg + 1) = M) (hn : n + 1 ≤ 40) : ka_ex sc (d + 3) 185 0 [.ref 87, .int 6, .int x] [] (ka_mem (wm X Q n r)) = some (some (.int (x + W)), ka_mem (wm X Q (n + 1) (kn_up r (n) 10))) := by
  have q0 : ((6 : Int32) = 0) = False := by decide
  have q1 : ((6 : Int32) = 1) = False := by decide
  have q2 : ((6 : Int32) = 2) = False := by decide
  have q3 : ((6 : Int32) = 3) = False := by decide
  have q4 : ((6 : Int32) = 4) = False := by decide
  have q5 : ((6 : Int32) = 5) = False := by decide
  have q6 : ((6 : Int32) = 6) = True := by decide
  have w1 : 0 ≤ (1 : Int32).toInt ∧ (1 : Int32).toInt < 9 := by decide
  have m18 : ∀ n r, wm X Q n r 87 18 = W := fun n r => (wm_87 (by decide)).trans hW
  have a0 : (if (0 : Int32) < 4 then (0 : Int32) else 0 - 3) = 0 := by decide
  have a1 : (if (1 : Int32) < 4 then (0 : Int32) else 1 - 3) = 0 := by decide
  have a2 : (if (2 : Int32) < 4 then (0 : Int32) else 2 - 3) = 0 := by decide
  have a3 : (if (3 : Int32) < 4 then (0 : Int32) else 3 - 3) = 0 := by decide
  have a4 : (if (4 : Int32) < 4 then (0 : Int32) else 4 - 3) = 1 := by decide
  have a5 : (if (5 : Int32) < 4 then (0 : Int32) else 5 - 3) = 2 := by decide
  have a6 : (if (6 : Int32) < 4 then (0 : Int32) else 6 - 3) = 3 := by decide
  simp only [x185_0, x185_1, x185_28, x185_29, x185_31, x185_34, x185_35, x185_36, x185_39, x185_40, x185_41, x185_42, x185_44, x185_47, x185_48, x185_49, x185_52, x185_53, x185_56, x185_57, x185_58, x185_59, x185_60, x185_61, x185_64, x185_65, x185_68, ka_kk_i, ka_kk_n, ka_cl_i, ka_cl_r, ka_cl_n, or_true, true_or, ka_ne2, ka_ne4, ka_ne5, ka_ne10, not_false_eq_true, not_true_eq_false, if_true, if_false, ka_k_0, ka_k_1, ka_k_2, ka_k_3, ka_k_4, ka_k_5, ka_k_6, ka_k_7, ka_k_8, ka_k_9, ka_k_10, ka_k_11, ka_k_12, ka_k_13, ka_k_14, ka_k_15, ka_k_16, ka_k_17, ka_k_18, ka_k_19, ka_k_20, ka_k_21, ka_k_22, ka_k_23, ka_k_24, ka_k_25, ka_k_26, ka_k_27, ka_k_28, ka_k_29, ka_k_30, ka_k_31, ka_k_32, ka_k_33, ka_k_34, ka_k_35, ka_k_36, ka_k_37, ka_k_38, ka_k_39, ka_k_40, ka_k_41, ka_k_42, ka_k_43, ka_k_44, ka_k_45, ka_k_46, ka_k_47, ka_k_48, ka_k_49, ka_k_50, ka_k_51, ka_k_52, ka_k_53, ka_k_54, ka_k_55, ka_k_56, ka_k_57, ka_k_58, ka_k_59, ka_k_60, ka_k_61, ka_k_62, ka_k_63, ka_k_64, ka_k_65, ka_k_66, ka_k_67, ka_k_68, ka_k_69, ka_k_70, ka_k_71, ka_k_72, ka_k_73, ka_k_74, ka_k_75, ka_k_76, ka_k_77, ka_k_78, ka_k_79, ka_k_80, ka_k_81, ka_k_82, ka_k_83, ka_k_84, ka_k_85, ka_k_86, ka_k_87, ka_k_88, ka_k_89, ka_k_90, ka_k_91, ka_k_92, ka_k_93, ka_k_94, ka_k_95, ka_k_96, ka_k_97, ka_k_98, ka_k_99, ka_k_100, q0, q1, q2, q3, q4, q5, q6, sp_155, a0, a1, a2, a3, a4, a5, a6, m18, sp_122 h8 w1, ka_c_0, ka_c_1, ka_c_2, ka_c_3, ka_c_4, ka_c_5, ka_c_6, ka_c_7, ka_c_8, ka_c_9, ka_c_10, ka_c_11, ka_c_12, ka_c_13, ka_c_14, ka_c_15, ka_c_16, ka_c_17, ka_c_18, ka_c_19, ka_c_20, ka_c_28, ka_c_40, ka_c_50, ka_c_87, wm_88, k1, @wb_6_cut_3 sc (d) X Q M W (n) r x hW h8 k0 k1 (by omega)]
theorem wb_6_rings_0 {n : Nat} {r : Nat → Int32} {x : Int32} (hW : Q 18 = W) (h8 : 0 ≤ W.toInt ∧ W.toInt < 8) (k0 : X 88 (13 + 9 * W.toNatClampNeg + 0) = 6) (k1 : X 88 (13 + 9 * W.toNatClampNeg + 1) = M) (hn : n + 2 ≤ 40) : ka_ex sc (d + 4) 186 0 [.ref 87, .int 0, .int x, ka_nv] [] (ka_mem (wm X Q n r)) = some (some (.int ((x + W) * 2)), ka_mem (wm X Q (n + 1 + 1) (kn_up (kn_up r (n) 11) (n + 1) 10))) := by
  have q0 : ((0 : Int32) = 0) = True := by decide
  have q1 : ((0 : Int32) = 1) = False := by decide
  have q2 : ((0 : Int32) = 2) = False := by decide
  have q3 : ((0 : Int32) = 3) = False := by decide
  have q4 : ((0 : Int32) = 4) = False := by decide
  have q5 : ((0 : Int32) = 5) = False := by decide
  have q6 : ((0 : Int32) = 6) = False := by decide
  have w1 : 0 ≤ (1 : Int32).toInt ∧ (1 : Int32).toInt < 9 := by decide
  have m18 : ∀ n r, wm X Q n r 87 18 = W := fun n r => (wm_87 (by decide)).trans hW
  have a0 : (if (0 : Int32) < 4 then (0 : Int32) else 0 - 3) = 0 := by decide
  have a1 : (if (1 : Int32) < 4 then (0 : Int32) else 1 - 3) = 0 := by decide
  have a2 : (if (2 : Int32) < 4 then (0 : Int32) else 2 - 3) = 0 := by decide
  have a3 : (if (3 : Int32) < 4 then (0 : Int32) else 3 - 3) = 0 := by decide
  have a4 : (if (4 : Int32) < 4 then (0 : Int32) else 4 - 3) = 1 := by decide
  have a5 : (if (5 : Int32) < 4 then (0 : Int32) else 5 - 3) = 2 := by decide
  have a6 : (if (6 : Int32) < 4 then (0 : Int32) else 6 - 3) = 3 := by decide
  simp only [x186_0, x186_1, x186_36, x186_37, x186_39, x186_42, x186_43, x186_44, x186_47, x186_48, x186_51, x186_52, x186_53, x186_54, x186_55, x186_57, x186_60, x186_61, x186_62, x186_65, x186_66, x186_69, x186_70, x186_71, x186_72, x186_73, x186_76, x186_77, x186_80, x186_81, x186_82, x186_83, x186_85, x186_88, x186_89, x186_90, x186_93, x186_94, x186_95, x186_96, x186_99, x186_100, x186_101, x186_102, x186_105, x186_106, x186_109, ka_kk_i, ka_kk_n, ka_cl_i, ka_cl_r, ka_cl_n, or_true, true_or, ka_ne2, ka_ne4, ka_ne5, ka_ne10, not_false_eq_true, not_true_eq_false, if_true, if_false, ka_k_0, ka_k_1, ka_k_2, ka_k_3, ka_k_4, ka_k_5, ka_k_6, ka_k_7, ka_k_8, ka_k_9, ka_k_10, ka_k_11, ka_k_12, ka_k_13, ka_k_14, ka_k_15, ka_k_16, ka_k_17, ka_k_18, ka_k_19, ka_k_20, ka_k_21, ka_k_22, ka_k_23, ka_k_24, ka_k_25, ka_k_26, ka_k_27, ka_k_28, ka_k_29, ka_k_30, ka_k_31, ka_k_32, ka_k_33, ka_k_34, ka_k_35, ka_k_36, ka_k_37, ka_k_38, ka_k_39, ka_k_40, ka_k_41, ka_k_42, ka_k_43, ka_k_44, ka_k_45, ka_k_46, ka_k_47, ka_k_48, ka_k_49, ka_k_50, ka_k_51, ka_k_52, ka_k_53, ka_k_54, ka_k_55, ka_k_56, ka_k_57, ka_k_58, ka_k_59, ka_k_60, ka_k_61, ka_k_62, ka_k_63, ka_k_64, ka_k_65, ka_k_66, ka_k_67, ka_k_68, ka_k_69, ka_k_70, ka_k_71, ka_k_72, ka_k_73, ka_k_74, ka_k_75, ka_k_76, ka_k_77, ka_k_78, ka_k_79, ka_k_80, ka_k_81, ka_k_82, ka_k_83, ka_k_84, ka_k_85, ka_k_86, ka_k_87, ka_k_88, ka_k_89, ka_k_90, ka_k_91, ka_k_92, ka_k_93, ka_k_94, ka_k_95, ka_k_96, ka_k_97, ka_k_98, ka_k_99, ka_k_100, q0, q1, q2, q3, q4, q5, q6, sp_155, a0, a1, a2, a3, a4, a5, a6, m18, sp_122 h8 w1, ka_c_0, ka_c_1, ka_c_2, ka_c_3, ka_c_4, ka_c_5, ka_c_6, ka_c_7, ka_c_8, ka_c_9, ka_c_10, ka_c_11, ka_c_12, ka_c_13, ka_c_14, ka_c_15, ka_c_16, ka_c_17, ka_c_18, ka_c_19, ka_c_20, ka_c_28, ka_c_40, ka_c_50, ka_c_87, wm_88, k1, sp_183w (show n < 40 by omega), sp_184w hW h8 k0, @wb_6_cut_6 sc (d) X Q M W (n + 1) (kn_up r (n) 11) x hW h8 k0 k1 (by omega)]
theorem wb_6_rings_3 {n : Nat} {r : Nat → Int32} {x : Int32} (hW : Q 18 = W) (h8 : 0 ≤ W.toInt ∧ W.toInt < 8) (k0 : X 88 (13 + 9 * W.toNatClampNeg + 0) = 6) (k1 : X 88 (13 + 9 * W.toNatClampNeg + 1) = M) (hn : n + 2 ≤ 40) : ka_ex sc (d + 5) 186 0 [.ref 87, .int 3, .int x, ka_nv] [] (ka_mem (wm X Q n r)) = some (some (.int ((x + W) * 2)), ka_mem (wm X Q (n + 1 + 1) (kn_up (kn_up r (n) 11) (n + 1) 10))) := by
  have q0 : ((3 : Int32) = 0) = False := by decide
  have q1 : ((3 : Int32) = 1) = False := by decide
  have q2 : ((3 : Int32) = 2) = False := by decide
  have q3 : ((3 : Int32) = 3) = True := by decide
  have q4 : ((3 : Int32) = 4) = False := by decide
  have q5 : ((3 : Int32) = 5) = False := by decide
  have q6 : ((3 : Int32) = 6) = False := by decide
  have w1 : 0 ≤ (1 : Int32).toInt ∧ (1 : Int32).toInt < 9 := by decide
  have m18 : ∀ n r, wm X Q n r 87 18 = W := fun n r => (wm_87 (by decide)).trans hW
  have a0 : (if (0 : Int32) < 4 then (0 : Int32) else 0 - 3) = 0 := by decide
  have a1 : (if (1 : Int32) < 4 then (0 : Int32) else 1 - 3) = 0 := by decide
  have a2 : (if (2 : Int32) < 4 then (0 : Int32) else 2 - 3) = 0 := by decide
  have a3 : (if (3 : Int32) < 4 then (0 : Int32) else 3 - 3) = 0 := by decide
  have a4 : (if (4 : Int32) < 4 then (0 : Int32) else 4 - 3) = 1 := by decide
  have a5 : (if (5 : Int32) < 4 then (0 : Int32) else 5 - 3) = 2 := by decide
  have a6 : (if (6 : Int32) < 4 then (0 : Int32) else 6 - 3) = 3 := by decide
  simp only [x186_0, x186_1, x186_36, x186_37, x186_39, x186_42, x186_43, x186_44, x186_47, x186_48, x186_51, x186_52, x186_53, x186_54, x186_55, x186_57, x186_60, x186_61, x186_62, x186_65, x186_66, x186_69, x186_70, x186_71, x186_72, x186_73, x186_76, x186_77, x186_80, x186_81, x186_82, x186_83, x186_85, x186_88, x186_89, x186_90, x186_93, x186_94, x186_95, x186_96, x186_99, x186_100, x186_101, x186_102, x186_105, x186_106, x186_109, ka_kk_i, ka_kk_n, ka_cl_i, ka_cl_r, ka_cl_n, or_true, true_or, ka_ne2, ka_ne4, ka_ne5, ka_ne10, not_false_eq_true, not_true_eq_false, if_true, if_false, ka_k_0, ka_k_1, ka_k_2, ka_k_3, ka_k_4, ka_k_5, ka_k_6, ka_k_7, ka_k_8, ka_k_9, ka_k_10, ka_k_11, ka_k_12, ka_k_13, ka_k_14, ka_k_15, ka_k_16, ka_k_17, ka_k_18, ka_k_19, ka_k_20, ka_k_21, ka_k_22, ka_k_23, ka_k_24, ka_k_25, ka_k_26, ka_k_27, ka_k_28, ka_k_29, ka_k_30, ka_k_31, ka_k_32, ka_k_33, ka_k_34, ka_k_35, ka_k_36, ka_k_37, ka_k_38, ka_k_39, ka_k_40, ka_k_41, ka_k_42, ka_k_43, ka_k_44, ka_k_45, ka_k_46, ka_k_47, ka_k_48, ka_k_49, ka_k_50, ka_k_51, ka_k_52, ka_k_53, ka_k_54, ka_k_55, ka_k_56, ka_k_57, ka_k_58, ka_k_59, ka_k_60, ka_k_61, ka_k_62, ka_k_63, ka_k_64, ka_k_65, ka_k_66, ka_k_67, ka_k_68, ka_k_69, ka_k_70, ka_k_71, ka_k_72, ka_k_73, ka_k_74, ka_k_75, ka_k_76, ka_k_77, ka_k_78, ka_k_79, ka_k_80, ka_k_81, ka_k_82, ka_k_83, ka_k_84, ka_k_85, ka_k_86, ka_k_87, ka_k_88, ka_k_89, ka_k_90, ka_k_91, ka_k_92, ka_k_93, ka_k_94, ka_k_95, ka_k_96, ka_k_97, ka_k_98, ka_k_99, ka_k_100, q0, q1, q2, q3, q4, q5, q6, sp_155, a0, a1, a2, a3, a4, a5, a6, m18, sp_122 h8 w1, ka_c_0, ka_c_1, ka_c_2, ka_c_3, ka_c_4, ka_c_5, ka_c_6, ka_c_7, ka_c_8, ka_c_9, ka_c_10, ka_c_11, ka_c_12, ka_c_13, ka_c_14, ka_c_15, ka_c_16, ka_c_17, ka_c_18, ka_c_19, ka_c_20, ka_c_28, ka_c_40, ka_c_50, ka_c_87, wm_88, k1, @wb_6_rings_0 sc (d) X Q M W (n) r x hW h8 k0 k1 (by omega)]
theorem wb_6_rings_6 {n : Nat} {r : Nat → Int32} {x : Int32} (hW : Q 18 = W) (h8 : 0 ≤ W.toInt ∧ W.toInt < 8) (k0 : X 88 (13 + 9 * W.toNatClampNeg + 0) = 6) (k1 : X 88 (13 + 9 * W.toNatClampNeg + 1) = M) (hn : n + 2 ≤ 40) : ka_ex sc (d + 6) 186 0 [.ref 87, .int 6, .int x, ka_nv] [] (ka_mem (wm X Q n r)) = some (some (.int ((x + W) * 2)), ka_mem (wm X Q (n + 1 + 1) (kn_up (kn_up r (n) 11) (n + 1) 10))) := by
  have q0 : ((6 : Int32) = 0) = False := by decide
  have q1 : ((6 : Int32) = 1) = False := by decide
  have q2 : ((6 : Int32) = 2) = False := by decide
  have q3 : ((6 : Int32) = 3) = False := by decide
  have q4 : ((6 : Int32) = 4) = False := by decide
  have q5 : ((6 : Int32) = 5) = False := by decide
  have q6 : ((6 : Int32) = 6) = True := by decide
  have w1 : 0 ≤ (1 : Int32).toInt ∧ (1 : Int32).toInt < 9 := by decide
  have m18 : ∀ n r, wm X Q n r 87 18 = W := fun n r => (wm_87 (by decide)).trans hW
  have a0 : (if (0 : Int32) < 4 then (0 : Int32) else 0 - 3) = 0 := by decide
  have a1 : (if (1 : Int32) < 4 then (0 : Int32) else 1 - 3) = 0 := by decide
  have a2 : (if (2 : Int32) < 4 then (0 : Int32) else 2 - 3) = 0 := by decide
  have a3 : (if (3 : Int32) < 4 then (0 : Int32) else 3 - 3) = 0 := by decide
  have a4 : (if (4 : Int32) < 4 then (0 : Int32) else 4 - 3) = 1 := by decide
  have a5 : (if (5 : Int32) < 4 then (0 : Int32) else 5 - 3) = 2 := by decide
  have a6 : (if (6 : Int32) < 4 then (0 : Int32) else 6 - 3) = 3 := by decide
  simp only [x186_0, x186_1, x186_36, x186_37, x186_39, x186_42, x186_43, x186_44, x186_47, x186_48, x186_51, x186_52, x186_53, x186_54, x186_55, x186_57, x186_60, x186_61, x186_62, x186_65, x186_66, x186_69, x186_70, x186_71, x186_72, x186_73, x186_76, x186_77, x186_80, x186_81, x186_82, x186_83, x186_85, x186_88, x186_89, x186_90, x186_93, x186_94, x186_95, x186_96, x186_99, x186_100, x186_101, x186_102, x186_105, x186_106, x186_109, ka_kk_i, ka_kk_n, ka_cl_i, ka_cl_r, ka_cl_n, or_true, true_or, ka_ne2, ka_ne4, ka_ne5, ka_ne10, not_false_eq_true, not_true_eq_false, if_true, if_false, ka_k_0, ka_k_1, ka_k_2, ka_k_3, ka_k_4, ka_k_5, ka_k_6, ka_k_7, ka_k_8, ka_k_9, ka_k_10, ka_k_11, ka_k_12, ka_k_13, ka_k_14, ka_k_15, ka_k_16, ka_k_17, ka_k_18, ka_k_19, ka_k_20, ka_k_21, ka_k_22, ka_k_23, ka_k_24, ka_k_25, ka_k_26, ka_k_27, ka_k_28, ka_k_29, ka_k_30, ka_k_31, ka_k_32, ka_k_33, ka_k_34, ka_k_35, ka_k_36, ka_k_37, ka_k_38, ka_k_39, ka_k_40, ka_k_41, ka_k_42, ka_k_43, ka_k_44, ka_k_45, ka_k_46, ka_k_47, ka_k_48, ka_k_49, ka_k_50, ka_k_51, ka_k_52, ka_k_53, ka_k_54, ka_k_55, ka_k_56, ka_k_57, ka_k_58, ka_k_59, ka_k_60, ka_k_61, ka_k_62, ka_k_63, ka_k_64, ka_k_65, ka_k_66, ka_k_67, ka_k_68, ka_k_69, ka_k_70, ka_k_71, ka_k_72, ka_k_73, ka_k_74, ka_k_75, ka_k_76, ka_k_77, ka_k_78, ka_k_79, ka_k_80, ka_k_81, ka_k_82, ka_k_83, ka_k_84, ka_k_85, ka_k_86, ka_k_87, ka_k_88, ka_k_89, ka_k_90, ka_k_91, ka_k_92, ka_k_93, ka_k_94, ka_k_95, ka_k_96, ka_k_97, ka_k_98, ka_k_99, ka_k_100, q0, q1, q2, q3, q4, q5, q6, sp_155, a0, a1, a2, a3, a4, a5, a6, m18, sp_122 h8 w1, ka_c_0, ka_c_1, ka_c_2, ka_c_3, ka_c_4, ka_c_5, ka_c_6, ka_c_7, ka_c_8, ka_c_9, ka_c_10, ka_c_11, ka_c_12, ka_c_13, ka_c_14, ka_c_15, ka_c_16, ka_c_17, ka_c_18, ka_c_19, ka_c_20, ka_c_28, ka_c_40, ka_c_50, ka_c_87, wm_88, k1, @wb_6_rings_3 sc (d) X Q M W (n) r x hW h8 k0 k1 (by omega)]
theorem wb_6_grind_0 {n : Nat} {r : Nat → Int32} {x : Int32} (hW : Q 18 = W) (h8 : 0 ≤ W.toInt ∧ W.toInt < 8) (k0 : X 88 (13 + 9 * W.toNatClampNeg + 0) = 6) (k1 : X 88 (13 + 9 * W.toNatClampNeg + 1) = M) (hn : n + 1 ≤ 40) : ka_ex sc (d + 1) 187 0 [.ref 87, .int 0, .int x] [] (ka_mem (wm X Q n r)) = some (some (.int (x - M)), ka_mem (wm X Q (n + 1) (kn_up r (n) 12))) := by
  have q0 : ((0 : Int32) = 0) = True := by decide
  have q1 : ((0 : Int32) = 1) = False := by decide
  have q2 : ((0 : Int32) = 2) = False := by decide
  have q3 : ((0 : Int32) = 3) = False := by decide
  have q4 : ((0 : Int32) = 4) = False := by decide
  have q5 : ((0 : Int32) = 5) = False := by decide
  have q6 : ((0 : Int32) = 6) = False := by decide
  have w1 : 0 ≤ (1 : Int32).toInt ∧ (1 : Int32).toInt < 9 := by decide
  have m18 : ∀ n r, wm X Q n r 87 18 = W := fun n r => (wm_87 (by decide)).trans hW
  have a0 : (if (0 : Int32) < 4 then (0 : Int32) else 0 - 3) = 0 := by decide
  have a1 : (if (1 : Int32) < 4 then (0 : Int32) else 1 - 3) = 0 := by decide
  have a2 : (if (2 : Int32) < 4 then (0 : Int32) else 2 - 3) = 0 := by decide
  have a3 : (if (3 : Int32) < 4 then (0 : Int32) else 3 - 3) = 0 := by decide
  have a4 : (if (4 : Int32) < 4 then (0 : Int32) else 4 - 3) = 1 := by decide
  have a5 : (if (5 : Int32) < 4 then (0 : Int32) else 5 - 3) = 2 := by decide
  have a6 : (if (6 : Int32) < 4 then (0 : Int32) else 6 - 3) = 3 := by decide
  simp only [x187_0, x187_1, x187_36, x187_37, x187_39, x187_42, x187_43, x187_44, x187_45, x187_48, x187_49, x187_52, x187_53, x187_54, x187_55, x187_57, x187_60, x187_61, x187_62, x187_65, x187_66, x187_69, x187_70, x187_71, x187_72, x187_74, x187_77, x187_78, x187_80, x187_83, x187_84, x187_87, x187_88, x187_91, x187_92, x187_93, x187_94, x187_95, x187_98, x187_99, x187_102, ka_kk_i, ka_kk_n, ka_cl_i, ka_cl_r, ka_cl_n, or_true, true_or, ka_ne2, ka_ne4, ka_ne5, ka_ne10, not_false_eq_true, not_true_eq_false, if_true, if_false, ka_k_0, ka_k_1, ka_k_2, ka_k_3, ka_k_4, ka_k_5, ka_k_6, ka_k_7, ka_k_8, ka_k_9, ka_k_10, ka_k_11, ka_k_12, ka_k_13, ka_k_14, ka_k_15, ka_k_16, ka_k_17, ka_k_18, ka_k_19, ka_k_20, ka_k_21, ka_k_22, ka_k_23, ka_k_24, ka_k_25, ka_k_26, ka_k_27, ka_k_28, ka_k_29, ka_k_30, ka_k_31, ka_k_32, ka_k_33, ka_k_34, ka_k_35, ka_k_36, ka_k_37, ka_k_38, ka_k_39, ka_k_40, ka_k_41, ka_k_42, ka_k_43, ka_k_44, ka_k_45, ka_k_46, ka_k_47, ka_k_48, ka_k_49, ka_k_50, ka_k_51, ka_k_52, ka_k_53, ka_k_54, ka_k_55, ka_k_56, ka_k_57, ka_k_58, ka_k_59, ka_k_60, ka_k_61, ka_k_62, ka_k_63, ka_k_64, ka_k_65, ka_k_66, ka_k_67, ka_k_68, ka_k_69, ka_k_70, ka_k_71, ka_k_72, ka_k_73, ka_k_74, ka_k_75, ka_k_76, ka_k_77, ka_k_78, ka_k_79, ka_k_80, ka_k_81, ka_k_82, ka_k_83, ka_k_84, ka_k_85, ka_k_86, ka_k_87, ka_k_88, ka_k_89, ka_k_90, ka_k_91, ka_k_92, ka_k_93, ka_k_94, ka_k_95, ka_k_96, ka_k_97, ka_k_98, ka_k_99, ka_k_100, q0, q1, q2, q3, q4, q5, q6, sp_155, a0, a1, a2, a3, a4, a5, a6, m18, sp_122 h8 w1, ka_c_0, ka_c_1, ka_c_2, ka_c_3, ka_c_4, ka_c_5, ka_c_6, ka_c_7, ka_c_8, ka_c_9, ka_c_10, ka_c_11, ka_c_12, ka_c_13, ka_c_14, ka_c_15, ka_c_16, ka_c_17, ka_c_18, ka_c_19, ka_c_20, ka_c_28, ka_c_40, ka_c_50, ka_c_87, wm_88, k1, sp_183w (show n < 40 by omega)]
theorem wb_6_grind_3 {n : Nat} {r : Nat → Int32} {x : Int32} (hW : Q 18 = W) (h8 : 0 ≤ W.toInt ∧ W.toInt < 8) (k0 : X 88 (13 + 9 * W.toNatClampNeg + 0) = 6) (k1 : X 88 (13 + 9 * W.toNatClampNeg + 1) = M) (hn : n + 2 ≤ 40) : ka_ex sc (d + 2) 187 0 [.ref 87, .int 3, .int x] [] (ka_mem (wm X Q n r)) = some (some (.int (-(x - M))), ka_mem (wm X Q (n + 1 + 1) (kn_up (kn_up r (n) 40) (n + 1) 12))) := by
  have q0 : ((3 : Int32) = 0) = False := by decide
  have q1 : ((3 : Int32) = 1) = False := by decide
  have q2 : ((3 : Int32) = 2) = False := by decide
  have q3 : ((3 : Int32) = 3) = True := by decide
  have q4 : ((3 : Int32) = 4) = False := by decide
  have q5 : ((3 : Int32) = 5) = False := by decide
  have q6 : ((3 : Int32) = 6) = False := by decide
  have w1 : 0 ≤ (1 : Int32).toInt ∧ (1 : Int32).toInt < 9 := by decide
  have m18 : ∀ n r, wm X Q n r 87 18 = W := fun n r => (wm_87 (by decide)).trans hW
  have a0 : (if (0 : Int32) < 4 then (0 : Int32) else 0 - 3) = 0 := by decide
  have a1 : (if (1 : Int32) < 4 then (0 : Int32) else 1 - 3) = 0 := by decide
  have a2 : (if (2 : Int32) < 4 then (0 : Int32) else 2 - 3) = 0 := by decide
  have a3 : (if (3 : Int32) < 4 then (0 : Int32) else 3 - 3) = 0 := by decide
  have a4 : (if (4 : Int32) < 4 then (0 : Int32) else 4 - 3) = 1 := by decide
  have a5 : (if (5 : Int32) < 4 then (0 : Int32) else 5 - 3) = 2 := by decide
  have a6 : (if (6 : Int32) < 4 then (0 : Int32) else 6 - 3) = 3 := by decide
  simp only [x187_0, x187_1, x187_36, x187_37, x187_39, x187_42, x187_43, x187_44, x187_45, x187_48, x187_49, x187_52, x187_53, x187_54, x187_55, x187_57, x187_60, x187_61, x187_62, x187_65, x187_66, x187_69, x187_70, x187_71, x187_72, x187_74, x187_77, x187_78, x187_80, x187_83, x187_84, x187_87, x187_88, x187_91, x187_92, x187_93, x187_94, x187_95, x187_98, x187_99, x187_102, ka_kk_i, ka_kk_n, ka_cl_i, ka_cl_r, ka_cl_n, or_true, true_or, ka_ne2, ka_ne4, ka_ne5, ka_ne10, not_false_eq_true, not_true_eq_false, if_true, if_false, ka_k_0, ka_k_1, ka_k_2, ka_k_3, ka_k_4, ka_k_5, ka_k_6, ka_k_7, ka_k_8, ka_k_9, ka_k_10, ka_k_11, ka_k_12, ka_k_13, ka_k_14, ka_k_15, ka_k_16, ka_k_17, ka_k_18, ka_k_19, ka_k_20, ka_k_21, ka_k_22, ka_k_23, ka_k_24, ka_k_25, ka_k_26, ka_k_27, ka_k_28, ka_k_29, ka_k_30, ka_k_31, ka_k_32, ka_k_33, ka_k_34, ka_k_35, ka_k_36, ka_k_37, ka_k_38, ka_k_39, ka_k_40, ka_k_41, ka_k_42, ka_k_43, ka_k_44, ka_k_45, ka_k_46, ka_k_47, ka_k_48, ka_k_49, ka_k_50, ka_k_51, ka_k_52, ka_k_53, ka_k_54, ka_k_55, ka_k_56, ka_k_57, ka_k_58, ka_k_59, ka_k_60, ka_k_61, ka_k_62, ka_k_63, ka_k_64, ka_k_65, ka_k_66, ka_k_67, ka_k_68, ka_k_69, ka_k_70, ka_k_71, ka_k_72, ka_k_73, ka_k_74, ka_k_75, ka_k_76, ka_k_77, ka_k_78, ka_k_79, ka_k_80, ka_k_81, ka_k_82, ka_k_83, ka_k_84, ka_k_85, ka_k_86, ka_k_87, ka_k_88, ka_k_89, ka_k_90, ka_k_91, ka_k_92, ka_k_93, ka_k_94, ka_k_95, ka_k_96, ka_k_97, ka_k_98, ka_k_99, ka_k_100, q0, q1, q2, q3, q4, q5, q6, sp_155, a0, a1, a2, a3, a4, a5, a6, m18, sp_122 h8 w1, ka_c_0, ka_c_1, ka_c_2, ka_c_3, ka_c_4, ka_c_5, ka_c_6, ka_c_7, ka_c_8, ka_c_9, ka_c_10, ka_c_11, ka_c_12, ka_c_13, ka_c_14, ka_c_15, ka_c_16, ka_c_17, ka_c_18, ka_c_19, ka_c_20, ka_c_28, ka_c_40, ka_c_50, ka_c_87, wm_88, k1, sp_183w (show n < 40 by omega), @wb_6_grind_0 sc (d) X Q M W (n + 1) (kn_up r (n) 40) x hW h8 k0 k1 (by omega)]
theorem wb_6_grind_6 {n : Nat} {r : Nat → Int32} {x : Int32} (hW : Q 18 = W) (h8 : 0 ≤ W.toInt ∧ W.toInt < 8) (k0 : X 88 (13 + 9 * W.toNatClampNeg + 0) = 6) (k1 : X 88 (13 + 9 * W.toNatClampNeg + 1) = M) (hn : n + 3 ≤ 40) : ka_ex sc (d + 3) 187 0 [.ref 87, .int 6, .int x] [] (ka_mem (wm X Q n r)) = some (some (.int ((-(x - M)) ^^^ W)), ka_mem (wm X Q (n + 1 + 1 + 1) (kn_up (kn_up (kn_up r (n) 70) (n + 1) 40) (n + 1 + 1) 12))) := by
  have q0 : ((6 : Int32) = 0) = False := by decide
  have q1 : ((6 : Int32) = 1) = False := by decide
  have q2 : ((6 : Int32) = 2) = False := by decide
  have q3 : ((6 : Int32) = 3) = False := by decide
  have q4 : ((6 : Int32) = 4) = False := by decide
  have q5 : ((6 : Int32) = 5) = False := by decide
  have q6 : ((6 : Int32) = 6) = True := by decide
  have w1 : 0 ≤ (1 : Int32).toInt ∧ (1 : Int32).toInt < 9 := by decide
  have m18 : ∀ n r, wm X Q n r 87 18 = W := fun n r => (wm_87 (by decide)).trans hW
  have a0 : (if (0 : Int32) < 4 then (0 : Int32) else 0 - 3) = 0 := by decide
  have a1 : (if (1 : Int32) < 4 then (0 : Int32) else 1 - 3) = 0 := by decide
  have a2 : (if (2 : Int32) < 4 then (0 : Int32) else 2 - 3) = 0 := by decide
  have a3 : (if (3 : Int32) < 4 then (0 : Int32) else 3 - 3) = 0 := by decide
  have a4 : (if (4 : Int32) < 4 then (0 : Int32) else 4 - 3) = 1 := by decide
  have a5 : (if (5 : Int32) < 4 then (0 : Int32) else 5 - 3) = 2 := by decide
  have a6 : (if (6 : Int32) < 4 then (0 : Int32) else 6 - 3) = 3 := by decide
  simp only [x187_0, x187_1, x187_36, x187_37, x187_39, x187_42, x187_43, x187_44, x187_45, x187_48, x187_49, x187_52, x187_53, x187_54, x187_55, x187_57, x187_60, x187_61, x187_62, x187_65, x187_66, x187_69, x187_70, x187_71, x187_72, x187_74, x187_77, x187_78, x187_80, x187_83, x187_84, x187_87, x187_88, x187_91, x187_92, x187_93, x187_94, x187_95, x187_98, x187_99, x187_102, ka_kk_i, ka_kk_n, ka_cl_i, ka_cl_r, ka_cl_n, or_true, true_or, ka_ne2, ka_ne4, ka_ne5, ka_ne10, not_false_eq_true, not_true_eq_false, if_true, if_false, ka_k_0, ka_k_1, ka_k_2, ka_k_3, ka_k_4, ka_k_5, ka_k_6, ka_k_7, ka_k_8, ka_k_9, ka_k_10, ka_k_11, ka_k_12, ka_k_13, ka_k_14, ka_k_15, ka_k_16, ka_k_17, ka_k_18, ka_k_19, ka_k_20, ka_k_21, ka_k_22, ka_k_23, ka_k_24, ka_k_25, ka_k_26, ka_k_27, ka_k_28, ka_k_29, ka_k_30, ka_k_31, ka_k_32, ka_k_33, ka_k_34, ka_k_35, ka_k_36, ka_k_37, ka_k_38, ka_k_39, ka_k_40, ka_k_41, ka_k_42, ka_k_43, ka_k_44, ka_k_45, ka_k_46, ka_k_47, ka_k_48, ka_k_49, ka_k_50, ka_k_51, ka_k_52, ka_k_53, ka_k_54, ka_k_55, ka_k_56, ka_k_57, ka_k_58, ka_k_59, ka_k_60, ka_k_61, ka_k_62, ka_k_63, ka_k_64, ka_k_65, ka_k_66, ka_k_67, ka_k_68, ka_k_69, ka_k_70, ka_k_71, ka_k_72, ka_k_73, ka_k_74, ka_k_75, ka_k_76, ka_k_77, ka_k_78, ka_k_79, ka_k_80, ka_k_81, ka_k_82, ka_k_83, ka_k_84, ka_k_85, ka_k_86, ka_k_87, ka_k_88, ka_k_89, ka_k_90, ka_k_91, ka_k_92, ka_k_93, ka_k_94, ka_k_95, ka_k_96, ka_k_97, ka_k_98, ka_k_99, ka_k_100, q0, q1, q2, q3, q4, q5, q6, sp_155, a0, a1, a2, a3, a4, a5, a6, m18, sp_122 h8 w1, ka_c_0, ka_c_1, ka_c_2, ka_c_3, ka_c_4, ka_c_5, ka_c_6, ka_c_7, ka_c_8, ka_c_9, ka_c_10, ka_c_11, ka_c_12, ka_c_13, ka_c_14, ka_c_15, ka_c_16, ka_c_17, ka_c_18, ka_c_19, ka_c_20, ka_c_28, ka_c_40, ka_c_50, ka_c_87, wm_88, k1, sp_183w (show n < 40 by omega), @wb_6_grind_3 sc (d) X Q M W (n + 1) (kn_up r (n) 70) x hW h8 k0 k1 (by omega)]
theorem wb_6_tells_0 {n : Nat} {r : Nat → Int32} {x : Int32} (hW : Q 18 = W) (h8 : 0 ≤ W.toInt ∧ W.toInt < 8) (k0 : X 88 (13 + 9 * W.toNatClampNeg + 0) = 6) (k1 : X 88 (13 + 9 * W.toNatClampNeg + 1) = M) (hn : n + 6 ≤ 40) : ka_ex sc (d + 7) 188 0 [.ref 87, .int 0, .int x, ka_nv] [] (ka_mem (wm X Q n r)) = some (some (.int (((x + W) * 2) ^^^ ((-(x - M)) ^^^ W))), ka_mem (wm X Q (n + 1 + 1 + 1 + 1 + 1 + 1) (kn_up (kn_up (kn_up (kn_up (kn_up (kn_up r (n) 13) (n + 1) 11) (n + 1 + 1) 10) (n + 1 + 1 + 1) 70) (n + 1 + 1 + 1 + 1) 40) (n + 1 + 1 + 1 + 1 + 1) 12))) := by
  have q0 : ((0 : Int32) = 0) = True := by decide
  have q1 : ((0 : Int32) = 1) = False := by decide
  have q2 : ((0 : Int32) = 2) = False := by decide
  have q3 : ((0 : Int32) = 3) = False := by decide
  have q4 : ((0 : Int32) = 4) = False := by decide
  have q5 : ((0 : Int32) = 5) = False := by decide
  have q6 : ((0 : Int32) = 6) = False := by decide
  have w1 : 0 ≤ (1 : Int32).toInt ∧ (1 : Int32).toInt < 9 := by decide
  have m18 : ∀ n r, wm X Q n r 87 18 = W := fun n r => (wm_87 (by decide)).trans hW
  have a0 : (if (0 : Int32) < 4 then (0 : Int32) else 0 - 3) = 0 := by decide
  have a1 : (if (1 : Int32) < 4 then (0 : Int32) else 1 - 3) = 0 := by decide
  have a2 : (if (2 : Int32) < 4 then (0 : Int32) else 2 - 3) = 0 := by decide
  have a3 : (if (3 : Int32) < 4 then (0 : Int32) else 3 - 3) = 0 := by decide
  have a4 : (if (4 : Int32) < 4 then (0 : Int32) else 4 - 3) = 1 := by decide
  have a5 : (if (5 : Int32) < 4 then (0 : Int32) else 5 - 3) = 2 := by decide
  have a6 : (if (6 : Int32) < 4 then (0 : Int32) else 6 - 3) = 3 := by decide
  simp only [x188_0, x188_1, x188_36, x188_37, x188_39, x188_42, x188_43, x188_44, x188_47, x188_48, x188_51, x188_52, x188_53, x188_54, x188_55, x188_58, x188_59, x188_62, x188_63, x188_64, x188_65, x188_67, x188_70, x188_71, x188_72, x188_75, x188_76, x188_79, x188_80, x188_81, x188_82, x188_83, x188_86, x188_87, x188_90, x188_91, x188_92, x188_93, x188_95, x188_98, x188_99, x188_100, x188_103, x188_104, x188_107, x188_108, x188_109, x188_110, x188_112, x188_115, x188_116, x188_119, x188_120, x188_121, x188_122, x188_123, x188_126, x188_127, x188_130, ka_kk_i, ka_kk_n, ka_cl_i, ka_cl_r, ka_cl_n, or_true, true_or, ka_ne2, ka_ne4, ka_ne5, ka_ne10, not_false_eq_true, not_true_eq_false, if_true, if_false, ka_k_0, ka_k_1, ka_k_2, ka_k_3, ka_k_4, ka_k_5, ka_k_6, ka_k_7, ka_k_8, ka_k_9, ka_k_10, ka_k_11, ka_k_12, ka_k_13, ka_k_14, ka_k_15, ka_k_16, ka_k_17, ka_k_18, ka_k_19, ka_k_20, ka_k_21, ka_k_22, ka_k_23, ka_k_24, ka_k_25, ka_k_26, ka_k_27, ka_k_28, ka_k_29, ka_k_30, ka_k_31, ka_k_32, ka_k_33, ka_k_34, ka_k_35, ka_k_36, ka_k_37, ka_k_38, ka_k_39, ka_k_40, ka_k_41, ka_k_42, ka_k_43, ka_k_44, ka_k_45, ka_k_46, ka_k_47, ka_k_48, ka_k_49, ka_k_50, ka_k_51, ka_k_52, ka_k_53, ka_k_54, ka_k_55, ka_k_56, ka_k_57, ka_k_58, ka_k_59, ka_k_60, ka_k_61, ka_k_62, ka_k_63, ka_k_64, ka_k_65, ka_k_66, ka_k_67, ka_k_68, ka_k_69, ka_k_70, ka_k_71, ka_k_72, ka_k_73, ka_k_74, ka_k_75, ka_k_76, ka_k_77, ka_k_78, ka_k_79, ka_k_80, ka_k_81, ka_k_82, ka_k_83, ka_k_84, ka_k_85, ka_k_86, ka_k_87, ka_k_88, ka_k_89, ka_k_90, ka_k_91, ka_k_92, ka_k_93, ka_k_94, ka_k_95, ka_k_96, ka_k_97, ka_k_98, ka_k_99, ka_k_100, q0, q1, q2, q3, q4, q5, q6, sp_155, a0, a1, a2, a3, a4, a5, a6, m18, sp_122 h8 w1, ka_c_0, ka_c_1, ka_c_2, ka_c_3, ka_c_4, ka_c_5, ka_c_6, ka_c_7, ka_c_8, ka_c_9, ka_c_10, ka_c_11, ka_c_12, ka_c_13, ka_c_14, ka_c_15, ka_c_16, ka_c_17, ka_c_18, ka_c_19, ka_c_20, ka_c_28, ka_c_40, ka_c_50, ka_c_87, wm_88, k1, sp_183w (show n < 40 by omega), sp_184w hW h8 k0, @wb_6_rings_6 sc (d) X Q M W (n + 1) (kn_up r (n) 13) x hW h8 k0 k1 (by omega), @wb_6_grind_6 sc (d + 3) X Q M W (n + 1 + 1 + 1) (kn_up (kn_up (kn_up r (n) 13) (n + 1) 11) (n + 1 + 1) 10) x hW h8 k0 k1 (by omega)]
theorem wb_6_tells_3 {n : Nat} {r : Nat → Int32} {x : Int32} (hW : Q 18 = W) (h8 : 0 ≤ W.toInt ∧ W.toInt < 8) (k0 : X 88 (13 + 9 * W.toNatClampNeg + 0) = 6) (k1 : X 88 (13 + 9 * W.toNatClampNeg + 1) = M) (hn : n + 6 ≤ 40) : ka_ex sc (d + 8) 188 0 [.ref 87, .int 3, .int x, ka_nv] [] (ka_mem (wm X Q n r)) = some (some (.int (((x + W) * 2) ^^^ ((-(x - M)) ^^^ W))), ka_mem (wm X Q (n + 1 + 1 + 1 + 1 + 1 + 1) (kn_up (kn_up (kn_up (kn_up (kn_up (kn_up r (n) 13) (n + 1) 11) (n + 1 + 1) 10) (n + 1 + 1 + 1) 70) (n + 1 + 1 + 1 + 1) 40) (n + 1 + 1 + 1 + 1 + 1) 12))) := by
  have q0 : ((3 : Int32) = 0) = False := by decide
  have q1 : ((3 : Int32) = 1) = False := by decide
  have q2 : ((3 : Int32) = 2) = False := by decide
  have q3 : ((3 : Int32) = 3) = True := by decide
  have q4 : ((3 : Int32) = 4) = False := by decide
  have q5 : ((3 : Int32) = 5) = False := by decide
  have q6 : ((3 : Int32) = 6) = False := by decide
  have w1 : 0 ≤ (1 : Int32).toInt ∧ (1 : Int32).toInt < 9 := by decide
  have m18 : ∀ n r, wm X Q n r 87 18 = W := fun n r => (wm_87 (by decide)).trans hW
  have a0 : (if (0 : Int32) < 4 then (0 : Int32) else 0 - 3) = 0 := by decide
  have a1 : (if (1 : Int32) < 4 then (0 : Int32) else 1 - 3) = 0 := by decide
  have a2 : (if (2 : Int32) < 4 then (0 : Int32) else 2 - 3) = 0 := by decide
  have a3 : (if (3 : Int32) < 4 then (0 : Int32) else 3 - 3) = 0 := by decide
  have a4 : (if (4 : Int32) < 4 then (0 : Int32) else 4 - 3) = 1 := by decide
  have a5 : (if (5 : Int32) < 4 then (0 : Int32) else 5 - 3) = 2 := by decide
  have a6 : (if (6 : Int32) < 4 then (0 : Int32) else 6 - 3) = 3 := by decide
  simp only [x188_0, x188_1, x188_36, x188_37, x188_39, x188_42, x188_43, x188_44, x188_47, x188_48, x188_51, x188_52, x188_53, x188_54, x188_55, x188_58, x188_59, x188_62, x188_63, x188_64, x188_65, x188_67, x188_70, x188_71, x188_72, x188_75, x188_76, x188_79, x188_80, x188_81, x188_82, x188_83, x188_86, x188_87, x188_90, x188_91, x188_92, x188_93, x188_95, x188_98, x188_99, x188_100, x188_103, x188_104, x188_107, x188_108, x188_109, x188_110, x188_112, x188_115, x188_116, x188_119, x188_120, x188_121, x188_122, x188_123, x188_126, x188_127, x188_130, ka_kk_i, ka_kk_n, ka_cl_i, ka_cl_r, ka_cl_n, or_true, true_or, ka_ne2, ka_ne4, ka_ne5, ka_ne10, not_false_eq_true, not_true_eq_false, if_true, if_false, ka_k_0, ka_k_1, ka_k_2, ka_k_3, ka_k_4, ka_k_5, ka_k_6, ka_k_7, ka_k_8, ka_k_9, ka_k_10, ka_k_11, ka_k_12, ka_k_13, ka_k_14, ka_k_15, ka_k_16, ka_k_17, ka_k_18, ka_k_19, ka_k_20, ka_k_21, ka_k_22, ka_k_23, ka_k_24, ka_k_25, ka_k_26, ka_k_27, ka_k_28, ka_k_29, ka_k_30, ka_k_31, ka_k_32, ka_k_33, ka_k_34, ka_k_35, ka_k_36, ka_k_37, ka_k_38, ka_k_39, ka_k_40, ka_k_41, ka_k_42, ka_k_43, ka_k_44, ka_k_45, ka_k_46, ka_k_47, ka_k_48, ka_k_49, ka_k_50, ka_k_51, ka_k_52, ka_k_53, ka_k_54, ka_k_55, ka_k_56, ka_k_57, ka_k_58, ka_k_59, ka_k_60, ka_k_61, ka_k_62, ka_k_63, ka_k_64, ka_k_65, ka_k_66, ka_k_67, ka_k_68, ka_k_69, ka_k_70, ka_k_71, ka_k_72, ka_k_73, ka_k_74, ka_k_75, ka_k_76, ka_k_77, ka_k_78, ka_k_79, ka_k_80, ka_k_81, ka_k_82, ka_k_83, ka_k_84, ka_k_85, ka_k_86, ka_k_87, ka_k_88, ka_k_89, ka_k_90, ka_k_91, ka_k_92, ka_k_93, ka_k_94, ka_k_95, ka_k_96, ka_k_97, ka_k_98, ka_k_99, ka_k_100, q0, q1, q2, q3, q4, q5, q6, sp_155, a0, a1, a2, a3, a4, a5, a6, m18, sp_122 h8 w1, ka_c_0, ka_c_1, ka_c_2, ka_c_3, ka_c_4, ka_c_5, ka_c_6, ka_c_7, ka_c_8, ka_c_9, ka_c_10, ka_c_11, ka_c_12, ka_c_13, ka_c_14, ka_c_15, ka_c_16, ka_c_17, ka_c_18, ka_c_19, ka_c_20, ka_c_28, ka_c_40, ka_c_50, ka_c_87, wm_88, k1, @wb_6_tells_0 sc (d) X Q M W (n) r x hW h8 k0 k1 (by omega)]
theorem wb_6_tells_6 {n : Nat} {r : Nat → Int32} {x : Int32} (hW : Q 18 = W) (h8 : 0 ≤ W.toInt ∧ W.toInt < 8) (k0 : X 88 (13 + 9 * W.toNatClampNeg + 0) = 6) (k1 : X 88 (13 + 9 * W.toNatClampNeg + 1) = M) (hn : n + 9 ≤ 40) : ka_ex sc (d + 9) 188 0 [.ref 87, .int 6, .int x, ka_nv] [] (ka_mem (wm X Q n r)) = some (some (.int (((x + W) * 2) - (((x + W) * 2) ^^^ ((-(x - M)) ^^^ W)))), ka_mem (wm X Q (n + 1 + 1 + 1 + 1 + 1 + 1 + 1 + 1 + 1) (kn_up (kn_up (kn_up (kn_up (kn_up (kn_up (kn_up (kn_up (kn_up r (n) 71) (n + 1) 11) (n + 1 + 1) 10) (n + 1 + 1 + 1) 13) (n + 1 + 1 + 1 + 1) 11) (n + 1 + 1 + 1 + 1 + 1) 10) (n + 1 + 1 + 1 + 1 + 1 + 1) 70) (n + 1 + 1 + 1 + 1 + 1 + 1 + 1) 40) (n + 1 + 1 + 1 + 1 + 1 + 1 + 1 + 1) 12))) := by
  have q0 : ((6 : Int32) = 0) = False := by decide
  have q1 : ((6 : Int32) = 1) = False := by decide
  have q2 : ((6 : Int32) = 2) = False := by decide
  have q3 : ((6 : Int32) = 3) = False := by decide
  have q4 : ((6 : Int32) = 4) = False := by decide
  have q5 : ((6 : Int32) = 5) = False := by decide
  have q6 : ((6 : Int32) = 6) = True := by decide
  have w1 : 0 ≤ (1 : Int32).toInt ∧ (1 : Int32).toInt < 9 := by decide
  have m18 : ∀ n r, wm X Q n r 87 18 = W := fun n r => (wm_87 (by decide)).trans hW
  have a0 : (if (0 : Int32) < 4 then (0 : Int32) else 0 - 3) = 0 := by decide
  have a1 : (if (1 : Int32) < 4 then (0 : Int32) else 1 - 3) = 0 := by decide
  have a2 : (if (2 : Int32) < 4 then (0 : Int32) else 2 - 3) = 0 := by decide
  have a3 : (if (3 : Int32) < 4 then (0 : Int32) else 3 - 3) = 0 := by decide
  have a4 : (if (4 : Int32) < 4 then (0 : Int32) else 4 - 3) = 1 := by decide
  have a5 : (if (5 : Int32) < 4 then (0 : Int32) else 5 - 3) = 2 := by decide
  have a6 : (if (6 : Int32) < 4 then (0 : Int32) else 6 - 3) = 3 := by decide
  simp only [x188_0, x188_1, x188_36, x188_37, x188_39, x188_42, x188_43, x188_44, x188_47, x188_48, x188_51, x188_52, x188_53, x188_54, x188_55, x188_58, x188_59, x188_62, x188_63, x188_64, x188_65, x188_67, x188_70, x188_71, x188_72, x188_75, x188_76, x188_79, x188_80, x188_81, x188_82, x188_83, x188_86, x188_87, x188_90, x188_91, x188_92, x188_93, x188_95, x188_98, x188_99, x188_100, x188_103, x188_104, x188_107, x188_108, x188_109, x188_110, x188_112, x188_115, x188_116, x188_119, x188_120, x188_121, x188_122, x188_123, x188_126, x188_127, x188_130, ka_kk_i, ka_kk_n, ka_cl_i, ka_cl_r, ka_cl_n, or_true, true_or, ka_ne2, ka_ne4, ka_ne5, ka_ne10, not_false_eq_true, not_true_eq_false, if_true, if_false, ka_k_0, ka_k_1, ka_k_2, ka_k_3, ka_k_4, ka_k_5, ka_k_6, ka_k_7, ka_k_8, ka_k_9, ka_k_10, ka_k_11, ka_k_12, ka_k_13, ka_k_14, ka_k_15, ka_k_16, ka_k_17, ka_k_18, ka_k_19, ka_k_20, ka_k_21, ka_k_22, ka_k_23, ka_k_24, ka_k_25, ka_k_26, ka_k_27, ka_k_28, ka_k_29, ka_k_30, ka_k_31, ka_k_32, ka_k_33, ka_k_34, ka_k_35, ka_k_36, ka_k_37, ka_k_38, ka_k_39, ka_k_40, ka_k_41, ka_k_42, ka_k_43, ka_k_44, ka_k_45, ka_k_46, ka_k_47, ka_k_48, ka_k_49, ka_k_50, ka_k_51, ka_k_52, ka_k_53, ka_k_54, ka_k_55, ka_k_56, ka_k_57, ka_k_58, ka_k_59, ka_k_60, ka_k_61, ka_k_62, ka_k_63, ka_k_64, ka_k_65, ka_k_66, ka_k_67, ka_k_68, ka_k_69, ka_k_70, ka_k_71, ka_k_72, ka_k_73, ka_k_74, ka_k_75, ka_k_76, ka_k_77, ka_k_78, ka_k_79, ka_k_80, ka_k_81, ka_k_82, ka_k_83, ka_k_84, ka_k_85, ka_k_86, ka_k_87, ka_k_88, ka_k_89, ka_k_90, ka_k_91, ka_k_92, ka_k_93, ka_k_94, ka_k_95, ka_k_96, ka_k_97, ka_k_98, ka_k_99, ka_k_100, q0, q1, q2, q3, q4, q5, q6, sp_155, a0, a1, a2, a3, a4, a5, a6, m18, sp_122 h8 w1, ka_c_0, ka_c_1, ka_c_2, ka_c_3, ka_c_4, ka_c_5, ka_c_6, ka_c_7, ka_c_8, ka_c_9, ka_c_10, ka_c_11, ka_c_12, ka_c_13, ka_c_14, ka_c_15, ka_c_16, ka_c_17, ka_c_18, ka_c_19, ka_c_20, ka_c_28, ka_c_40, ka_c_50, ka_c_87, wm_88, k1, sp_183w (show n < 40 by omega), sp_184w hW h8 k0, @wb_6_rings_6 sc (d + 2) X Q M W (n + 1) (kn_up r (n) 71) x hW h8 k0 k1 (by omega), @wb_6_tells_3 sc (d) X Q M W (n + 1 + 1 + 1) (kn_up (kn_up (kn_up r (n) 71) (n + 1) 11) (n + 1 + 1) 10) x hW h8 k0 k1 (by omega)]
end
