/-! what a text gives, how a knife dulls: the model -/
def gv_up (r : Nat → Int32) (a b c f : Int32) : Nat → Int32 := kn_up (kn_up (kn_up (kn_up r 0 a) 1 b) 2 c) 3 f
def gv_nm (a b c f : Int32) : Nat → Int32 := gv_up (fun _ => 0) a b c f
theorem gv_up_nm {r : Nat → Int32} {a b c f : Int32} {j : Nat} (h : j < 4) : gv_up r a b c f j = gv_nm a b c f j := by
  rcases (by omega : j = 0 ∨ j = 1 ∨ j = 2 ∨ j = 3) with rfl | rfl | rfl | rfl <;> rfl
def gv_t (D : Nat → Int32) (u : Nat) (a b c f : Int32) : Int32 := mw_go D (gv_nm a b c f) (D (85 + u)).toInt.toNat (107 + 50 * u) 0 (fun _ => 0) 0
def gv_ok (D : Nat → Int32) (u : Nat) : Prop := 0 ≤ (D (85 + u)).toInt ∧ (D (85 + u)).toInt ≤ 50 ∧ (0 < (D (85 + u)).toInt → mw_ok D (D (85 + u)).toInt.toNat (107 + 50 * u) 0)
def gv_w (D : Nat → Int32) (a b c f : Int32) : Int32 := md_hd (if 0 < (D 85).toInt then gv_t D 0 a b c f else 0) (-9) 9
def gv_b (D : Nat → Int32) (a b c f : Int32) : Int32 := if 0 < (D 86).toInt then gv_t D 1 a b c f else a + 10 * b - 5 * c - 30
def gv_x (X : ka_X) (u : Nat) (a b c f : Int32) : ka_X := if 0 < (X 88 (85 + u)).toInt then kn_row (kn_row X 92 (gv_up (X 92) a b c f)) 94 (mw_go (X 88) (gv_up (X 92) a b c f) (X 88 (85 + u)).toInt.toNat (107 + 50 * u) 0 (X 94)) else X
theorem gv_x_off {X : ka_X} {u p : Nat} {a b c f : Int32} (h1 : ¬ p = 92) (h2 : ¬ p = 94) : gv_x X u a b c f p = X p := by
  unfold gv_x
  by_cases h : 0 < (X 88 (85 + u)).toInt
  · rw [if_pos h, kn_row_off h2, kn_row_off h1]
  · rw [if_neg h]
section
variable {sc : aS} {d : Nat} {X : ka_X}
theorem ka_850 : (85 + 0 : Int32) = 85 := by decide
theorem ka_851 : (85 + 1 : Int32) = 86 := by decide
theorem ka_1070 : (107 + 50 * 0 : Int32) = 107 := by decide
theorem ka_1071 : (107 + 50 * 1 : Int32) = 157 := by decide
theorem ka_c85 : (85 : Int32).toNatClampNeg = 85 := rfl
theorem ka_c86 : (86 : Int32).toNatClampNeg = 86 := rfl
theorem sp_141w (hok : gv_ok (X 88) 0) {a b c f : Int32} : ka_ex sc (d + 2) 141 0 [.ref 87, .int 0, .int a, .int b, .int c, .int f, ka_nv] [] (ka_mem X) = some (some (.int (gv_w (X 88) a b c f)), ka_mem (gv_x X 0 a b c f)) := by
  obtain ⟨h1, h2, h3⟩ := hok
  simp only [Nat.add_zero, Nat.mul_zero] at h1 h2 h3
  have i85 : ka_in 85 260 := ka_inI.mpr (by decide)
  have j0 : ka_in 0 4 := ka_inI.mpr (by decide)
  have j1 : ka_in 1 4 := ka_inI.mpr (by decide)
  have j2 : ka_in 2 4 := ka_inI.mpr (by decide)
  have j3 : ka_in 3 4 := ka_inI.mpr (by decide)
  by_cases hp : 0 < (X 88 85).toInt
  · have hp' : 0 < X 88 85 := by rw [ka_ilt]; simp only [ka_t_0, ka_t_1, ka_t_2, ka_t_3, ka_t_4, ka_t_5, ka_t_6, ka_t_7, ka_t_8, ka_t_9, ka_t_10, ka_t_11, ka_t_12, ka_t_13, ka_t_14, ka_t_15, ka_t_16, ka_t_17, ka_t_18, ka_t_19, ka_t_20, ka_t_25, ka_t_26, ka_t_28, ka_t_30, ka_t_31, ka_t_32, ka_t_33, ka_t_37, ka_t_38, ka_t_39, ka_t_40, ka_t_41, ka_t_42, ka_t_43, ka_t_45, ka_t_47, ka_t_48, ka_t_50, ka_t_57, ka_t_60, ka_t_61, ka_t_62, ka_t_63, ka_t_64, ka_t_65, ka_t_69, ka_t_70, ka_t_71, ka_t_80, ka_t_85, ka_t_87, ka_t_98, ka_t_99, ka_t_100, ka_t_104, ka_t_107, ka_t_109, ka_t_110, ka_t_112, ka_t_115, ka_t_116, ka_t_117, ka_t_124, ka_t_125, ka_t_160, ka_t_200, ka_t_207, ka_t_255, ka_t_260, ka_t_400, ka_t_624, ka_t_625, ka_t_999, ka_t_9999, ka_t_10000, ka_t_20000, ka_t_20033, ka_t_999999, ka_t_1000000000, ka_t_m1, ka_t_m2, ka_t_m3, ka_t_m5, ka_t_m9, ka_t_m10, ka_t_m1000000000]; omega
    have e8 : ∀ q : Nat → Int32, kn_row X 92 q 88 = X 88 := fun q => kn_row_off (by decide)
    have e4 : ∀ q : Nat → Int32, kn_row X 92 q 94 = X 94 := fun q => kn_row_off (by decide)
    have ok2 : mw_ok (kn_row X 92 (gv_up (X 92) a b c f) 88) (X 88 85).toInt.toNat 107 0 := by rw [e8]; exact h3 hp
    have hw := @sp_138 sc d (kn_row X 92 (gv_up (X 92) a b c f)) 107 (X 88 85) 107 (X 88 85).toInt.toNat rfl (by omega) (by omega) (by omega) ok2
    have hv : mw_go (X 88) (gv_up (X 92) a b c f) (X 88 85).toInt.toNat 107 0 (X 94) 0 = gv_t (X 88) 0 a b c f := mw_ind (fun j hj => gv_up_nm hj) _ _ _ _ _ (h3 hp) (fun j hj => absurd hj (by omega))
    rw [e8, e4, kn_row_at, hv] at hw
    simp only [gv_up] at hw
    simp only [x141_0, x141_1, x141_4, x141_5, x141_8, x141_9, x141_11, x141_12, x141_13, x141_14, x141_15, x141_17, x141_18, x141_19, x141_21, x141_22, x141_24, x141_25, x141_28, x141_30, x141_31, x141_32, x141_33, x141_36, x141_37, x141_40, x141_41, x141_42, x141_43, x141_44, x141_47, x141_48, x141_49, x141_50, x141_51, x141_54, x141_55, x141_57, x141_58, x141_59, x141_62, x141_63, x141_65, x141_66, x141_67, x141_69, x141_71, x141_72, x141_73, x141_74, x141_75, x141_78, x141_80, x141_81, x141_82, x141_83, x141_86, x141_88, x141_89, x141_92, x141_94, x141_96, x141_98, x141_101, x141_104, x141_106, ka_kk_i, ka_kk_n, ka_cl_i, ka_cl_r, ka_cl_n, or_true, true_or, ka_ne2, ka_ne4, ka_ne5, ka_ne10, not_false_eq_true, not_true_eq_false, if_true, if_false, ka_k_0, ka_k_1, ka_k_2, ka_k_3, ka_k_4, ka_k_5, ka_k_6, ka_k_7, ka_k_8, ka_k_9, ka_k_10, ka_k_11, ka_k_12, ka_k_13, ka_k_14, ka_k_15, ka_k_16, ka_k_17, ka_k_18, ka_k_19, ka_k_20, ka_k_21, ka_k_22, ka_k_23, ka_k_24, ka_k_25, ka_k_26, ka_k_27, ka_k_28, ka_k_29, ka_k_30, ka_k_31, ka_k_32, ka_k_33, ka_k_34, ka_k_35, ka_k_36, ka_k_37, ka_k_38, ka_k_39, ka_k_40, ka_k_41, ka_k_42, ka_k_43, ka_k_44, ka_k_45, ka_k_46, ka_k_47, ka_k_48, ka_k_49, ka_k_50, ka_k_51, ka_k_52, ka_k_53, ka_k_54, ka_k_55, ka_k_56, ka_k_57, ka_k_58, ka_k_59, ka_k_60, ka_k_61, ka_k_62, ka_k_63, ka_k_64, ka_k_65, ka_k_66, ka_k_67, ka_k_68, ka_k_69, ka_k_70, ka_k_71, ka_k_72, ka_k_73, ka_k_74, ka_k_75, ka_k_76, ka_k_77, ka_k_78, ka_k_79, ka_k_80, ka_k_81, ka_k_82, ka_k_83, ka_k_84, ka_k_85, ka_k_86, ka_k_87, ka_k_88, ka_k_89, ka_k_90, ka_k_91, ka_k_92, ka_k_93, ka_k_94, ka_k_95, ka_k_96, ka_k_97, ka_k_98, ka_k_99, ka_k_100, ka_rf_0_0, ka_rf_0_1, ka_rf_0_2, ka_rf_0_4, ka_rf_0_5, ka_rf_0_6, ka_rf_0_7, ka_rf_0_8, ka_rf_0_9, ka_rf_61_0, ka_rf_61_2, ka_rf_67_0, ka_rf_67_1, ka_rf_67_2, ka_rf_75_0, ka_rf_87_0, ka_rf_87_1, ka_rf_87_2, ka_rf_87_4, ka_rf_87_11, ka_rf_87_12, ka_rf_87_14, ka_rf_87_15, ka_rf_87_16, ka_rf_87_19, ka_rf_87_20, ka_rf_87_21, ka_rf_87_22, ka_ln_63, ka_ln_64, ka_ln_65, ka_ln_68, ka_ln_69, ka_ln_70, ka_ln_76, ka_ln_77, ka_ln_78, ka_ln_80, ka_ln_82, ka_ln_84, ka_ln_86, ka_ln_88, ka_ln_89, ka_ln_90, ka_ln_91, ka_ln_92, ka_ln_93, ka_ln_94, ka_ln_95, ka_ln_96, ka_ln_97, ka_ln_98, ka_ln_99, ka_ln_100, ka_c_0, ka_c_1, ka_c_2, ka_c_3, ka_c_4, ka_c_5, ka_c_6, ka_c_7, ka_c_8, ka_c_9, ka_c_10, ka_c_11, ka_c_12, ka_c_13, ka_c_14, ka_c_15, ka_c_16, ka_c_17, ka_c_18, ka_c_19, ka_c_20, ka_c_28, ka_c_40, ka_c_50, ka_c_87, ka_850, ka_1070, ka_c85, i85, j0, j1, j2, j3, hp', kn_put_r, kn_row_at, kn_row_row, e8, hw, sp_118', gv_w, hp, gv_x, Nat.add_zero, Nat.mul_zero, gv_up]
  · have hp' : ¬ 0 < X 88 85 := by rw [ka_ilt]; simp only [ka_t_0, ka_t_1, ka_t_2, ka_t_3, ka_t_4, ka_t_5, ka_t_6, ka_t_7, ka_t_8, ka_t_9, ka_t_10, ka_t_11, ka_t_12, ka_t_13, ka_t_14, ka_t_15, ka_t_16, ka_t_17, ka_t_18, ka_t_19, ka_t_20, ka_t_25, ka_t_26, ka_t_28, ka_t_30, ka_t_31, ka_t_32, ka_t_33, ka_t_37, ka_t_38, ka_t_39, ka_t_40, ka_t_41, ka_t_42, ka_t_43, ka_t_45, ka_t_47, ka_t_48, ka_t_50, ka_t_57, ka_t_60, ka_t_61, ka_t_62, ka_t_63, ka_t_64, ka_t_65, ka_t_69, ka_t_70, ka_t_71, ka_t_80, ka_t_85, ka_t_87, ka_t_98, ka_t_99, ka_t_100, ka_t_104, ka_t_107, ka_t_109, ka_t_110, ka_t_112, ka_t_115, ka_t_116, ka_t_117, ka_t_124, ka_t_125, ka_t_160, ka_t_200, ka_t_207, ka_t_255, ka_t_260, ka_t_400, ka_t_624, ka_t_625, ka_t_999, ka_t_9999, ka_t_10000, ka_t_20000, ka_t_20033, ka_t_999999, ka_t_1000000000, ka_t_m1, ka_t_m2, ka_t_m3, ka_t_m5, ka_t_m9, ka_t_m10, ka_t_m1000000000]; omega
    simp only [x141_0, x141_1, x141_4, x141_5, x141_8, x141_9, x141_11, x141_12, x141_13, x141_14, x141_15, x141_17, x141_18, x141_19, x141_21, x141_22, x141_24, x141_25, x141_28, x141_30, x141_31, x141_32, x141_33, x141_36, x141_37, x141_40, x141_41, x141_42, x141_43, x141_44, x141_47, x141_48, x141_49, x141_50, x141_51, x141_54, x141_55, x141_57, x141_58, x141_59, x141_62, x141_63, x141_65, x141_66, x141_67, x141_69, x141_71, x141_72, x141_73, x141_74, x141_75, x141_78, x141_80, x141_81, x141_82, x141_83, x141_86, x141_88, x141_89, x141_92, x141_94, x141_96, x141_98, x141_101, x141_104, x141_106, ka_kk_i, ka_kk_n, ka_cl_i, ka_cl_r, ka_cl_n, or_true, true_or, ka_ne2, ka_ne4, ka_ne5, ka_ne10, not_false_eq_true, not_true_eq_false, if_true, if_false, ka_k_0, ka_k_1, ka_k_2, ka_k_3, ka_k_4, ka_k_5, ka_k_6, ka_k_7, ka_k_8, ka_k_9, ka_k_10, ka_k_11, ka_k_12, ka_k_13, ka_k_14, ka_k_15, ka_k_16, ka_k_17, ka_k_18, ka_k_19, ka_k_20, ka_k_21, ka_k_22, ka_k_23, ka_k_24, ka_k_25, ka_k_26, ka_k_27, ka_k_28, ka_k_29, ka_k_30, ka_k_31, ka_k_32, ka_k_33, ka_k_34, ka_k_35, ka_k_36, ka_k_37, ka_k_38, ka_k_39, ka_k_40, ka_k_41, ka_k_42, ka_k_43, ka_k_44, ka_k_45, ka_k_46, ka_k_47, ka_k_48, ka_k_49, ka_k_50, ka_k_51, ka_k_52, ka_k_53, ka_k_54, ka_k_55, ka_k_56, ka_k_57, ka_k_58, ka_k_59, ka_k_60, ka_k_61, ka_k_62, ka_k_63, ka_k_64, ka_k_65, ka_k_66, ka_k_67, ka_k_68, ka_k_69, ka_k_70, ka_k_71, ka_k_72, ka_k_73, ka_k_74, ka_k_75, ka_k_76, ka_k_77, ka_k_78, ka_k_79, ka_k_80, ka_k_81, ka_k_82, ka_k_83, ka_k_84, ka_k_85, ka_k_86, ka_k_87, ka_k_88, ka_k_89, ka_k_90, ka_k_91, ka_k_92, ka_k_93, ka_k_94, ka_k_95, ka_k_96, ka_k_97, ka_k_98, ka_k_99, ka_k_100, ka_rf_0_0, ka_rf_0_1, ka_rf_0_2, ka_rf_0_4, ka_rf_0_5, ka_rf_0_6, ka_rf_0_7, ka_rf_0_8, ka_rf_0_9, ka_rf_61_0, ka_rf_61_2, ka_rf_67_0, ka_rf_67_1, ka_rf_67_2, ka_rf_75_0, ka_rf_87_0, ka_rf_87_1, ka_rf_87_2, ka_rf_87_4, ka_rf_87_11, ka_rf_87_12, ka_rf_87_14, ka_rf_87_15, ka_rf_87_16, ka_rf_87_19, ka_rf_87_20, ka_rf_87_21, ka_rf_87_22, ka_ln_63, ka_ln_64, ka_ln_65, ka_ln_68, ka_ln_69, ka_ln_70, ka_ln_76, ka_ln_77, ka_ln_78, ka_ln_80, ka_ln_82, ka_ln_84, ka_ln_86, ka_ln_88, ka_ln_89, ka_ln_90, ka_ln_91, ka_ln_92, ka_ln_93, ka_ln_94, ka_ln_95, ka_ln_96, ka_ln_97, ka_ln_98, ka_ln_99, ka_ln_100, ka_c_0, ka_c_1, ka_c_2, ka_c_3, ka_c_4, ka_c_5, ka_c_6, ka_c_7, ka_c_8, ka_c_9, ka_c_10, ka_c_11, ka_c_12, ka_c_13, ka_c_14, ka_c_15, ka_c_16, ka_c_17, ka_c_18, ka_c_19, ka_c_20, ka_c_28, ka_c_40, ka_c_50, ka_c_87, ka_850, ka_c85, i85, hp', sp_118', gv_w, hp, gv_x, Nat.add_zero]
theorem sp_141b (hok : gv_ok (X 88) 1) {a b c f : Int32} : ka_ex sc (d + 2) 141 0 [.ref 87, .int 1, .int a, .int b, .int c, .int f, ka_nv] [] (ka_mem X) = some (some (.int (gv_b (X 88) a b c f)), ka_mem (gv_x X 1 a b c f)) := by
  obtain ⟨h1, h2, h3⟩ := hok
  simp only [Nat.reduceAdd, Nat.mul_one] at h1 h2 h3
  have i86 : ka_in 86 260 := ka_inI.mpr (by decide)
  have j0 : ka_in 0 4 := ka_inI.mpr (by decide)
  have j1 : ka_in 1 4 := ka_inI.mpr (by decide)
  have j2 : ka_in 2 4 := ka_inI.mpr (by decide)
  have j3 : ka_in 3 4 := ka_inI.mpr (by decide)
  by_cases hp : 0 < (X 88 86).toInt
  · have hp' : 0 < X 88 86 := by rw [ka_ilt]; simp only [ka_t_0, ka_t_1, ka_t_2, ka_t_3, ka_t_4, ka_t_5, ka_t_6, ka_t_7, ka_t_8, ka_t_9, ka_t_10, ka_t_11, ka_t_12, ka_t_13, ka_t_14, ka_t_15, ka_t_16, ka_t_17, ka_t_18, ka_t_19, ka_t_20, ka_t_25, ka_t_26, ka_t_28, ka_t_30, ka_t_31, ka_t_32, ka_t_33, ka_t_37, ka_t_38, ka_t_39, ka_t_40, ka_t_41, ka_t_42, ka_t_43, ka_t_45, ka_t_47, ka_t_48, ka_t_50, ka_t_57, ka_t_60, ka_t_61, ka_t_62, ka_t_63, ka_t_64, ka_t_65, ka_t_69, ka_t_70, ka_t_71, ka_t_80, ka_t_85, ka_t_87, ka_t_98, ka_t_99, ka_t_100, ka_t_104, ka_t_107, ka_t_109, ka_t_110, ka_t_112, ka_t_115, ka_t_116, ka_t_117, ka_t_124, ka_t_125, ka_t_160, ka_t_200, ka_t_207, ka_t_255, ka_t_260, ka_t_400, ka_t_624, ka_t_625, ka_t_999, ka_t_9999, ka_t_10000, ka_t_20000, ka_t_20033, ka_t_999999, ka_t_1000000000, ka_t_m1, ka_t_m2, ka_t_m3, ka_t_m5, ka_t_m9, ka_t_m10, ka_t_m1000000000]; omega
    have e8 : ∀ q : Nat → Int32, kn_row X 92 q 88 = X 88 := fun q => kn_row_off (by decide)
    have e4 : ∀ q : Nat → Int32, kn_row X 92 q 94 = X 94 := fun q => kn_row_off (by decide)
    have ok2 : mw_ok (kn_row X 92 (gv_up (X 92) a b c f) 88) (X 88 86).toInt.toNat 157 0 := by rw [e8]; exact h3 hp
    have hw := @sp_138 sc d (kn_row X 92 (gv_up (X 92) a b c f)) 157 (X 88 86) 157 (X 88 86).toInt.toNat rfl (by omega) (by omega) (by omega) ok2
    have hv : mw_go (X 88) (gv_up (X 92) a b c f) (X 88 86).toInt.toNat 157 0 (X 94) 0 = gv_t (X 88) 1 a b c f := mw_ind (fun j hj => gv_up_nm hj) _ _ _ _ _ (h3 hp) (fun j hj => absurd hj (by omega))
    rw [e8, e4, kn_row_at, hv] at hw
    simp only [gv_up] at hw
    simp only [x141_0, x141_1, x141_4, x141_5, x141_8, x141_9, x141_11, x141_12, x141_13, x141_14, x141_15, x141_17, x141_18, x141_19, x141_21, x141_22, x141_24, x141_25, x141_28, x141_30, x141_31, x141_32, x141_33, x141_36, x141_37, x141_40, x141_41, x141_42, x141_43, x141_44, x141_47, x141_48, x141_49, x141_50, x141_51, x141_54, x141_55, x141_57, x141_58, x141_59, x141_62, x141_63, x141_65, x141_66, x141_67, x141_69, x141_71, x141_72, x141_73, x141_74, x141_75, x141_78, x141_80, x141_81, x141_82, x141_83, x141_86, x141_88, x141_89, x141_92, x141_94, x141_96, x141_98, x141_101, x141_104, x141_106, ka_kk_i, ka_kk_n, ka_cl_i, ka_cl_r, ka_cl_n, or_true, true_or, ka_ne2, ka_ne4, ka_ne5, ka_ne10, not_false_eq_true, not_true_eq_false, if_true, if_false, ka_k_0, ka_k_1, ka_k_2, ka_k_3, ka_k_4, ka_k_5, ka_k_6, ka_k_7, ka_k_8, ka_k_9, ka_k_10, ka_k_11, ka_k_12, ka_k_13, ka_k_14, ka_k_15, ka_k_16, ka_k_17, ka_k_18, ka_k_19, ka_k_20, ka_k_21, ka_k_22, ka_k_23, ka_k_24, ka_k_25, ka_k_26, ka_k_27, ka_k_28, ka_k_29, ka_k_30, ka_k_31, ka_k_32, ka_k_33, ka_k_34, ka_k_35, ka_k_36, ka_k_37, ka_k_38, ka_k_39, ka_k_40, ka_k_41, ka_k_42, ka_k_43, ka_k_44, ka_k_45, ka_k_46, ka_k_47, ka_k_48, ka_k_49, ka_k_50, ka_k_51, ka_k_52, ka_k_53, ka_k_54, ka_k_55, ka_k_56, ka_k_57, ka_k_58, ka_k_59, ka_k_60, ka_k_61, ka_k_62, ka_k_63, ka_k_64, ka_k_65, ka_k_66, ka_k_67, ka_k_68, ka_k_69, ka_k_70, ka_k_71, ka_k_72, ka_k_73, ka_k_74, ka_k_75, ka_k_76, ka_k_77, ka_k_78, ka_k_79, ka_k_80, ka_k_81, ka_k_82, ka_k_83, ka_k_84, ka_k_85, ka_k_86, ka_k_87, ka_k_88, ka_k_89, ka_k_90, ka_k_91, ka_k_92, ka_k_93, ka_k_94, ka_k_95, ka_k_96, ka_k_97, ka_k_98, ka_k_99, ka_k_100, ka_rf_0_0, ka_rf_0_1, ka_rf_0_2, ka_rf_0_4, ka_rf_0_5, ka_rf_0_6, ka_rf_0_7, ka_rf_0_8, ka_rf_0_9, ka_rf_61_0, ka_rf_61_2, ka_rf_67_0, ka_rf_67_1, ka_rf_67_2, ka_rf_75_0, ka_rf_87_0, ka_rf_87_1, ka_rf_87_2, ka_rf_87_4, ka_rf_87_11, ka_rf_87_12, ka_rf_87_14, ka_rf_87_15, ka_rf_87_16, ka_rf_87_19, ka_rf_87_20, ka_rf_87_21, ka_rf_87_22, ka_ln_63, ka_ln_64, ka_ln_65, ka_ln_68, ka_ln_69, ka_ln_70, ka_ln_76, ka_ln_77, ka_ln_78, ka_ln_80, ka_ln_82, ka_ln_84, ka_ln_86, ka_ln_88, ka_ln_89, ka_ln_90, ka_ln_91, ka_ln_92, ka_ln_93, ka_ln_94, ka_ln_95, ka_ln_96, ka_ln_97, ka_ln_98, ka_ln_99, ka_ln_100, ka_c_0, ka_c_1, ka_c_2, ka_c_3, ka_c_4, ka_c_5, ka_c_6, ka_c_7, ka_c_8, ka_c_9, ka_c_10, ka_c_11, ka_c_12, ka_c_13, ka_c_14, ka_c_15, ka_c_16, ka_c_17, ka_c_18, ka_c_19, ka_c_20, ka_c_28, ka_c_40, ka_c_50, ka_c_87, ka_851, ka_1071, ka_c86, i86, j0, j1, j2, j3, hp', ka_one0, kn_put_r, kn_row_at, kn_row_row, e8, hw, gv_b, hp, gv_x, Nat.reduceAdd, Nat.mul_one, gv_up]
  · have hp' : ¬ 0 < X 88 86 := by rw [ka_ilt]; simp only [ka_t_0, ka_t_1, ka_t_2, ka_t_3, ka_t_4, ka_t_5, ka_t_6, ka_t_7, ka_t_8, ka_t_9, ka_t_10, ka_t_11, ka_t_12, ka_t_13, ka_t_14, ka_t_15, ka_t_16, ka_t_17, ka_t_18, ka_t_19, ka_t_20, ka_t_25, ka_t_26, ka_t_28, ka_t_30, ka_t_31, ka_t_32, ka_t_33, ka_t_37, ka_t_38, ka_t_39, ka_t_40, ka_t_41, ka_t_42, ka_t_43, ka_t_45, ka_t_47, ka_t_48, ka_t_50, ka_t_57, ka_t_60, ka_t_61, ka_t_62, ka_t_63, ka_t_64, ka_t_65, ka_t_69, ka_t_70, ka_t_71, ka_t_80, ka_t_85, ka_t_87, ka_t_98, ka_t_99, ka_t_100, ka_t_104, ka_t_107, ka_t_109, ka_t_110, ka_t_112, ka_t_115, ka_t_116, ka_t_117, ka_t_124, ka_t_125, ka_t_160, ka_t_200, ka_t_207, ka_t_255, ka_t_260, ka_t_400, ka_t_624, ka_t_625, ka_t_999, ka_t_9999, ka_t_10000, ka_t_20000, ka_t_20033, ka_t_999999, ka_t_1000000000, ka_t_m1, ka_t_m2, ka_t_m3, ka_t_m5, ka_t_m9, ka_t_m10, ka_t_m1000000000]; omega
    simp only [x141_0, x141_1, x141_4, x141_5, x141_8, x141_9, x141_11, x141_12, x141_13, x141_14, x141_15, x141_17, x141_18, x141_19, x141_21, x141_22, x141_24, x141_25, x141_28, x141_30, x141_31, x141_32, x141_33, x141_36, x141_37, x141_40, x141_41, x141_42, x141_43, x141_44, x141_47, x141_48, x141_49, x141_50, x141_51, x141_54, x141_55, x141_57, x141_58, x141_59, x141_62, x141_63, x141_65, x141_66, x141_67, x141_69, x141_71, x141_72, x141_73, x141_74, x141_75, x141_78, x141_80, x141_81, x141_82, x141_83, x141_86, x141_88, x141_89, x141_92, x141_94, x141_96, x141_98, x141_101, x141_104, x141_106, ka_kk_i, ka_kk_n, ka_cl_i, ka_cl_r, ka_cl_n, or_true, true_or, ka_ne2, ka_ne4, ka_ne5, ka_ne10, not_false_eq_true, not_true_eq_false, if_true, if_false, ka_k_0, ka_k_1, ka_k_2, ka_k_3, ka_k_4, ka_k_5, ka_k_6, ka_k_7, ka_k_8, ka_k_9, ka_k_10, ka_k_11, ka_k_12, ka_k_13, ka_k_14, ka_k_15, ka_k_16, ka_k_17, ka_k_18, ka_k_19, ka_k_20, ka_k_21, ka_k_22, ka_k_23, ka_k_24, ka_k_25, ka_k_26, ka_k_27, ka_k_28, ka_k_29, ka_k_30, ka_k_31, ka_k_32, ka_k_33, ka_k_34, ka_k_35, ka_k_36, ka_k_37, ka_k_38, ka_k_39, ka_k_40, ka_k_41, ka_k_42, ka_k_43, ka_k_44, ka_k_45, ka_k_46, ka_k_47, ka_k_48, ka_k_49, ka_k_50, ka_k_51, ka_k_52, ka_k_53, ka_k_54, ka_k_55, ka_k_56, ka_k_57, ka_k_58, ka_k_59, ka_k_60, ka_k_61, ka_k_62, ka_k_63, ka_k_64, ka_k_65, ka_k_66, ka_k_67, ka_k_68, ka_k_69, ka_k_70, ka_k_71, ka_k_72, ka_k_73, ka_k_74, ka_k_75, ka_k_76, ka_k_77, ka_k_78, ka_k_79, ka_k_80, ka_k_81, ka_k_82, ka_k_83, ka_k_84, ka_k_85, ka_k_86, ka_k_87, ka_k_88, ka_k_89, ka_k_90, ka_k_91, ka_k_92, ka_k_93, ka_k_94, ka_k_95, ka_k_96, ka_k_97, ka_k_98, ka_k_99, ka_k_100, ka_rf_0_0, ka_rf_0_1, ka_rf_0_2, ka_rf_0_4, ka_rf_0_5, ka_rf_0_6, ka_rf_0_7, ka_rf_0_8, ka_rf_0_9, ka_rf_61_0, ka_rf_61_2, ka_rf_67_0, ka_rf_67_1, ka_rf_67_2, ka_rf_75_0, ka_rf_87_0, ka_rf_87_1, ka_rf_87_2, ka_rf_87_4, ka_rf_87_11, ka_rf_87_12, ka_rf_87_14, ka_rf_87_15, ka_rf_87_16, ka_rf_87_19, ka_rf_87_20, ka_rf_87_21, ka_rf_87_22, ka_ln_63, ka_ln_64, ka_ln_65, ka_ln_68, ka_ln_69, ka_ln_70, ka_ln_76, ka_ln_77, ka_ln_78, ka_ln_80, ka_ln_82, ka_ln_84, ka_ln_86, ka_ln_88, ka_ln_89, ka_ln_90, ka_ln_91, ka_ln_92, ka_ln_93, ka_ln_94, ka_ln_95, ka_ln_96, ka_ln_97, ka_ln_98, ka_ln_99, ka_ln_100, ka_c_0, ka_c_1, ka_c_2, ka_c_3, ka_c_4, ka_c_5, ka_c_6, ka_c_7, ka_c_8, ka_c_9, ka_c_10, ka_c_11, ka_c_12, ka_c_13, ka_c_14, ka_c_15, ka_c_16, ka_c_17, ka_c_18, ka_c_19, ka_c_20, ka_c_28, ka_c_40, ka_c_50, ka_c_87, ka_851, ka_c86, i86, hp', ka_one0, gv_b, hp, gv_x, Nat.reduceAdd]
/-- how a knife of a row dulls -/
def dl (D : Nat → Int32) (r : Nat → Int32) : Int32 := md_hd (kn_edl r + gv_w D (r 7) (r 3) (r 4) (r 1)) 0 99
theorem sp_146 {k : Int32} (hk : 0 ≤ k.toInt ∧ k.toInt < 8) (hok : gv_ok (X 88) 0) : ka_ex sc (d + 3) 146 0 [.ref 87, .int k, ka_nv, ka_nv, ka_nv, ka_nv, ka_nv] [] (ka_mem X) = some (some (.int (dl (X 88) (md_kd (X 88) k.toNatClampNeg))), ka_mem (gv_x X 0 (md_kd (X 88) k.toNatClampNeg 7) (md_kd (X 88) k.toNatClampNeg 3) (md_kd (X 88) k.toNatClampNeg 4) (md_kd (X 88) k.toNatClampNeg 1))) := by
  have w0 : 0 ≤ (0 : Int32).toInt ∧ (0 : Int32).toInt < 9 := by decide
  have w1 : 0 ≤ (1 : Int32).toInt ∧ (1 : Int32).toInt < 9 := by decide
  have w3 : 0 ≤ (3 : Int32).toInt ∧ (3 : Int32).toInt < 9 := by decide
  have w4 : 0 ≤ (4 : Int32).toInt ∧ (4 : Int32).toInt < 9 := by decide
  have w7 : 0 ≤ (7 : Int32).toInt ∧ (7 : Int32).toInt < 9 := by decide
  generalize hr : md_kd (X 88) k.toNatClampNeg = r
  have f0 : X 88 (13 + 9 * k.toNatClampNeg + 0) = r 0 := by rw [← hr]; rfl
  have f1 : X 88 (13 + 9 * k.toNatClampNeg + 1) = r 1 := by rw [← hr]; rfl
  have f3 : X 88 (13 + 9 * k.toNatClampNeg + 3) = r 3 := by rw [← hr]; rfl
  have f4 : X 88 (13 + 9 * k.toNatClampNeg + 4) = r 4 := by rw [← hr]; rfl
  have f7 : X 88 (13 + 9 * k.toNatClampNeg + 7) = r 7 := by rw [← hr]; rfl
  have key : ∀ b v : Int32, ka_ex sc (d + 3) 146 142 [.ref 87, .int k, .int (r 7), .int (r 1), .int (r 3), .int b, .int v] [] (ka_mem X) = some (some (.int (md_hd (v + gv_w (X 88) (r 7) (r 3) (r 4) (r 1)) 0 99)), ka_mem (gv_x X 0 (r 7) (r 3) (r 4) (r 1))) := by
    intro b v
    rw [x146_142]
    simp only [x146_0, x146_1, x146_2, x146_4, x146_7, x146_8, x146_9, x146_10, x146_11, x146_14, x146_15, x146_16, x146_17, x146_18, x146_21, x146_23, x146_25, x146_27, x146_30, x146_31, x146_34, x146_35, x146_37, x146_38, x146_39, x146_40, x146_42, x146_43, x146_44, x146_45, x146_48, x146_88, x146_89, x146_90, x146_91, x146_92, x146_93, x146_95, x146_98, x146_99, x146_101, x146_104, x146_106, x146_108, x146_111, x146_112, x146_113, x146_114, x146_115, x146_116, x146_117, x146_118, x146_120, x146_123, x146_124, x146_125, x146_126, x146_127, x146_128, x146_130, x146_133, x146_134, x146_136, x146_137, x146_139, x146_144, x146_145, x146_146, x146_147, x146_149, x146_150, x146_151, x146_152, x146_155, x146_156, x146_159, x146_160, x146_161, x146_163, x146_166, ka_kk_i, ka_kk_n, ka_cl_i, ka_cl_r, ka_cl_n, or_true, true_or, ka_ne2, ka_ne4, ka_ne5, ka_ne10, not_false_eq_true, not_true_eq_false, if_true, if_false, ka_k_0, ka_k_1, ka_k_2, ka_k_3, ka_k_4, ka_k_5, ka_k_6, ka_k_7, ka_k_8, ka_k_9, ka_k_10, ka_k_11, ka_k_12, ka_k_13, ka_k_14, ka_k_15, ka_k_16, ka_k_17, ka_k_18, ka_k_19, ka_k_20, ka_k_21, ka_k_22, ka_k_23, ka_k_24, ka_k_25, ka_k_26, ka_k_27, ka_k_28, ka_k_29, ka_k_30, ka_k_31, ka_k_32, ka_k_33, ka_k_34, ka_k_35, ka_k_36, ka_k_37, ka_k_38, ka_k_39, ka_k_40, ka_k_41, ka_k_42, ka_k_43, ka_k_44, ka_k_45, ka_k_46, ka_k_47, ka_k_48, ka_k_49, ka_k_50, ka_k_51, ka_k_52, ka_k_53, ka_k_54, ka_k_55, ka_k_56, ka_k_57, ka_k_58, ka_k_59, ka_k_60, ka_k_61, ka_k_62, ka_k_63, ka_k_64, ka_k_65, ka_k_66, ka_k_67, ka_k_68, ka_k_69, ka_k_70, ka_k_71, ka_k_72, ka_k_73, ka_k_74, ka_k_75, ka_k_76, ka_k_77, ka_k_78, ka_k_79, ka_k_80, ka_k_81, ka_k_82, ka_k_83, ka_k_84, ka_k_85, ka_k_86, ka_k_87, ka_k_88, ka_k_89, ka_k_90, ka_k_91, ka_k_92, ka_k_93, ka_k_94, ka_k_95, ka_k_96, ka_k_97, ka_k_98, ka_k_99, ka_k_100, sp_122 hk w4, ka_c_0, ka_c_1, ka_c_2, ka_c_3, ka_c_4, ka_c_5, ka_c_6, ka_c_7, ka_c_8, ka_c_9, ka_c_10, ka_c_11, ka_c_12, ka_c_13, ka_c_14, ka_c_15, ka_c_16, ka_c_17, ka_c_18, ka_c_19, ka_c_20, ka_c_28, ka_c_40, ka_c_50, ka_c_87, f4, sp_141w hok, sp_118']
  by_cases hs : r 3 < 20
  · simp only [x146_0, x146_1, x146_2, x146_4, x146_7, x146_8, x146_9, x146_10, x146_11, x146_14, x146_15, x146_16, x146_17, x146_18, x146_21, x146_23, x146_25, x146_27, x146_30, x146_31, x146_34, x146_35, x146_37, x146_38, x146_39, x146_40, x146_42, x146_43, x146_44, x146_45, x146_48, x146_88, x146_89, x146_90, x146_91, x146_92, x146_93, x146_95, x146_98, x146_99, x146_101, x146_104, x146_106, x146_108, x146_111, x146_112, x146_113, x146_114, x146_115, x146_116, x146_117, x146_118, x146_120, x146_123, x146_124, x146_125, x146_126, x146_127, x146_128, x146_130, x146_133, x146_134, x146_136, x146_137, x146_139, x146_144, x146_145, x146_146, x146_147, x146_149, x146_150, x146_151, x146_152, x146_155, x146_156, x146_159, x146_160, x146_161, x146_163, x146_166, ka_kk_i, ka_kk_n, ka_cl_i, ka_cl_r, ka_cl_n, or_true, true_or, ka_ne2, ka_ne4, ka_ne5, ka_ne10, not_false_eq_true, not_true_eq_false, if_true, if_false, ka_k_0, ka_k_1, ka_k_2, ka_k_3, ka_k_4, ka_k_5, ka_k_6, ka_k_7, ka_k_8, ka_k_9, ka_k_10, ka_k_11, ka_k_12, ka_k_13, ka_k_14, ka_k_15, ka_k_16, ka_k_17, ka_k_18, ka_k_19, ka_k_20, ka_k_21, ka_k_22, ka_k_23, ka_k_24, ka_k_25, ka_k_26, ka_k_27, ka_k_28, ka_k_29, ka_k_30, ka_k_31, ka_k_32, ka_k_33, ka_k_34, ka_k_35, ka_k_36, ka_k_37, ka_k_38, ka_k_39, ka_k_40, ka_k_41, ka_k_42, ka_k_43, ka_k_44, ka_k_45, ka_k_46, ka_k_47, ka_k_48, ka_k_49, ka_k_50, ka_k_51, ka_k_52, ka_k_53, ka_k_54, ka_k_55, ka_k_56, ka_k_57, ka_k_58, ka_k_59, ka_k_60, ka_k_61, ka_k_62, ka_k_63, ka_k_64, ka_k_65, ka_k_66, ka_k_67, ka_k_68, ka_k_69, ka_k_70, ka_k_71, ka_k_72, ka_k_73, ka_k_74, ka_k_75, ka_k_76, ka_k_77, ka_k_78, ka_k_79, ka_k_80, ka_k_81, ka_k_82, ka_k_83, ka_k_84, ka_k_85, ka_k_86, ka_k_87, ka_k_88, ka_k_89, ka_k_90, ka_k_91, ka_k_92, ka_k_93, ka_k_94, ka_k_95, ka_k_96, ka_k_97, ka_k_98, ka_k_99, ka_k_100, sp_122 hk w0, sp_122 hk w1, sp_122 hk w3, sp_122 hk w7, ka_c_0, ka_c_1, ka_c_2, ka_c_3, ka_c_4, ka_c_5, ka_c_6, ka_c_7, ka_c_8, ka_c_9, ka_c_10, ka_c_11, ka_c_12, ka_c_13, ka_c_14, ka_c_15, ka_c_16, ka_c_17, ka_c_18, ka_c_19, ka_c_20, ka_c_28, ka_c_40, ka_c_50, ka_c_87, f0, f1, f3, f7, hs, key]
    unfold dl kn_edl
    (repeat' split) <;> rfl
  · simp only [x146_0, x146_1, x146_2, x146_4, x146_7, x146_8, x146_9, x146_10, x146_11, x146_14, x146_15, x146_16, x146_17, x146_18, x146_21, x146_23, x146_25, x146_27, x146_30, x146_31, x146_34, x146_35, x146_37, x146_38, x146_39, x146_40, x146_42, x146_43, x146_44, x146_45, x146_48, x146_88, x146_89, x146_90, x146_91, x146_92, x146_93, x146_95, x146_98, x146_99, x146_101, x146_104, x146_106, x146_108, x146_111, x146_112, x146_113, x146_114, x146_115, x146_116, x146_117, x146_118, x146_120, x146_123, x146_124, x146_125, x146_126, x146_127, x146_128, x146_130, x146_133, x146_134, x146_136, x146_137, x146_139, x146_144, x146_145, x146_146, x146_147, x146_149, x146_150, x146_151, x146_152, x146_155, x146_156, x146_159, x146_160, x146_161, x146_163, x146_166, ka_kk_i, ka_kk_n, ka_cl_i, ka_cl_r, ka_cl_n, or_true, true_or, ka_ne2, ka_ne4, ka_ne5, ka_ne10, not_false_eq_true, not_true_eq_false, if_true, if_false, ka_k_0, ka_k_1, ka_k_2, ka_k_3, ka_k_4, ka_k_5, ka_k_6, ka_k_7, ka_k_8, ka_k_9, ka_k_10, ka_k_11, ka_k_12, ka_k_13, ka_k_14, ka_k_15, ka_k_16, ka_k_17, ka_k_18, ka_k_19, ka_k_20, ka_k_21, ka_k_22, ka_k_23, ka_k_24, ka_k_25, ka_k_26, ka_k_27, ka_k_28, ka_k_29, ka_k_30, ka_k_31, ka_k_32, ka_k_33, ka_k_34, ka_k_35, ka_k_36, ka_k_37, ka_k_38, ka_k_39, ka_k_40, ka_k_41, ka_k_42, ka_k_43, ka_k_44, ka_k_45, ka_k_46, ka_k_47, ka_k_48, ka_k_49, ka_k_50, ka_k_51, ka_k_52, ka_k_53, ka_k_54, ka_k_55, ka_k_56, ka_k_57, ka_k_58, ka_k_59, ka_k_60, ka_k_61, ka_k_62, ka_k_63, ka_k_64, ka_k_65, ka_k_66, ka_k_67, ka_k_68, ka_k_69, ka_k_70, ka_k_71, ka_k_72, ka_k_73, ka_k_74, ka_k_75, ka_k_76, ka_k_77, ka_k_78, ka_k_79, ka_k_80, ka_k_81, ka_k_82, ka_k_83, ka_k_84, ka_k_85, ka_k_86, ka_k_87, ka_k_88, ka_k_89, ka_k_90, ka_k_91, ka_k_92, ka_k_93, ka_k_94, ka_k_95, ka_k_96, ka_k_97, ka_k_98, ka_k_99, ka_k_100, sp_122 hk w0, sp_122 hk w1, sp_122 hk w3, sp_122 hk w7, ka_c_0, ka_c_1, ka_c_2, ka_c_3, ka_c_4, ka_c_5, ka_c_6, ka_c_7, ka_c_8, ka_c_9, ka_c_10, ka_c_11, ka_c_12, ka_c_13, ka_c_14, ka_c_15, ka_c_16, ka_c_17, ka_c_18, ka_c_19, ka_c_20, ka_c_28, ka_c_40, ka_c_50, ka_c_87, f0, f1, f3, f7, hs, key]
    unfold dl kn_edl
    (repeat' split) <;> rfl
end
/-! a text is worked out alike on both sides -/
def mw_cd (x : Int32) : Int32 := if x.toInt < 20000 then x else 20000 - x
theorem tx_nm_eq {x a b c f : Int32} (h : 0 ≤ x.toInt ∧ x.toInt ≤ 3) : tx_nm x a b c f = gv_nm a b c f x.toNatClampNeg := by
  obtain ⟨k, rfl, hk⟩ := ka_isI h.1 (show x.toInt < 4 by omega)
  rcases (by omega : k = 0 ∨ k = 1 ∨ k = 2 ∨ k = 3) with rfl | rfl | rfl | rfl <;> rfl
theorem tx_eq {s c : Nat → Int32} {a b e f : Int32} : ∀ (n i i0 t : Nat) (k k2 : Nat → Int32), (∀ j, j < n → s (i + j) = mw_cd (c (i0 + j))) → mw_ok c n i0 t → t ≤ i → i + n ≤ 50 → (∀ j, j < t → k j = k2 j) → (tx_w s a b e f n i t k).1 = mw_go c (gv_nm a b e f) n i0 t k2 0 := by
  intro n
  induction n with
  | zero =>
    intro i i0 t k k2 hs hok ht h50 hk
    have ht1 : t = 1 := hok
    simp only [tx_w, mw_go]
    rw [if_pos ht1]
    exact hk 0 (by omega)
  | succ n ih =>
    intro i i0 t k k2 hs hok ht h50 hk
    have hle := mw_ok_le hok
    have hs0 := hs 0 (by omega)
    simp only [Nat.add_zero] at hs0
    have hs1 : ∀ j, j < n → s (i + 1 + j) = mw_cd (c (i0 + 1 + j)) := by
      intro j hj
      rw [show i + 1 + j = i + (j + 1) by omega, show i0 + 1 + j = i0 + (j + 1) by omega]
      exact hs (j + 1) (by omega)
    simp only [tx_w, mw_go]
    rcases hok with ⟨c0, c1, hok⟩ | ⟨c1, c2, hok⟩ | ⟨c0, c1, c2, c3, hok⟩
    · have es : s i = c i0 := by rw [hs0, mw_cd, if_pos (by omega)]
      rw [if_pos (show (c i0).toInt < 20000 by omega), es, if_pos c0, if_neg (show ¬ 49 ≤ t by omega)]
      refine ih _ _ _ _ _ hs1 hok (by omega) (by omega) fun j hj => ?_
      have ev : (if (c i0).toInt < 10000 then c i0 else tx_nm (c i0 - 10000) a b e f) = (if (c i0).toInt < 10000 then c i0 else gv_nm a b e f (c i0 - 10000).toNatClampNeg) := by
        by_cases q : (c i0).toInt < 10000
        · rw [if_pos q, if_pos q]
        · rw [if_neg q, if_neg q]
          refine tx_nm_eq ?_
          rw [ka_sub (by simp only [ka_t_0, ka_t_1, ka_t_2, ka_t_3, ka_t_4, ka_t_5, ka_t_6, ka_t_7, ka_t_8, ka_t_9, ka_t_10, ka_t_11, ka_t_12, ka_t_13, ka_t_14, ka_t_15, ka_t_16, ka_t_17, ka_t_18, ka_t_19, ka_t_20, ka_t_25, ka_t_26, ka_t_28, ka_t_30, ka_t_31, ka_t_32, ka_t_33, ka_t_37, ka_t_38, ka_t_39, ka_t_40, ka_t_41, ka_t_42, ka_t_43, ka_t_45, ka_t_47, ka_t_48, ka_t_50, ka_t_57, ka_t_60, ka_t_61, ka_t_62, ka_t_63, ka_t_64, ka_t_65, ka_t_69, ka_t_70, ka_t_71, ka_t_80, ka_t_85, ka_t_87, ka_t_98, ka_t_99, ka_t_100, ka_t_104, ka_t_107, ka_t_109, ka_t_110, ka_t_112, ka_t_115, ka_t_116, ka_t_117, ka_t_124, ka_t_125, ka_t_160, ka_t_200, ka_t_207, ka_t_255, ka_t_260, ka_t_400, ka_t_624, ka_t_625, ka_t_999, ka_t_9999, ka_t_10000, ka_t_20000, ka_t_20033, ka_t_999999, ka_t_1000000000, ka_t_m1, ka_t_m2, ka_t_m3, ka_t_m5, ka_t_m9, ka_t_m10, ka_t_m1000000000]; omega)]
          simp only [ka_t_0, ka_t_1, ka_t_2, ka_t_3, ka_t_4, ka_t_5, ka_t_6, ka_t_7, ka_t_8, ka_t_9, ka_t_10, ka_t_11, ka_t_12, ka_t_13, ka_t_14, ka_t_15, ka_t_16, ka_t_17, ka_t_18, ka_t_19, ka_t_20, ka_t_25, ka_t_26, ka_t_28, ka_t_30, ka_t_31, ka_t_32, ka_t_33, ka_t_37, ka_t_38, ka_t_39, ka_t_40, ka_t_41, ka_t_42, ka_t_43, ka_t_45, ka_t_47, ka_t_48, ka_t_50, ka_t_57, ka_t_60, ka_t_61, ka_t_62, ka_t_63, ka_t_64, ka_t_65, ka_t_69, ka_t_70, ka_t_71, ka_t_80, ka_t_85, ka_t_87, ka_t_98, ka_t_99, ka_t_100, ka_t_104, ka_t_107, ka_t_109, ka_t_110, ka_t_112, ka_t_115, ka_t_116, ka_t_117, ka_t_124, ka_t_125, ka_t_160, ka_t_200, ka_t_207, ka_t_255, ka_t_260, ka_t_400, ka_t_624, ka_t_625, ka_t_999, ka_t_9999, ka_t_10000, ka_t_20000, ka_t_20033, ka_t_999999, ka_t_1000000000, ka_t_m1, ka_t_m2, ka_t_m3, ka_t_m5, ka_t_m9, ka_t_m10, ka_t_m1000000000]
          omega
      rw [ev]
      by_cases hz : j = t
      · subst hz; rw [kn_up_at, kn_up_at]
      · rw [kn_up_ne hz, kn_up_ne hz, hk j (by omega)]
    · have es : s i = -33 := by rw [hs0, c1]; decide
      rw [es, if_neg (show ¬ 0 ≤ (-33 : Int32).toInt by decide), if_pos rfl, if_neg (show ¬ (t = 0 ∨ 50 ≤ t) by omega), c1, if_neg (show ¬ (20033 : Int32).toInt < 20000 by decide), if_pos rfl]
      refine ih _ _ _ _ _ hs1 hok (by omega) (by omega) fun j hj => ?_
      by_cases hz : j = t - 1
      · subst hz; rw [kn_up_at, kn_up_at, hk _ hj]
      · rw [kn_up_ne hz, kn_up_ne hz, hk j hj]
    · have es : s i = 20000 - c i0 := by rw [hs0, mw_cd, if_neg (by omega)]
      have et : (20000 - c i0).toInt = 20000 - (c i0).toInt := by rw [ka_sub (by simp only [ka_t_0, ka_t_1, ka_t_2, ka_t_3, ka_t_4, ka_t_5, ka_t_6, ka_t_7, ka_t_8, ka_t_9, ka_t_10, ka_t_11, ka_t_12, ka_t_13, ka_t_14, ka_t_15, ka_t_16, ka_t_17, ka_t_18, ka_t_19, ka_t_20, ka_t_25, ka_t_26, ka_t_28, ka_t_30, ka_t_31, ka_t_32, ka_t_33, ka_t_37, ka_t_38, ka_t_39, ka_t_40, ka_t_41, ka_t_42, ka_t_43, ka_t_45, ka_t_47, ka_t_48, ka_t_50, ka_t_57, ka_t_60, ka_t_61, ka_t_62, ka_t_63, ka_t_64, ka_t_65, ka_t_69, ka_t_70, ka_t_71, ka_t_80, ka_t_85, ka_t_87, ka_t_98, ka_t_99, ka_t_100, ka_t_104, ka_t_107, ka_t_109, ka_t_110, ka_t_112, ka_t_115, ka_t_116, ka_t_117, ka_t_124, ka_t_125, ka_t_160, ka_t_200, ka_t_207, ka_t_255, ka_t_260, ka_t_400, ka_t_624, ka_t_625, ka_t_999, ka_t_9999, ka_t_10000, ka_t_20000, ka_t_20033, ka_t_999999, ka_t_1000000000, ka_t_m1, ka_t_m2, ka_t_m3, ka_t_m5, ka_t_m9, ka_t_m10, ka_t_m1000000000]; omega)]; simp only [ka_t_0, ka_t_1, ka_t_2, ka_t_3, ka_t_4, ka_t_5, ka_t_6, ka_t_7, ka_t_8, ka_t_9, ka_t_10, ka_t_11, ka_t_12, ka_t_13, ka_t_14, ka_t_15, ka_t_16, ka_t_17, ka_t_18, ka_t_19, ka_t_20, ka_t_25, ka_t_26, ka_t_28, ka_t_30, ka_t_31, ka_t_32, ka_t_33, ka_t_37, ka_t_38, ka_t_39, ka_t_40, ka_t_41, ka_t_42, ka_t_43, ka_t_45, ka_t_47, ka_t_48, ka_t_50, ka_t_57, ka_t_60, ka_t_61, ka_t_62, ka_t_63, ka_t_64, ka_t_65, ka_t_69, ka_t_70, ka_t_71, ka_t_80, ka_t_85, ka_t_87, ka_t_98, ka_t_99, ka_t_100, ka_t_104, ka_t_107, ka_t_109, ka_t_110, ka_t_112, ka_t_115, ka_t_116, ka_t_117, ka_t_124, ka_t_125, ka_t_160, ka_t_200, ka_t_207, ka_t_255, ka_t_260, ka_t_400, ka_t_624, ka_t_625, ka_t_999, ka_t_9999, ka_t_10000, ka_t_20000, ka_t_20033, ka_t_999999, ka_t_1000000000, ka_t_m1, ka_t_m2, ka_t_m3, ka_t_m5, ka_t_m9, ka_t_m10, ka_t_m1000000000]
      have en : ¬ (20000 - c i0 : Int32) = -33 := by
        intro q
        refine c2 (ka_eq_lit ?_)
        have := congrArg Int32.toInt q
        rw [et, show (-33 : Int32).toInt = -33 from rfl] at this
        simp only [ka_t_0, ka_t_1, ka_t_2, ka_t_3, ka_t_4, ka_t_5, ka_t_6, ka_t_7, ka_t_8, ka_t_9, ka_t_10, ka_t_11, ka_t_12, ka_t_13, ka_t_14, ka_t_15, ka_t_16, ka_t_17, ka_t_18, ka_t_19, ka_t_20, ka_t_25, ka_t_26, ka_t_28, ka_t_30, ka_t_31, ka_t_32, ka_t_33, ka_t_37, ka_t_38, ka_t_39, ka_t_40, ka_t_41, ka_t_42, ka_t_43, ka_t_45, ka_t_47, ka_t_48, ka_t_50, ka_t_57, ka_t_60, ka_t_61, ka_t_62, ka_t_63, ka_t_64, ka_t_65, ka_t_69, ka_t_70, ka_t_71, ka_t_80, ka_t_85, ka_t_87, ka_t_98, ka_t_99, ka_t_100, ka_t_104, ka_t_107, ka_t_109, ka_t_110, ka_t_112, ka_t_115, ka_t_116, ka_t_117, ka_t_124, ka_t_125, ka_t_160, ka_t_200, ka_t_207, ka_t_255, ka_t_260, ka_t_400, ka_t_624, ka_t_625, ka_t_999, ka_t_9999, ka_t_10000, ka_t_20000, ka_t_20033, ka_t_999999, ka_t_1000000000, ka_t_m1, ka_t_m2, ka_t_m3, ka_t_m5, ka_t_m9, ka_t_m10, ka_t_m1000000000]
        omega
      have e2 : -(20000 - c i0 : Int32) = c i0 - 20000 := Int32.neg_sub
      rw [es, if_neg (show ¬ 0 ≤ (20000 - c i0 : Int32).toInt by omega), if_neg en, if_neg (show ¬ (t ≤ 1 ∨ 51 ≤ t) by omega), e2, if_neg (show ¬ (c i0).toInt < 20000 by omega), if_neg c2]
      refine ih _ _ _ _ _ hs1 hok (by omega) (by omega) fun j hj => ?_
      by_cases hz : j = t - 2
      · subst hz; rw [kn_up_at, kn_up_at, hk _ (by omega), hk _ (by omega)]
      · rw [kn_up_ne hz, kn_up_ne hz, hk j (by omega)]
theorem md_hd_mx {v lo hi : Int32} (h : lo.toInt ≤ hi.toInt) : md_hd v lo hi = kn_mx lo (kn_mn hi v) := by
  unfold md_hd kn_mx kn_mn
  by_cases h1 : v < lo
  · have h1' := ka_ilt.mp h1
    rw [if_pos h1, if_pos (show v < hi by rw [ka_ilt]; omega), if_neg (show ¬ lo < v by rw [ka_ilt]; omega)]
  · have h1' : ¬ v.toInt < lo.toInt := fun q => h1 (ka_ilt.mpr q)
    rw [if_neg h1]
    by_cases h2 : hi < v
    · have h2' := ka_ilt.mp h2
      rw [if_pos h2, if_neg (show ¬ v < hi by rw [ka_ilt]; omega)]
      by_cases h3 : lo < hi
      · rw [if_pos h3]
      · rw [if_neg h3]
        refine ka_eq_lit ?_
        have h3' : ¬ lo.toInt < hi.toInt := fun q => h3 (ka_ilt.mpr q)
        omega
    · have h2' : ¬ hi.toInt < v.toInt := fun q => h2 (ka_ilt.mpr q)
      rw [if_neg h2]
      by_cases h4 : v < hi
      · rw [if_pos h4]
        by_cases h5 : lo < v
        · rw [if_pos h5]
        · rw [if_neg h5]
          have h5' : ¬ lo.toInt < v.toInt := fun q => h5 (ka_ilt.mpr q)
          refine ka_eq_lit ?_
          omega
      · rw [if_neg h4]
        have h4' : ¬ v.toInt < hi.toInt := fun q => h4 (ka_ilt.mpr q)
        by_cases h5 : lo < hi
        · rw [if_pos h5]
          refine ka_eq_lit ?_
          omega
        · rw [if_neg h5]
          have h5' : ¬ lo.toInt < hi.toInt := fun q => h5 (ka_ilt.mpr q)
          refine ka_eq_lit ?_
          omega
