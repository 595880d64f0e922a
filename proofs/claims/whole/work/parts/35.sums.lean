/-! sums over the knives -/
def sm_f (f : Nat → Int32) : Nat → Nat → Int32 → Int32
  | 0, _, s => s
  | n + 1, i, s => sm_f f n (i + 1) (s + f i)
section
variable {sc : aS} {d : Nat} {X : ka_X} {b : Nat}
theorem sp_47l (hb : ka_k b = 4) : ∀ (n i : Nat) (s ii : Int32), (X b 1).toInt = i + n → i + n ≤ 8 → ii.toInt = i → ka_ex sc d 47 4 [.ref b, .int s, .int ii] [] (ka_mem X) = some (some (.int (sm_f (fun j => X (b + 12 + j) 4) n i s)), ka_mem X) := by
  intro n
  induction n with
  | zero =>
    intro i s ii hN h8 hii
    have h1 : ¬ ii < X b 1 := by rw [ka_ilt]; omega
    simp only [x47_0, x47_1, x47_2, x47_3, x47_4, x47_5, x47_6, x47_9, x47_12, x47_13, x47_14, x47_17, x47_18, x47_21, x47_22, x47_23, x47_26, x47_27, x47_28, x47_31, x47_32, x47_33, x47_36, x47_39, x47_40, ka_kk_i, ka_kk_n, ka_cl_i, ka_cl_r, ka_cl_n, or_true, true_or, ka_ne2, ka_ne4, ka_ne5, ka_ne10, not_false_eq_true, not_true_eq_false, if_true, if_false, hb, h1, sm_f]
  | succ n ih =>
    intro i s ii hN h8 hii
    have h1 : ii < X b 1 := by rw [ka_ilt]; omega
    have h2 : ii < nI 8 := by rw [ka_ilt, ka_nIt (by decide)]; omega
    have hin : ka_in ii 8 := ka_inI.mpr (by omega)
    have hc : ii.toNatClampNeg = i := by rw [ka_nc]; omega
    have hi1 : (ii + 1).toInt = ((i + 1 : Nat) : Int) := by rw [ka_add (by simp only [ka_t_0, ka_t_1, ka_t_2, ka_t_3, ka_t_4, ka_t_5, ka_t_6, ka_t_7, ka_t_8, ka_t_9, ka_t_10, ka_t_11, ka_t_12, ka_t_13, ka_t_14, ka_t_15, ka_t_16, ka_t_17, ka_t_18, ka_t_19, ka_t_20, ka_t_25, ka_t_26, ka_t_28, ka_t_30, ka_t_31, ka_t_32, ka_t_33, ka_t_37, ka_t_38, ka_t_39, ka_t_40, ka_t_41, ka_t_42, ka_t_43, ka_t_45, ka_t_47, ka_t_48, ka_t_50, ka_t_57, ka_t_60, ka_t_61, ka_t_62, ka_t_63, ka_t_64, ka_t_65, ka_t_69, ka_t_70, ka_t_71, ka_t_80, ka_t_85, ka_t_87, ka_t_98, ka_t_99, ka_t_100, ka_t_104, ka_t_107, ka_t_109, ka_t_110, ka_t_112, ka_t_115, ka_t_116, ka_t_117, ka_t_124, ka_t_125, ka_t_160, ka_t_200, ka_t_207, ka_t_255, ka_t_260, ka_t_400, ka_t_624, ka_t_625, ka_t_999, ka_t_9999, ka_t_10000, ka_t_20000, ka_t_20033, ka_t_999999, ka_t_1000000000, ka_t_m1, ka_t_m2, ka_t_m3, ka_t_m5, ka_t_m9, ka_t_m10, ka_t_m1000000000]; omega)]; simp only [ka_t_0, ka_t_1, ka_t_2, ka_t_3, ka_t_4, ka_t_5, ka_t_6, ka_t_7, ka_t_8, ka_t_9, ka_t_10, ka_t_11, ka_t_12, ka_t_13, ka_t_14, ka_t_15, ka_t_16, ka_t_17, ka_t_18, ka_t_19, ka_t_20, ka_t_25, ka_t_26, ka_t_28, ka_t_30, ka_t_31, ka_t_32, ka_t_33, ka_t_37, ka_t_38, ka_t_39, ka_t_40, ka_t_41, ka_t_42, ka_t_43, ka_t_45, ka_t_47, ka_t_48, ka_t_50, ka_t_57, ka_t_60, ka_t_61, ka_t_62, ka_t_63, ka_t_64, ka_t_65, ka_t_69, ka_t_70, ka_t_71, ka_t_80, ka_t_85, ka_t_87, ka_t_98, ka_t_99, ka_t_100, ka_t_104, ka_t_107, ka_t_109, ka_t_110, ka_t_112, ka_t_115, ka_t_116, ka_t_117, ka_t_124, ka_t_125, ka_t_160, ka_t_200, ka_t_207, ka_t_255, ka_t_260, ka_t_400, ka_t_624, ka_t_625, ka_t_999, ka_t_9999, ka_t_10000, ka_t_20000, ka_t_20033, ka_t_999999, ka_t_1000000000, ka_t_m1, ka_t_m2, ka_t_m3, ka_t_m5, ka_t_m9, ka_t_m10, ka_t_m1000000000]; omega
    have hi8 : i < 8 := by omega
    rw [x47_4]
    simp only [x47_0, x47_1, x47_2, x47_3, x47_5, x47_6, x47_9, x47_12, x47_13, x47_14, x47_17, x47_18, x47_21, x47_22, x47_23, x47_26, x47_27, x47_28, x47_31, x47_32, x47_33, x47_36, x47_39, x47_40, x47_27 (Or.inl rfl) (ka_st_k1 hb), ka_kk_i, ka_kk_n, ka_cl_i, ka_cl_r, ka_cl_n, or_true, true_or, ka_ne2, ka_ne4, ka_ne5, ka_ne10, not_false_eq_true, not_true_eq_false, if_true, if_false, hb, h1, h2, hin, hc, ka_st_r0 hb, ka_st_k1 hb, ka_st_l1 hb, ka_st_ra hb hi8, ka_st_kn hb hi8]
    rw [ih (i + 1) _ _ (by omega) (by omega) hi1]
    simp only [sm_f]
theorem sp_47 (hb : ka_k b = 4) (hN : 0 ≤ (X b 1).toInt ∧ (X b 1).toInt ≤ 8) : ka_ex sc d 47 0 [.ref b, ka_nv, ka_nv] [] (ka_mem X) = some (some (.int (sm_f (fun j => X (b + 12 + j) 4) (X b 1).toInt.toNat 0 0)), ka_mem X) := by
  rw [x47_0, x47_1, x47_2, x47_3]
  exact sp_47l hb _ 0 0 0 (by omega) (by omega) rfl
theorem sp_48l (hb : ka_k b = 4) : ∀ (n i : Nat) (s ii : Int32), (X b 1).toInt = i + n → i + n ≤ 8 → ii.toInt = i → ka_ex sc d 48 4 [.ref b, .int s, .int ii] [] (ka_mem X) = some (some (.int (sm_f (fun j => X (b + 12 + j) 8) n i s)), ka_mem X) := by
  intro n
  induction n with
  | zero =>
    intro i s ii hN h8 hii
    have h1 : ¬ ii < X b 1 := by rw [ka_ilt]; omega
    simp only [x48_0, x48_1, x48_2, x48_3, x48_4, x48_5, x48_6, x48_9, x48_12, x48_13, x48_14, x48_17, x48_18, x48_21, x48_22, x48_23, x48_26, x48_27, x48_28, x48_31, x48_32, x48_33, x48_36, x48_39, x48_40, ka_kk_i, ka_kk_n, ka_cl_i, ka_cl_r, ka_cl_n, or_true, true_or, ka_ne2, ka_ne4, ka_ne5, ka_ne10, not_false_eq_true, not_true_eq_false, if_true, if_false, hb, h1, sm_f]
  | succ n ih =>
    intro i s ii hN h8 hii
    have h1 : ii < X b 1 := by rw [ka_ilt]; omega
    have h2 : ii < nI 8 := by rw [ka_ilt, ka_nIt (by decide)]; omega
    have hin : ka_in ii 8 := ka_inI.mpr (by omega)
    have hc : ii.toNatClampNeg = i := by rw [ka_nc]; omega
    have hi1 : (ii + 1).toInt = ((i + 1 : Nat) : Int) := by rw [ka_add (by simp only [ka_t_0, ka_t_1, ka_t_2, ka_t_3, ka_t_4, ka_t_5, ka_t_6, ka_t_7, ka_t_8, ka_t_9, ka_t_10, ka_t_11, ka_t_12, ka_t_13, ka_t_14, ka_t_15, ka_t_16, ka_t_17, ka_t_18, ka_t_19, ka_t_20, ka_t_25, ka_t_26, ka_t_28, ka_t_30, ka_t_31, ka_t_32, ka_t_33, ka_t_37, ka_t_38, ka_t_39, ka_t_40, ka_t_41, ka_t_42, ka_t_43, ka_t_45, ka_t_47, ka_t_48, ka_t_50, ka_t_57, ka_t_60, ka_t_61, ka_t_62, ka_t_63, ka_t_64, ka_t_65, ka_t_69, ka_t_70, ka_t_71, ka_t_80, ka_t_85, ka_t_87, ka_t_98, ka_t_99, ka_t_100, ka_t_104, ka_t_107, ka_t_109, ka_t_110, ka_t_112, ka_t_115, ka_t_116, ka_t_117, ka_t_124, ka_t_125, ka_t_160, ka_t_200, ka_t_207, ka_t_255, ka_t_260, ka_t_400, ka_t_624, ka_t_625, ka_t_999, ka_t_9999, ka_t_10000, ka_t_20000, ka_t_20033, ka_t_999999, ka_t_1000000000, ka_t_m1, ka_t_m2, ka_t_m3, ka_t_m5, ka_t_m9, ka_t_m10, ka_t_m1000000000]; omega)]; simp only [ka_t_0, ka_t_1, ka_t_2, ka_t_3, ka_t_4, ka_t_5, ka_t_6, ka_t_7, ka_t_8, ka_t_9, ka_t_10, ka_t_11, ka_t_12, ka_t_13, ka_t_14, ka_t_15, ka_t_16, ka_t_17, ka_t_18, ka_t_19, ka_t_20, ka_t_25, ka_t_26, ka_t_28, ka_t_30, ka_t_31, ka_t_32, ka_t_33, ka_t_37, ka_t_38, ka_t_39, ka_t_40, ka_t_41, ka_t_42, ka_t_43, ka_t_45, ka_t_47, ka_t_48, ka_t_50, ka_t_57, ka_t_60, ka_t_61, ka_t_62, ka_t_63, ka_t_64, ka_t_65, ka_t_69, ka_t_70, ka_t_71, ka_t_80, ka_t_85, ka_t_87, ka_t_98, ka_t_99, ka_t_100, ka_t_104, ka_t_107, ka_t_109, ka_t_110, ka_t_112, ka_t_115, ka_t_116, ka_t_117, ka_t_124, ka_t_125, ka_t_160, ka_t_200, ka_t_207, ka_t_255, ka_t_260, ka_t_400, ka_t_624, ka_t_625, ka_t_999, ka_t_9999, ka_t_10000, ka_t_20000, ka_t_20033, ka_t_999999, ka_t_1000000000, ka_t_m1, ka_t_m2, ka_t_m3, ka_t_m5, ka_t_m9, ka_t_m10, ka_t_m1000000000]; omega
    have hi8 : i < 8 := by omega
    rw [x48_4]
    simp only [x48_0, x48_1, x48_2, x48_3, x48_5, x48_6, x48_9, x48_12, x48_13, x48_14, x48_17, x48_18, x48_21, x48_22, x48_23, x48_26, x48_27, x48_28, x48_31, x48_32, x48_33, x48_36, x48_39, x48_40, x48_27 (Or.inl rfl) (ka_st_k1 hb), ka_kk_i, ka_kk_n, ka_cl_i, ka_cl_r, ka_cl_n, or_true, true_or, ka_ne2, ka_ne4, ka_ne5, ka_ne10, not_false_eq_true, not_true_eq_false, if_true, if_false, hb, h1, h2, hin, hc, ka_st_r0 hb, ka_st_k1 hb, ka_st_l1 hb, ka_st_ra hb hi8, ka_st_kn hb hi8]
    rw [ih (i + 1) _ _ (by omega) (by omega) hi1]
    simp only [sm_f]
theorem sp_48 (hb : ka_k b = 4) (hN : 0 ≤ (X b 1).toInt ∧ (X b 1).toInt ≤ 8) : ka_ex sc d 48 0 [.ref b, ka_nv, ka_nv] [] (ka_mem X) = some (some (.int (sm_f (fun j => X (b + 12 + j) 8) (X b 1).toInt.toNat 0 0)), ka_mem X) := by
  rw [x48_0, x48_1, x48_2, x48_3]
  exact sp_48l hb _ 0 0 0 (by omega) (by omega) rfl
end
