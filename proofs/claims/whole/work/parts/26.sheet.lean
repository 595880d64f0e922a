/-! a sheet -/
section
variable {sc : aS} {d : Nat} {X : ka_X} {p : Nat}
theorem sp_29 (hp : ka_k p = 3) : ka_ex sc d 29 0 [.ref p] [] (ka_mem X) = some (some (.int (ka_b ((X p 0).toInt = 0))), ka_mem X) := by
  simp only [x29_0, x29_1, x29_4, x29_7, x29_8, x29_11, x29_12, ka_kk_i, ka_kk_n, ka_cl_i, ka_cl_r, ka_cl_n, or_true, true_or, ka_ne2, ka_ne4, ka_ne5, ka_ne10, not_false_eq_true, if_true, if_false, hp, ka_ieq, ka_t_0, ka_t_1, ka_t_2, ka_t_3, ka_t_4, ka_t_5, ka_t_6, ka_t_7, ka_t_8, ka_t_9, ka_t_10, ka_t_11, ka_t_12, ka_t_13, ka_t_14, ka_t_15, ka_t_16, ka_t_17, ka_t_18, ka_t_19, ka_t_20, ka_t_25, ka_t_26, ka_t_28, ka_t_30, ka_t_31, ka_t_32, ka_t_33, ka_t_37, ka_t_38, ka_t_39, ka_t_40, ka_t_41, ka_t_42, ka_t_43, ka_t_45, ka_t_47, ka_t_48, ka_t_50, ka_t_57, ka_t_60, ka_t_61, ka_t_62, ka_t_63, ka_t_64, ka_t_65, ka_t_69, ka_t_70, ka_t_71, ka_t_80, ka_t_85, ka_t_87, ka_t_98, ka_t_99, ka_t_100, ka_t_104, ka_t_107, ka_t_109, ka_t_110, ka_t_112, ka_t_115, ka_t_116, ka_t_117, ka_t_124, ka_t_125, ka_t_160, ka_t_200, ka_t_207, ka_t_255, ka_t_260, ka_t_400, ka_t_624, ka_t_625, ka_t_999, ka_t_9999, ka_t_10000, ka_t_20000, ka_t_20033, ka_t_999999, ka_t_1000000000, ka_t_m1, ka_t_m2, ka_t_m3, ka_t_m5, ka_t_m9, ka_t_m10, ka_t_m1000000000]
  (repeat' split) <;> first | (exfalso; omega) | (rw [ka_b_t (by omega)]) | (rw [ka_b_f (by omega)])
theorem sp_30l (hp : ka_k p = 3) {bits m : Int32} : ∀ (n i : Nat) (ii : Int32) (X : ka_X), i + n = 40 → ii.toInt = i → ka_ex sc d 30 12 [.ref p, .int bits, .int m, .int ii] [] (ka_mem X) = some (none, ka_mem (kn_row X (p + 1) (fun k => if i ≤ k ∧ k < 40 then 0 else X (p + 1) k))) := by
  intro n
  induction n with
  | zero =>
    intro i ii X hi hii
    have h1 : ¬ ii < nI 40 := by rw [ka_ilt, ka_nIt (by decide)]; omega
    simp only [x30_0, x30_1, x30_2, x30_5, x30_6, x30_7, x30_10, x30_11, x30_12, x30_13, x30_14, x30_17, x30_18, x30_21, x30_22, x30_25, x30_26, x30_27, x30_28, x30_31, x30_34, ka_kk_i, ka_kk_n, ka_cl_i, ka_cl_r, ka_cl_n, or_true, true_or, ka_ne2, ka_ne4, ka_ne5, ka_ne10, not_false_eq_true, if_true, if_false, hp, ka_sh_r2 hp, ka_sh_k1 hp, ka_sh_l1 hp, h1]
    have e : (fun k => if i ≤ k ∧ k < 40 then 0 else X (p + 1) k) = X (p + 1) := by
      funext k
      rw [if_neg (by omega)]
    rw [e, kn_row_self]
  | succ n ih =>
    intro i ii X hi hii
    have h1 : ii < nI 40 := by rw [ka_ilt, ka_nIt (by decide)]; omega
    have hin : ka_in ii 40 := ka_inI.mpr (by omega)
    have hc : ii.toNatClampNeg = i := by rw [ka_nc]; omega
    have hi1 : (ii + 1).toInt = ((i + 1 : Nat) : Int) := by rw [ka_add (by simp only [ka_t_0, ka_t_1, ka_t_2, ka_t_3, ka_t_4, ka_t_5, ka_t_6, ka_t_7, ka_t_8, ka_t_9, ka_t_10, ka_t_11, ka_t_12, ka_t_13, ka_t_14, ka_t_15, ka_t_16, ka_t_17, ka_t_18, ka_t_19, ka_t_20, ka_t_25, ka_t_26, ka_t_28, ka_t_30, ka_t_31, ka_t_32, ka_t_33, ka_t_37, ka_t_38, ka_t_39, ka_t_40, ka_t_41, ka_t_42, ka_t_43, ka_t_45, ka_t_47, ka_t_48, ka_t_50, ka_t_57, ka_t_60, ka_t_61, ka_t_62, ka_t_63, ka_t_64, ka_t_65, ka_t_69, ka_t_70, ka_t_71, ka_t_80, ka_t_85, ka_t_87, ka_t_98, ka_t_99, ka_t_100, ka_t_104, ka_t_107, ka_t_109, ka_t_110, ka_t_112, ka_t_115, ka_t_116, ka_t_117, ka_t_124, ka_t_125, ka_t_160, ka_t_200, ka_t_207, ka_t_255, ka_t_260, ka_t_400, ka_t_624, ka_t_625, ka_t_999, ka_t_9999, ka_t_10000, ka_t_20000, ka_t_20033, ka_t_999999, ka_t_1000000000, ka_t_m1, ka_t_m2, ka_t_m3, ka_t_m5, ka_t_m9, ka_t_m10, ka_t_m1000000000]; omega)]; simp only [ka_t_0, ka_t_1, ka_t_2, ka_t_3, ka_t_4, ka_t_5, ka_t_6, ka_t_7, ka_t_8, ka_t_9, ka_t_10, ka_t_11, ka_t_12, ka_t_13, ka_t_14, ka_t_15, ka_t_16, ka_t_17, ka_t_18, ka_t_19, ka_t_20, ka_t_25, ka_t_26, ka_t_28, ka_t_30, ka_t_31, ka_t_32, ka_t_33, ka_t_37, ka_t_38, ka_t_39, ka_t_40, ka_t_41, ka_t_42, ka_t_43, ka_t_45, ka_t_47, ka_t_48, ka_t_50, ka_t_57, ka_t_60, ka_t_61, ka_t_62, ka_t_63, ka_t_64, ka_t_65, ka_t_69, ka_t_70, ka_t_71, ka_t_80, ka_t_85, ka_t_87, ka_t_98, ka_t_99, ka_t_100, ka_t_104, ka_t_107, ka_t_109, ka_t_110, ka_t_112, ka_t_115, ka_t_116, ka_t_117, ka_t_124, ka_t_125, ka_t_160, ka_t_200, ka_t_207, ka_t_255, ka_t_260, ka_t_400, ka_t_624, ka_t_625, ka_t_999, ka_t_9999, ka_t_10000, ka_t_20000, ka_t_20033, ka_t_999999, ka_t_1000000000, ka_t_m1, ka_t_m2, ka_t_m3, ka_t_m5, ka_t_m9, ka_t_m10, ka_t_m1000000000]; omega
    rw [x30_12]
    simp only [x30_0, x30_1, x30_2, x30_5, x30_6, x30_7, x30_10, x30_11, x30_13, x30_14, x30_17, x30_18, x30_21, x30_22, x30_25, x30_26, x30_27, x30_28, x30_31, x30_34, ka_kk_i, ka_kk_n, ka_cl_i, ka_cl_r, ka_cl_n, or_true, true_or, ka_ne2, ka_ne4, ka_ne5, ka_ne10, not_false_eq_true, if_true, if_false, hp, ka_sh_r2 hp, ka_sh_k1 hp, ka_sh_l1 hp, h1, hin, hc, kn_put_r]
    rw [ih (i + 1) _ _ (by omega) hi1, kn_row_row, kn_row_at]
    have e : (fun k => if i + 1 ≤ k ∧ k < 40 then 0 else kn_up (X (p + 1)) i 0 k) = (fun k => if i ≤ k ∧ k < 40 then 0 else X (p + 1) k) := by
      funext k
      by_cases hk : k = i
      · subst hk; rw [if_neg (by omega), if_pos (by omega), kn_up_at]
      · rw [kn_up_ne hk]
        by_cases hz : i + 1 ≤ k ∧ k < 40
        · rw [if_pos hz, if_pos (by omega)]
        · rw [if_neg hz, if_neg (by omega)]
    rw [e]
theorem sp_30 (hp : ka_k p = 3) {bits m : Int32} : ka_ex sc d 30 0 [.ref p, .int bits, .int m, ka_nv] [] (ka_mem X) = some (none, ka_mem (kn_row (kn_row X p (kn_up (kn_up (X p) 0 bits) 1 m)) (p + 1) (fun k => if 0 ≤ k ∧ k < 40 then 0 else X (p + 1) k))) := by
  have e1 : ∀ r, kn_row X p r (p + 1) = X (p + 1) := fun r => kn_row_off (by omega)
  simp only [x30_0, x30_1, x30_2, x30_5, x30_6, x30_7, x30_10, x30_11, ka_kk_i, ka_kk_n, ka_cl_i, ka_cl_r, ka_cl_n, or_true, true_or, ka_ne2, ka_ne4, ka_ne5, ka_ne10, not_false_eq_true, if_true, if_false, hp, kn_put_r, kn_row_at, kn_row_row]
  rw [sp_30l hp 40 0 0 _ rfl rfl, e1]
def sh_nar (bits v : Int32) : Int32 := if bits = 8 then v.toInt8.toInt32 else if bits = 16 then v.toInt16.toInt32 else v
theorem sp_31 (hp : ka_k p = 3) {i v : Int32} (hi : 0 ≤ i.toInt ∧ i.toInt < 40) : ka_ex sc d 31 0 [.ref p, .int i, .int v] [] (ka_mem X) = some (none, ka_mem (kn_row X (p + 1) (kn_up (X (p + 1)) i.toNatClampNeg (sh_nar (X p 0) v)))) := by
  have hin : ka_in i 40 := ka_inI.mpr (by omega)
  unfold sh_nar
  by_cases h8 : X p 0 = 8
  · simp only [x31_0, x31_1, x31_4, x31_5, x31_6, x31_9, x31_11, x31_14, x31_15, x31_16, x31_19, x31_20, x31_23, x31_25, x31_28, x31_29, x31_30, x31_33, x31_34, x31_35, ka_kk_i, ka_kk_n, ka_cl_i, ka_cl_r, ka_cl_n, or_true, true_or, ka_ne2, ka_ne4, ka_ne5, ka_ne10, not_false_eq_true, if_true, if_false, hp, h8, hin, ka_sh_r2 hp, ka_sh_k1 hp, ka_sh_l1 hp, kn_put_r]
  · by_cases h16 : X p 0 = 16
    · have h816 : ((16 : Int32) = 8) = False := by decide
      simp only [x31_0, x31_1, x31_4, x31_5, x31_6, x31_9, x31_11, x31_14, x31_15, x31_16, x31_19, x31_20, x31_23, x31_25, x31_28, x31_29, x31_30, x31_33, x31_34, x31_35, ka_kk_i, ka_kk_n, ka_cl_i, ka_cl_r, ka_cl_n, or_true, true_or, ka_ne2, ka_ne4, ka_ne5, ka_ne10, not_false_eq_true, if_true, if_false, hp, h816, h16, hin, ka_sh_r2 hp, ka_sh_k1 hp, ka_sh_l1 hp, kn_put_r]
    · simp only [x31_0, x31_1, x31_4, x31_5, x31_6, x31_9, x31_11, x31_14, x31_15, x31_16, x31_19, x31_20, x31_23, x31_25, x31_28, x31_29, x31_30, x31_33, x31_34, x31_35, ka_kk_i, ka_kk_n, ka_cl_i, ka_cl_r, ka_cl_n, or_true, true_or, ka_ne2, ka_ne4, ka_ne5, ka_ne10, not_false_eq_true, if_true, if_false, hp, h8, h16, hin, ka_sh_r2 hp, ka_sh_k1 hp, ka_sh_l1 hp, kn_put_r]
theorem sp_32 (hp : ka_k p = 3) {i n : Int32} (hs : 0 ≤ (X p 1).toInt) : ka_ex sc d 32 0 [.ref p, .int i, .int n] [] (ka_mem X) = some (some (.int (ka_b (0 ≤ i.toInt ∧ 0 ≤ n.toInt ∧ i.toInt + n.toInt ≤ (X p 1).toInt))), ka_mem X) := by
  by_cases hn : 0 ≤ n.toInt ∧ n.toInt ≤ (X p 1).toInt
  · have hb := ka_bd (X p 1)
    have e : (X p 1 - n).toInt = (X p 1).toInt - n.toInt := ka_sub (by omega)
    simp only [x32_0, x32_1, x32_4, x32_5, x32_8, x32_9, x32_10, x32_13, x32_16, x32_17, x32_18, x32_21, x32_22, x32_23, x32_26, x32_27, x32_30, x32_31, ka_kk_i, ka_kk_n, ka_cl_i, ka_cl_r, ka_cl_n, or_true, true_or, ka_ne2, ka_ne4, ka_ne5, ka_ne10, not_false_eq_true, if_true, if_false, hp, ka_ilt, ka_t_0, ka_t_1, ka_t_2, ka_t_3, ka_t_4, ka_t_5, ka_t_6, ka_t_7, ka_t_8, ka_t_9, ka_t_10, ka_t_11, ka_t_12, ka_t_13, ka_t_14, ka_t_15, ka_t_16, ka_t_17, ka_t_18, ka_t_19, ka_t_20, ka_t_25, ka_t_26, ka_t_28, ka_t_30, ka_t_31, ka_t_32, ka_t_33, ka_t_37, ka_t_38, ka_t_39, ka_t_40, ka_t_41, ka_t_42, ka_t_43, ka_t_45, ka_t_47, ka_t_48, ka_t_50, ka_t_57, ka_t_60, ka_t_61, ka_t_62, ka_t_63, ka_t_64, ka_t_65, ka_t_69, ka_t_70, ka_t_71, ka_t_80, ka_t_85, ka_t_87, ka_t_98, ka_t_99, ka_t_100, ka_t_104, ka_t_107, ka_t_109, ka_t_110, ka_t_112, ka_t_115, ka_t_116, ka_t_117, ka_t_124, ka_t_125, ka_t_160, ka_t_200, ka_t_207, ka_t_255, ka_t_260, ka_t_400, ka_t_624, ka_t_625, ka_t_999, ka_t_9999, ka_t_10000, ka_t_20000, ka_t_20033, ka_t_999999, ka_t_1000000000, ka_t_m1, ka_t_m2, ka_t_m3, ka_t_m5, ka_t_m9, ka_t_m10, ka_t_m1000000000, e]
    (repeat' split) <;> first | (exfalso; omega) | (rw [ka_b_t (by omega)]) | (rw [ka_b_f (by omega)])
  · simp only [x32_0, x32_1, x32_4, x32_5, x32_8, x32_9, x32_10, x32_13, x32_16, x32_17, x32_18, x32_21, x32_22, x32_23, x32_26, x32_27, x32_30, x32_31, ka_kk_i, ka_kk_n, ka_cl_i, ka_cl_r, ka_cl_n, or_true, true_or, ka_ne2, ka_ne4, ka_ne5, ka_ne10, not_false_eq_true, if_true, if_false, hp, ka_ilt, ka_t_0, ka_t_1, ka_t_2, ka_t_3, ka_t_4, ka_t_5, ka_t_6, ka_t_7, ka_t_8, ka_t_9, ka_t_10, ka_t_11, ka_t_12, ka_t_13, ka_t_14, ka_t_15, ka_t_16, ka_t_17, ka_t_18, ka_t_19, ka_t_20, ka_t_25, ka_t_26, ka_t_28, ka_t_30, ka_t_31, ka_t_32, ka_t_33, ka_t_37, ka_t_38, ka_t_39, ka_t_40, ka_t_41, ka_t_42, ka_t_43, ka_t_45, ka_t_47, ka_t_48, ka_t_50, ka_t_57, ka_t_60, ka_t_61, ka_t_62, ka_t_63, ka_t_64, ka_t_65, ka_t_69, ka_t_70, ka_t_71, ka_t_80, ka_t_85, ka_t_87, ka_t_98, ka_t_99, ka_t_100, ka_t_104, ka_t_107, ka_t_109, ka_t_110, ka_t_112, ka_t_115, ka_t_116, ka_t_117, ka_t_124, ka_t_125, ka_t_160, ka_t_200, ka_t_207, ka_t_255, ka_t_260, ka_t_400, ka_t_624, ka_t_625, ka_t_999, ka_t_9999, ka_t_10000, ka_t_20000, ka_t_20033, ka_t_999999, ka_t_1000000000, ka_t_m1, ka_t_m2, ka_t_m3, ka_t_m5, ka_t_m9, ka_t_m10, ka_t_m1000000000]
    (repeat' split) <;> first | (exfalso; omega) | (rw [ka_b_f (by omega)])
end
