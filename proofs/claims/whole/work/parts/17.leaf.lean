/-! literals -/
theorem ka_t_0 : (0 : Int32).toInt = 0 := rfl
theorem ka_t_1 : (1 : Int32).toInt = 1 := rfl
theorem ka_t_2 : (2 : Int32).toInt = 2 := rfl
theorem ka_t_3 : (3 : Int32).toInt = 3 := rfl
theorem ka_t_4 : (4 : Int32).toInt = 4 := rfl
theorem ka_t_5 : (5 : Int32).toInt = 5 := rfl
theorem ka_t_6 : (6 : Int32).toInt = 6 := rfl
theorem ka_t_7 : (7 : Int32).toInt = 7 := rfl
theorem ka_t_8 : (8 : Int32).toInt = 8 := rfl
theorem ka_t_9 : (9 : Int32).toInt = 9 := rfl
theorem ka_t_10 : (10 : Int32).toInt = 10 := rfl
theorem ka_t_11 : (11 : Int32).toInt = 11 := rfl
theorem ka_t_12 : (12 : Int32).toInt = 12 := rfl
theorem ka_t_13 : (13 : Int32).toInt = 13 := rfl
theorem ka_t_14 : (14 : Int32).toInt = 14 := rfl
theorem ka_t_15 : (15 : Int32).toInt = 15 := rfl
theorem ka_t_16 : (16 : Int32).toInt = 16 := rfl
theorem ka_t_17 : (17 : Int32).toInt = 17 := rfl
theorem ka_t_18 : (18 : Int32).toInt = 18 := rfl
theorem ka_t_19 : (19 : Int32).toInt = 19 := rfl
theorem ka_t_20 : (20 : Int32).toInt = 20 := rfl
theorem ka_t_25 : (25 : Int32).toInt = 25 := rfl
theorem ka_t_26 : (26 : Int32).toInt = 26 := rfl
theorem ka_t_28 : (28 : Int32).toInt = 28 := rfl
theorem ka_t_30 : (30 : Int32).toInt = 30 := rfl
theorem ka_t_31 : (31 : Int32).toInt = 31 := rfl
theorem ka_t_32 : (32 : Int32).toInt = 32 := rfl
theorem ka_t_33 : (33 : Int32).toInt = 33 := rfl
theorem ka_t_37 : (37 : Int32).toInt = 37 := rfl
theorem ka_t_38 : (38 : Int32).toInt = 38 := rfl
theorem ka_t_39 : (39 : Int32).toInt = 39 := rfl
theorem ka_t_40 : (40 : Int32).toInt = 40 := rfl
theorem ka_t_41 : (41 : Int32).toInt = 41 := rfl
theorem ka_t_42 : (42 : Int32).toInt = 42 := rfl
theorem ka_t_43 : (43 : Int32).toInt = 43 := rfl
theorem ka_t_45 : (45 : Int32).toInt = 45 := rfl
theorem ka_t_47 : (47 : Int32).toInt = 47 := rfl
theorem ka_t_48 : (48 : Int32).toInt = 48 := rfl
theorem ka_t_50 : (50 : Int32).toInt = 50 := rfl
theorem ka_t_57 : (57 : Int32).toInt = 57 := rfl
theorem ka_t_60 : (60 : Int32).toInt = 60 := rfl
theorem ka_t_61 : (61 : Int32).toInt = 61 := rfl
theorem ka_t_62 : (62 : Int32).toInt = 62 := rfl
theorem ka_t_63 : (63 : Int32).toInt = 63 := rfl
theorem ka_t_64 : (64 : Int32).toInt = 64 := rfl
theorem ka_t_65 : (65 : Int32).toInt = 65 := rfl
theorem ka_t_69 : (69 : Int32).toInt = 69 := rfl
theorem ka_t_70 : (70 : Int32).toInt = 70 := rfl
theorem ka_t_71 : (71 : Int32).toInt = 71 := rfl
theorem ka_t_80 : (80 : Int32).toInt = 80 := rfl
theorem ka_t_85 : (85 : Int32).toInt = 85 := rfl
theorem ka_t_87 : (87 : Int32).toInt = 87 := rfl
theorem ka_t_98 : (98 : Int32).toInt = 98 := rfl
theorem ka_t_99 : (99 : Int32).toInt = 99 := rfl
theorem ka_t_100 : (100 : Int32).toInt = 100 := rfl
theorem ka_t_104 : (104 : Int32).toInt = 104 := rfl
theorem ka_t_107 : (107 : Int32).toInt = 107 := rfl
theorem ka_t_109 : (109 : Int32).toInt = 109 := rfl
theorem ka_t_110 : (110 : Int32).toInt = 110 := rfl
theorem ka_t_112 : (112 : Int32).toInt = 112 := rfl
theorem ka_t_115 : (115 : Int32).toInt = 115 := rfl
theorem ka_t_116 : (116 : Int32).toInt = 116 := rfl
theorem ka_t_117 : (117 : Int32).toInt = 117 := rfl
theorem ka_t_124 : (124 : Int32).toInt = 124 := rfl
theorem ka_t_125 : (125 : Int32).toInt = 125 := rfl
theorem ka_t_160 : (160 : Int32).toInt = 160 := rfl
theorem ka_t_200 : (200 : Int32).toInt = 200 := rfl
theorem ka_t_207 : (207 : Int32).toInt = 207 := rfl
theorem ka_t_255 : (255 : Int32).toInt = 255 := rfl
theorem ka_t_260 : (260 : Int32).toInt = 260 := rfl
theorem ka_t_400 : (400 : Int32).toInt = 400 := rfl
theorem ka_t_624 : (624 : Int32).toInt = 624 := rfl
theorem ka_t_625 : (625 : Int32).toInt = 625 := rfl
theorem ka_t_999 : (999 : Int32).toInt = 999 := rfl
theorem ka_t_9999 : (9999 : Int32).toInt = 9999 := rfl
theorem ka_t_10000 : (10000 : Int32).toInt = 10000 := rfl
theorem ka_t_20000 : (20000 : Int32).toInt = 20000 := rfl
theorem ka_t_20033 : (20033 : Int32).toInt = 20033 := rfl
theorem ka_t_999999 : (999999 : Int32).toInt = 999999 := rfl
theorem ka_t_1000000000 : (1000000000 : Int32).toInt = 1000000000 := rfl
theorem ka_t_m1 : (-1 : Int32).toInt = -1 := rfl
theorem ka_t_m2 : (-2 : Int32).toInt = -2 := rfl
theorem ka_t_m3 : (-3 : Int32).toInt = -3 := rfl
theorem ka_t_m5 : (-5 : Int32).toInt = -5 := rfl
theorem ka_t_m9 : (-9 : Int32).toInt = -9 := rfl
theorem ka_t_m10 : (-10 : Int32).toInt = -10 := rfl
theorem ka_t_m1000000000 : (-1000000000 : Int32).toInt = -1000000000 := rfl
theorem ka_c_0 : (0 : Int32).toNatClampNeg = 0 := rfl
theorem ka_c_1 : (1 : Int32).toNatClampNeg = 1 := rfl
theorem ka_c_2 : (2 : Int32).toNatClampNeg = 2 := rfl
theorem ka_c_3 : (3 : Int32).toNatClampNeg = 3 := rfl
theorem ka_c_4 : (4 : Int32).toNatClampNeg = 4 := rfl
theorem ka_c_5 : (5 : Int32).toNatClampNeg = 5 := rfl
theorem ka_c_6 : (6 : Int32).toNatClampNeg = 6 := rfl
theorem ka_c_7 : (7 : Int32).toNatClampNeg = 7 := rfl
theorem ka_c_8 : (8 : Int32).toNatClampNeg = 8 := rfl
theorem ka_c_9 : (9 : Int32).toNatClampNeg = 9 := rfl
theorem ka_c_10 : (10 : Int32).toNatClampNeg = 10 := rfl
theorem ka_c_11 : (11 : Int32).toNatClampNeg = 11 := rfl
theorem ka_c_12 : (12 : Int32).toNatClampNeg = 12 := rfl
theorem ka_c_13 : (13 : Int32).toNatClampNeg = 13 := rfl
theorem ka_c_14 : (14 : Int32).toNatClampNeg = 14 := rfl
theorem ka_c_15 : (15 : Int32).toNatClampNeg = 15 := rfl
theorem ka_c_16 : (16 : Int32).toNatClampNeg = 16 := rfl
theorem ka_c_17 : (17 : Int32).toNatClampNeg = 17 := rfl
theorem ka_c_18 : (18 : Int32).toNatClampNeg = 18 := rfl
theorem ka_c_19 : (19 : Int32).toNatClampNeg = 19 := rfl
theorem ka_c_20 : (20 : Int32).toNatClampNeg = 20 := rfl
theorem ka_c_28 : (28 : Int32).toNatClampNeg = 28 := rfl
theorem ka_c_40 : (40 : Int32).toNatClampNeg = 40 := rfl
theorem ka_c_50 : (50 : Int32).toNatClampNeg = 50 := rfl
theorem ka_c_87 : (87 : Int32).toNatClampNeg = 87 := rfl
/-! specs: what the small functions answer -/
/-- a truth as a number -/
def ka_b (P : Prop) [Decidable P] : Int32 := if P then 1 else 0
theorem ka_b_0 {P : Prop} [Decidable P] : (ka_b P = 0) = ¬ P := by
  unfold ka_b
  by_cases h : P <;> simp [h]
theorem ka_b_01 {P : Prop} [Decidable P] : ka_b P = 0 ∨ ka_b P = 1 := by
  unfold ka_b
  by_cases h : P <;> simp [h]
theorem ka_b_t {P : Prop} [Decidable P] (h : P) : ka_b P = 1 := if_pos h
theorem ka_b_f {P : Prop} [Decidable P] (h : ¬ P) : ka_b P = 0 := if_neg h
theorem ka_ilt {a b : Int32} : a < b ↔ a.toInt < b.toInt := Int32.lt_iff_toInt_lt
theorem ka_ile {a b : Int32} : a ≤ b ↔ a.toInt ≤ b.toInt := Int32.le_iff_toInt_le
theorem ka_ieq {a b : Int32} : a = b ↔ a.toInt = b.toInt := Int32.toInt_inj.symm
theorem ka_i64 {a : Int32} : a.toInt64.toInt = a.toInt := Int32.toInt_toInt64 a
theorem ka_l0 : (0 : Int64).toInt = 0 := rfl
theorem ka_llt {a b : Int64} : a < b ↔ a.toInt < b.toInt := Int64.lt_iff_toInt_lt
theorem ka_lcmp_lt {a b : Int64} : lg_cmp a b < 0 ↔ a.toInt < b.toInt := by
  rw [← ka_llt]
  unfold lg_cmp
  by_cases h1 : a > b
  · rw [if_pos h1]
    have h2 : ¬ a < b := by rw [ka_llt]; have := ka_llt.mp h1; omega
    simp [h2]
  · rw [if_neg h1]
    by_cases h2 : a = b
    · subst h2; rw [if_pos rfl]; simp
    · rw [if_neg h2]
      have h3 : a < b := by
        rw [ka_llt]
        have h4 : ¬ b.toInt < a.toInt := fun q => h1 (ka_llt.mpr q)
        have h5 : ¬ a.toInt = b.toInt := fun q => h2 (Int64.toInt_inj.mp q)
        omega
      simp [h3]
theorem ka_lcmp_gt {a b : Int64} : 0 < lg_cmp a b ↔ b.toInt < a.toInt := by
  rw [← ka_llt]
  unfold lg_cmp
  by_cases h1 : a > b
  · rw [if_pos h1]; simp; exact h1
  · rw [if_neg h1]
    have h1' : ¬ b < a := h1
    by_cases h2 : a = b
    · rw [if_pos h2]; simp [h1']
    · rw [if_neg h2]; simp [h1']
theorem ka_ne2 : ((2 : Int32) = 0) = False := by decide
theorem ka_ne4 : ((4 : Int32) = 0) = False := by decide
theorem ka_ne5 : ((5 : Int32) = 0) = False := by decide
theorem ka_ne10 : ((10 : Int32) = 0) = False := by decide
section
variable {sc : aS} {d : Nat} {h : aH} {X : ka_X}
theorem sp_106 {v lo hi : Int32} : ka_ex sc d 106 0 [.int v, .int lo, .int hi] [] h = some (some (.int (ka_b (lo.toInt ≤ v.toInt ∧ v.toInt ≤ hi.toInt))), h) := by
  simp only [x106_0, x106_1, x106_2, x106_5, x106_6, x106_7, x106_10, x106_11, x106_14, x106_15, ka_kk_i, ka_kk_n, ka_cl_i, ka_cl_r, ka_cl_n, or_true, true_or, ka_ne2, ka_ne4, ka_ne5, ka_ne10, not_false_eq_true, if_true, if_false, ka_ilt]
  (repeat' split) <;> first | (rw [ka_b_t (by omega)]) | (rw [ka_b_f (by omega)])
theorem sp_107 {v lo hi : Int32} : ka_ex sc (d + 1) 107 0 [.int v, .int lo, .int hi] [] h = some (some (.int (if lo < (if v < hi then v else hi) then (if v < hi then v else hi) else lo)), h) := by
  simp only [x107_0, x107_1, x107_2, x107_3, x107_6, x107_9, ka_kk_i, ka_kk_n, ka_cl_i, ka_cl_r, ka_cl_n, or_true, true_or, ka_ne2, ka_ne4, ka_ne5, ka_ne10, not_false_eq_true, if_true, if_false]
theorem sp_109 {v : Int32} : ka_ex sc (d + 1) 109 0 [.int v] [] h = some (some (.int (ka_b (0 ≤ v.toInt ∧ v.toInt ≤ 3))), h) := by
  simp only [x109_0, x109_1, x109_2, x109_3, x109_6, ka_kk_i, ka_kk_n, ka_cl_i, ka_cl_r, ka_cl_n, or_true, true_or, ka_ne2, ka_ne4, ka_ne5, ka_ne10, not_false_eq_true, if_true, if_false, sp_106, ka_b_01]
  rfl
theorem sp_117 {v lo hi : Int64} {a1 a3 a5 : Value} : ka_ex sc d 117 0 [.long v, a1, .long lo, a3, .long hi, a5] [] h = some (some (.int (ka_b (lo.toInt ≤ v.toInt ∧ v.toInt ≤ hi.toInt))), h) := by
  simp only [x117_0, x117_1, x117_2, x117_3, x117_6, x117_7, x117_9, x117_10, x117_13, x117_14, x117_17, x117_18, ka_kk_i, ka_kk_n, ka_cl_i, ka_cl_r, ka_cl_n, or_true, true_or, ka_ne2, ka_ne4, ka_ne5, ka_ne10, not_false_eq_true, if_true, if_false, ka_lcmp_lt, ka_lcmp_gt]
  (repeat' split) <;> first | (rw [ka_b_t (by omega)]) | (rw [ka_b_f (by omega)])
theorem sp_110 {v : Int32} : ka_ex sc d 110 0 [.int v] [] h = some (some (.int (ka_b (v.toInt = 0 ∨ v.toInt = 1))), h) := by
  simp only [x110_0, x110_1, x110_4, x110_5, x110_6, x110_9, x110_10, x110_13, x110_14, ka_kk_i, ka_kk_n, ka_cl_i, ka_cl_r, ka_cl_n, or_true, true_or, ka_ne2, ka_ne4, ka_ne5, ka_ne10, not_false_eq_true, if_true, if_false, ka_ieq, ka_t_0, ka_t_1, ka_t_2, ka_t_3, ka_t_4, ka_t_5, ka_t_6, ka_t_7, ka_t_8, ka_t_9, ka_t_10, ka_t_11, ka_t_12, ka_t_13, ka_t_14, ka_t_15, ka_t_16, ka_t_17, ka_t_18, ka_t_19, ka_t_20, ka_t_25, ka_t_26, ka_t_28, ka_t_30, ka_t_31, ka_t_32, ka_t_33, ka_t_37, ka_t_38, ka_t_39, ka_t_40, ka_t_41, ka_t_42, ka_t_43, ka_t_45, ka_t_47, ka_t_48, ka_t_50, ka_t_57, ka_t_60, ka_t_61, ka_t_62, ka_t_63, ka_t_64, ka_t_65, ka_t_69, ka_t_70, ka_t_71, ka_t_80, ka_t_85, ka_t_87, ka_t_98, ka_t_99, ka_t_100, ka_t_104, ka_t_107, ka_t_109, ka_t_110, ka_t_112, ka_t_115, ka_t_116, ka_t_117, ka_t_124, ka_t_125, ka_t_160, ka_t_200, ka_t_207, ka_t_255, ka_t_260, ka_t_400, ka_t_624, ka_t_625, ka_t_999, ka_t_9999, ka_t_10000, ka_t_20000, ka_t_20033, ka_t_999999, ka_t_1000000000, ka_t_m1, ka_t_m2, ka_t_m3, ka_t_m5, ka_t_m9, ka_t_m10, ka_t_m1000000000]
  (repeat' split) <;> first | (rw [ka_b_t (by omega)]) | (rw [ka_b_f (by omega)])
theorem sp_111 {v : Int32} : ka_ex sc (d + 1) 111 0 [.int v] [] h = some (some (.int (ka_b (0 ≤ v.toInt ∧ v.toInt ≤ 400))), h) := by
  simp only [x111_0, x111_1, x111_2, x111_5, x111_8, ka_kk_i, ka_kk_n, ka_cl_i, ka_cl_r, ka_cl_n, or_true, true_or, ka_ne2, ka_ne4, ka_ne5, ka_ne10, not_false_eq_true, if_true, if_false, sp_106, ka_b_01]
  rfl
theorem sp_112 {v : Int32} : ka_ex sc (d + 1) 112 0 [.int v] [] h = some (some (.int (ka_b (0 ≤ v.toInt ∧ v.toInt ≤ 3))), h) := by
  simp only [x112_0, x112_1, x112_2, x112_3, x112_6, ka_kk_i, ka_kk_n, ka_cl_i, ka_cl_r, ka_cl_n, or_true, true_or, ka_ne2, ka_ne4, ka_ne5, ka_ne10, not_false_eq_true, if_true, if_false, sp_106, ka_b_01]
  rfl
theorem sp_113 {v : Int32} : ka_ex sc d 113 0 [.int v] [] h = some (some (.int (ka_b (v.toInt = 0 ∨ v.toInt = 8 ∨ v.toInt = 16 ∨ v.toInt = 32))), h) := by
  simp only [x113_0, x113_1, x113_4, x113_5, x113_7, x113_10, x113_11, x113_13, x113_16, x113_17, x113_19, x113_22, x113_23, x113_26, x113_27, ka_kk_i, ka_kk_n, ka_cl_i, ka_cl_r, ka_cl_n, or_true, true_or, ka_ne2, ka_ne4, ka_ne5, ka_ne10, not_false_eq_true, if_true, if_false, ka_ieq, ka_t_0, ka_t_1, ka_t_2, ka_t_3, ka_t_4, ka_t_5, ka_t_6, ka_t_7, ka_t_8, ka_t_9, ka_t_10, ka_t_11, ka_t_12, ka_t_13, ka_t_14, ka_t_15, ka_t_16, ka_t_17, ka_t_18, ka_t_19, ka_t_20, ka_t_25, ka_t_26, ka_t_28, ka_t_30, ka_t_31, ka_t_32, ka_t_33, ka_t_37, ka_t_38, ka_t_39, ka_t_40, ka_t_41, ka_t_42, ka_t_43, ka_t_45, ka_t_47, ka_t_48, ka_t_50, ka_t_57, ka_t_60, ka_t_61, ka_t_62, ka_t_63, ka_t_64, ka_t_65, ka_t_69, ka_t_70, ka_t_71, ka_t_80, ka_t_85, ka_t_87, ka_t_98, ka_t_99, ka_t_100, ka_t_104, ka_t_107, ka_t_109, ka_t_110, ka_t_112, ka_t_115, ka_t_116, ka_t_117, ka_t_124, ka_t_125, ka_t_160, ka_t_200, ka_t_207, ka_t_255, ka_t_260, ka_t_400, ka_t_624, ka_t_625, ka_t_999, ka_t_9999, ka_t_10000, ka_t_20000, ka_t_20033, ka_t_999999, ka_t_1000000000, ka_t_m1, ka_t_m2, ka_t_m3, ka_t_m5, ka_t_m9, ka_t_m10, ka_t_m1000000000]
  (repeat' split) <;> first | (rw [ka_b_t (by omega)]) | (rw [ka_b_f (by omega)])
theorem sp_118 {v lo hi : Int32} : ka_ex sc d 118 0 [.int v, .int lo, .int hi] [] h = some (some (.int (if v < lo then lo else if hi < v then hi else v)), h) := by
  simp only [x118_0, x118_1, x118_2, x118_5, x118_6, x118_9, x118_10, x118_11, x118_14, x118_15, x118_18, x118_19, ka_kk_i, ka_kk_n, ka_cl_i, ka_cl_r, ka_cl_n, or_true, true_or, ka_ne2, ka_ne4, ka_ne5, ka_ne10, not_false_eq_true, if_true, if_false]
  (repeat' split) <;> rfl
theorem sp_119 {a b : Int32} : ka_ex sc d 119 0 [.int a, .int b] [] h = some (some (.int (if a < b then a else b)), h) := by
  simp only [x119_0, x119_1, x119_2, x119_5, x119_6, x119_9, x119_10, ka_kk_i, ka_kk_n, ka_cl_i, ka_cl_r, ka_cl_n, or_true, true_or, ka_ne2, ka_ne4, ka_ne5, ka_ne10, not_false_eq_true, if_true, if_false]
  (repeat' split) <;> rfl
theorem sp_191 {v : Int32} : ka_ex sc (d + 1) 191 0 [.int v] [] h = some (some (.int (ka_b (0 ≤ v.toInt ∧ v.toInt ≤ 3))), h) := by
  simp only [x191_0, x191_1, x191_2, x191_3, x191_6, x191_9, ka_kk_i, ka_kk_n, ka_cl_i, ka_cl_r, ka_cl_n, or_true, true_or, ka_ne2, ka_ne4, ka_ne5, ka_ne10, not_false_eq_true, if_true, if_false, sp_117, ka_b_01, ka_i64, ka_l0]
  rfl
end
