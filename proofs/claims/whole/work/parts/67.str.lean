/-! the string of the names: where a byte stands in it -/
theorem nI_s {n : Nat} : nI (n + 1) = nI n + 1 := Int32.ofNat_add n 1
theorem nI_p {n : Nat} : nI (n + 1) - 1 = nI n := by rw [nI_s, Int32.add_sub_cancel]
/-- how tightly a sign binds -/
def rk (c : Int32) : Nat := if c = 33 then 6 else if c = 37 then 5 else if c = 38 then 2 else if c = 42 then 5 else if c = 43 then 4 else if c = 45 then 4 else if c = 47 then 5 else if c = 60 then 3 else if c = 61 then 3 else if c = 62 then 3 else if c = 124 then 1 else 0
theorem rk_6 {c : Int32} : rk c ≤ 6 := by
  unfold rk
  (repeat' split) <;> omega
/-- which name -/
def nmx (k c : Int32) : Int32 := if k = 0 then (if c = 117 then 0 else if c = 115 then 1 else if c = 116 then 2 else if c = 109 then 3 else -1) else (if c = 98 then 0 else if c = 110 then 1 else if c = 112 then 2 else if c = 104 then 3 else -1)
theorem ka_bm8 (x : Int) : x.bmod (2 ^ 8) = if x % 256 < 128 then x % 256 else x % 256 - 256 := rfl
theorem ka_i8 {c : Int32} (h : 0 ≤ c.toInt ∧ c.toInt ≤ 255) (k : Int32) (hk : 0 ≤ k.toInt ∧ k.toInt < 128) : (k = c.toInt8.toInt32) = (c = k) := by
  apply propext
  have e : c.toInt8.toInt32.toInt = if c.toInt % 256 < 128 then c.toInt % 256 else c.toInt % 256 - 256 := by rw [Int8.toInt_toInt32, Int32.toInt_toInt8, ka_bm8]
  constructor
  · intro q
    apply ka_eq_lit
    rw [← q] at e
    split at e <;> omega
  · intro q
    subst q
    apply ka_eq_lit
    rw [e]
    split <;> omega
theorem ka_chr {a : Int32} (h : 0 ≤ a.toInt ∧ a.toInt ≤ 255) : (a.toUInt32 % 65536).toInt32 = a := by
  obtain ⟨k, rfl, hk⟩ := ka_isI h.1 (show a.toInt < 256 by omega)
  have h3 : k < 256 := by omega
  apply Int32.toBitVec_inj.mp
  apply BitVec.eq_of_toNat_eq
  show ((BitVec.ofNat 32 k) % 65536#32).toNat = (BitVec.ofNat 32 k).toNat
  rw [BitVec.toNat_umod, BitVec.toNat_ofNat]
  have : (65536#32).toNat = 65536 := by decide
  rw [this]
  omega
theorem ka_lb9 : ka_lk ka_RB 1009 = some (4, fun j => ([117, 115, 116, 109] : List Int32).getD j 0) := rfl
theorem ka_lb10 : ka_lk ka_RB 1010 = some (4, fun j => ([98, 110, 112, 104] : List Int32).getD j 0) := rfl
theorem ka_j4 : ka_in 0 4 ∧ ka_in 1 4 ∧ ka_in 2 4 ∧ ka_in 3 4 := ⟨ka_inI.mpr (by decide), ka_inI.mpr (by decide), ka_inI.mpr (by decide), ka_inI.mpr (by decide)⟩
theorem ka_u1 : (0 : Int32) + 1 = 1 := by decide
theorem ka_u2 : (1 : Int32) + 1 = 2 := by decide
theorem ka_u3 : (2 : Int32) + 1 = 3 := by decide
theorem ka_u4 : (3 : Int32) + 1 = 4 := by decide
theorem ka_v1 : ((0 : Int32) < 4) = True := by decide
theorem ka_v2 : ((1 : Int32) < 4) = True := by decide
theorem ka_v3 : ((2 : Int32) < 4) = True := by decide
theorem ka_v4 : ((3 : Int32) < 4) = True := by decide
theorem ka_v5 : ((4 : Int32) < 4) = False := by decide
theorem ka_v6 : ((0 : Int32) < 0) = False := by decide
section
variable {sc : aS} {d : Nat} {h : aH}
theorem sp_20 {x : Int32} : ka_ex sc d 20 0 [.int x] [] h = some (some (.int (nI (rk x))), h) := by
  simp only [x20_0, x20_1, x20_100, x20_101, x20_102, x20_103, x20_104, x20_105, x20_106, x20_107, x20_108, x20_109, x20_110, x20_112, x20_113, x20_114, ka_kk_i, ka_kk_n, ka_cl_i, ka_cl_r, ka_cl_n, or_true, true_or, ka_ne2, ka_ne4, ka_ne5, ka_ne10, not_false_eq_true, not_true_eq_false, if_true, if_false, rk]
  (repeat' split) <;> rfl
theorem sp_21 {x : Int32} : ka_ex sc d 21 0 [.int x] [] h = some (some (.int (ka_b (48 ≤ x.toInt ∧ x.toInt ≤ 57))), h) := by
  simp only [x21_0, x21_1, x21_3, x21_6, x21_7, x21_9, x21_12, x21_13, x21_16, x21_17, ka_kk_i, ka_kk_n, ka_cl_i, ka_cl_r, ka_cl_n, or_true, true_or, ka_ne2, ka_ne4, ka_ne5, ka_ne10, not_false_eq_true, not_true_eq_false, if_true, if_false, ka_ilt, ka_t_0, ka_t_1, ka_t_2, ka_t_3, ka_t_4, ka_t_5, ka_t_6, ka_t_7, ka_t_8, ka_t_9, ka_t_10, ka_t_11, ka_t_12, ka_t_13, ka_t_14, ka_t_15, ka_t_16, ka_t_17, ka_t_18, ka_t_19, ka_t_20, ka_t_25, ka_t_26, ka_t_28, ka_t_30, ka_t_31, ka_t_32, ka_t_33, ka_t_37, ka_t_38, ka_t_39, ka_t_40, ka_t_41, ka_t_42, ka_t_43, ka_t_45, ka_t_47, ka_t_48, ka_t_50, ka_t_57, ka_t_60, ka_t_61, ka_t_62, ka_t_63, ka_t_64, ka_t_65, ka_t_69, ka_t_70, ka_t_71, ka_t_80, ka_t_85, ka_t_87, ka_t_98, ka_t_99, ka_t_100, ka_t_104, ka_t_107, ka_t_109, ka_t_110, ka_t_112, ka_t_115, ka_t_116, ka_t_117, ka_t_124, ka_t_125, ka_t_160, ka_t_200, ka_t_207, ka_t_255, ka_t_260, ka_t_400, ka_t_624, ka_t_625, ka_t_999, ka_t_9999, ka_t_10000, ka_t_20000, ka_t_20033, ka_t_999999, ka_t_1000000000, ka_t_m1, ka_t_m2, ka_t_m3, ka_t_m5, ka_t_m9, ka_t_m10, ka_t_m1000000000]
  (repeat' split) <;> first | (exfalso; omega) | (rw [ka_b_t (by omega)]) | (rw [ka_b_f (by omega)])
theorem sp_206_7 : ka_ex sc d 206 0 [.ref 1007] [] h = some (some (.int 0), h) := by
  simp only [x206_0, x206_3, x206_6, x206_7_1007, x206_10, x206_14, ka_kk_i, ka_kk_n, ka_cl_i, ka_cl_r, ka_cl_n, or_true, true_or, ka_ne2, ka_ne4, ka_ne5, ka_ne10, not_false_eq_true, not_true_eq_false, if_true, if_false, ka_one0]
theorem sp_206_8 : ka_ex sc d 206 0 [.ref 1008] [] h = some (some (.int 0), h) := by
  simp only [x206_0, x206_3, x206_6, x206_7_1008, x206_10, x206_14, ka_kk_i, ka_kk_n, ka_cl_i, ka_cl_r, ka_cl_n, or_true, true_or, ka_ne2, ka_ne4, ka_ne5, ka_ne10, not_false_eq_true, not_true_eq_false, if_true, if_false, ka_one0]
theorem sp_207_7 : ka_ex sc d 207 0 [.ref 1007] [] h = some (some (.int 1), h) := by
  simp only [x207_0, x207_3, x207_6, x207_7_1007, x207_10, x207_13, x207_14, x207_18, ka_kk_i, ka_kk_n, ka_cl_i, ka_cl_r, ka_cl_n, or_true, true_or, ka_ne2, ka_ne4, ka_ne5, ka_ne10, not_false_eq_true, not_true_eq_false, if_true, if_false, ka_one0]
theorem sp_207_8 : ka_ex sc d 207 0 [.ref 1008] [] h = some (some (.int 1), h) := by
  simp only [x207_0, x207_3, x207_6, x207_7_1008, x207_10, x207_13, x207_14, x207_18, ka_kk_i, ka_kk_n, ka_cl_i, ka_cl_r, ka_cl_n, or_true, true_or, ka_ne2, ka_ne4, ka_ne5, ka_ne10, not_false_eq_true, not_true_eq_false, if_true, if_false, ka_one0]
theorem ka_shr4 : (4 : Int32) >>> ((0 : Int32) &&& 31) = 4 := by decide
theorem sp_203_7 : ka_ex sc (d + 1) 203 0 [.ref 1007] [] h = some (some (.int 4), h) := by
  simp only [x203_0, x203_1_1007, x203_4_1009, x203_5, x203_6 (Or.inl rfl), x203_9, x203_10, sp_206_7, ka_shr4, ka_kk_i, ka_kk_n, ka_cl_i, ka_cl_r, ka_cl_n, or_true, true_or, ka_ne2, ka_ne4, ka_ne5, ka_ne10, not_false_eq_true, not_true_eq_false, if_true, if_false]
theorem sp_203_8 : ka_ex sc (d + 1) 203 0 [.ref 1008] [] h = some (some (.int 4), h) := by
  simp only [x203_0, x203_1_1008, x203_4_1010, x203_5, x203_6 (Or.inr rfl), x203_9, x203_10, sp_206_8, ka_shr4, ka_kk_i, ka_kk_n, ka_cl_i, ka_cl_r, ka_cl_n, or_true, true_or, ka_ne2, ka_ne4, ka_ne5, ka_ne10, not_false_eq_true, not_true_eq_false, if_true, if_false]
theorem sp_208 {c : Int32} (hc : 0 ≤ c.toInt ∧ c.toInt ≤ 255) : ka_ex sc d 208 0 [.int c] [] h = some (some (.int 1), h) := by
  have h1 : ¬ c < 0 := by rw [ka_ilt]; simp only [ka_t_0, ka_t_1, ka_t_2, ka_t_3, ka_t_4, ka_t_5, ka_t_6, ka_t_7, ka_t_8, ka_t_9, ka_t_10, ka_t_11, ka_t_12, ka_t_13, ka_t_14, ka_t_15, ka_t_16, ka_t_17, ka_t_18, ka_t_19, ka_t_20, ka_t_25, ka_t_26, ka_t_28, ka_t_30, ka_t_31, ka_t_32, ka_t_33, ka_t_37, ka_t_38, ka_t_39, ka_t_40, ka_t_41, ka_t_42, ka_t_43, ka_t_45, ka_t_47, ka_t_48, ka_t_50, ka_t_57, ka_t_60, ka_t_61, ka_t_62, ka_t_63, ka_t_64, ka_t_65, ka_t_69, ka_t_70, ka_t_71, ka_t_80, ka_t_85, ka_t_87, ka_t_98, ka_t_99, ka_t_100, ka_t_104, ka_t_107, ka_t_109, ka_t_110, ka_t_112, ka_t_115, ka_t_116, ka_t_117, ka_t_124, ka_t_125, ka_t_160, ka_t_200, ka_t_207, ka_t_255, ka_t_260, ka_t_400, ka_t_624, ka_t_625, ka_t_999, ka_t_9999, ka_t_10000, ka_t_20000, ka_t_20033, ka_t_999999, ka_t_1000000000, ka_t_m1, ka_t_m2, ka_t_m3, ka_t_m5, ka_t_m9, ka_t_m10, ka_t_m1000000000]; omega
  have h2 : ¬ 255 < c := by rw [ka_ilt]; simp only [ka_t_0, ka_t_1, ka_t_2, ka_t_3, ka_t_4, ka_t_5, ka_t_6, ka_t_7, ka_t_8, ka_t_9, ka_t_10, ka_t_11, ka_t_12, ka_t_13, ka_t_14, ka_t_15, ka_t_16, ka_t_17, ka_t_18, ka_t_19, ka_t_20, ka_t_25, ka_t_26, ka_t_28, ka_t_30, ka_t_31, ka_t_32, ka_t_33, ka_t_37, ka_t_38, ka_t_39, ka_t_40, ka_t_41, ka_t_42, ka_t_43, ka_t_45, ka_t_47, ka_t_48, ka_t_50, ka_t_57, ka_t_60, ka_t_61, ka_t_62, ka_t_63, ka_t_64, ka_t_65, ka_t_69, ka_t_70, ka_t_71, ka_t_80, ka_t_85, ka_t_87, ka_t_98, ka_t_99, ka_t_100, ka_t_104, ka_t_107, ka_t_109, ka_t_110, ka_t_112, ka_t_115, ka_t_116, ka_t_117, ka_t_124, ka_t_125, ka_t_160, ka_t_200, ka_t_207, ka_t_255, ka_t_260, ka_t_400, ka_t_624, ka_t_625, ka_t_999, ka_t_9999, ka_t_10000, ka_t_20000, ka_t_20033, ka_t_999999, ka_t_1000000000, ka_t_m1, ka_t_m2, ka_t_m3, ka_t_m5, ka_t_m9, ka_t_m10, ka_t_m1000000000]; omega
  simp only [x208_0, x208_1, x208_4, x208_5, x208_8, x208_11, x208_12, x208_15, x208_16, ka_kk_i, ka_kk_n, ka_cl_i, ka_cl_r, ka_cl_n, or_true, true_or, ka_ne2, ka_ne4, ka_ne5, ka_ne10, not_false_eq_true, not_true_eq_false, if_true, if_false, h1, h2]
theorem sp_210_9 {c a : Int32} : ka_ex sc d 210 0 [.ref 1009, .int c, .int 0, .int 4, ka_nv, ka_nv] [] h = some (some (.int (if 117 = c.toInt8.toInt32 then 0 else if 115 = c.toInt8.toInt32 then 1 else if 116 = c.toInt8.toInt32 then 2 else if 109 = c.toInt8.toInt32 then 3 else -1)), h) := by
  simp only [x210_0, x210_1, x210_2, x210_4, x210_5, x210_7, x210_9, x210_10, x210_13, x210_14, x210_16 ka_lb9, x210_17, x210_19, x210_22, x210_24, x210_25, x210_28, x210_31, x210_32, ka_kk_i, ka_kk_n, ka_cl_i, ka_cl_r, ka_cl_n, or_true, true_or, ka_ne2, ka_ne4, ka_ne5, ka_ne10, not_false_eq_true, not_true_eq_false, if_true, if_false, ka_c_0, ka_c_1, ka_c_2, ka_c_3, ka_c_4, ka_c_5, ka_c_6, ka_c_7, ka_c_8, ka_c_9, ka_c_10, ka_c_11, ka_c_12, ka_c_13, ka_c_14, ka_c_15, ka_c_16, ka_c_17, ka_c_18, ka_c_19, ka_c_20, ka_c_28, ka_c_40, ka_c_50, ka_c_87, ka_j4, ka_u1, ka_u2, ka_u3, ka_u4, ka_v1, ka_v2, ka_v3, ka_v4, ka_v5, List.getD_cons_zero, List.getD_cons_succ]
  (repeat' split) <;> rfl
theorem sp_210_10 {c a : Int32} : ka_ex sc d 210 0 [.ref 1010, .int c, .int 0, .int 4, ka_nv, ka_nv] [] h = some (some (.int (if 98 = c.toInt8.toInt32 then 0 else if 110 = c.toInt8.toInt32 then 1 else if 112 = c.toInt8.toInt32 then 2 else if 104 = c.toInt8.toInt32 then 3 else -1)), h) := by
  simp only [x210_0, x210_1, x210_2, x210_4, x210_5, x210_7, x210_9, x210_10, x210_13, x210_14, x210_16 ka_lb10, x210_17, x210_19, x210_22, x210_24, x210_25, x210_28, x210_31, x210_32, ka_kk_i, ka_kk_n, ka_cl_i, ka_cl_r, ka_cl_n, or_true, true_or, ka_ne2, ka_ne4, ka_ne5, ka_ne10, not_false_eq_true, not_true_eq_false, if_true, if_false, ka_c_0, ka_c_1, ka_c_2, ka_c_3, ka_c_4, ka_c_5, ka_c_6, ka_c_7, ka_c_8, ka_c_9, ka_c_10, ka_c_11, ka_c_12, ka_c_13, ka_c_14, ka_c_15, ka_c_16, ka_c_17, ka_c_18, ka_c_19, ka_c_20, ka_c_28, ka_c_40, ka_c_50, ka_c_87, ka_j4, ka_u1, ka_u2, ka_u3, ka_u4, ka_v1, ka_v2, ka_v3, ka_v4, ka_v5, List.getD_cons_zero, List.getD_cons_succ]
  (repeat' split) <;> rfl
theorem sp_209_9 {c : Int32} (hc : 0 ≤ c.toInt ∧ c.toInt ≤ 255) : ka_ex sc (d + 1) 209 0 [.ref 1009, .int c, .int 0, .int 4] [] h = some (some (.int (nmx 0 c)), h) := by
  simp only [x209_0, x209_1, x209_4, x209_9, x209_10, x209_11, x209_14, x209_15, x209_16, x209_17_1009, x209_18, x209_21, x209_22, x209_23, x209_24, x209_29, x209_30, x209_31, x209_32, x209_33, x209_36, sp_208 hc, ka_kk_i, ka_kk_n, ka_cl_i, ka_cl_r, ka_cl_n, or_true, true_or, ka_ne2, ka_ne4, ka_ne5, ka_ne10, not_false_eq_true, not_true_eq_false, if_true, if_false, ka_one0, ka_v6, ka_v5, ka_v1, @sp_210_9 sc d h c 0, nmx, ka_i8 hc 117 (by decide), ka_i8 hc 115 (by decide), ka_i8 hc 116 (by decide), ka_i8 hc 109 (by decide)]
theorem sp_209_10 {c : Int32} (hc : 0 ≤ c.toInt ∧ c.toInt ≤ 255) : ka_ex sc (d + 1) 209 0 [.ref 1010, .int c, .int 0, .int 4] [] h = some (some (.int (nmx 1 c)), h) := by
  simp only [x209_0, x209_1, x209_4, x209_9, x209_10, x209_11, x209_14, x209_15, x209_16, x209_17_1010, x209_18, x209_21, x209_22, x209_23, x209_24, x209_29, x209_30, x209_31, x209_32, x209_33, x209_36, sp_208 hc, ka_kk_i, ka_kk_n, ka_cl_i, ka_cl_r, ka_cl_n, or_true, true_or, ka_ne2, ka_ne4, ka_ne5, ka_ne10, not_false_eq_true, not_true_eq_false, if_true, if_false, ka_one0, ka_v6, ka_v5, ka_v1, @sp_210_10 sc d h c 0, nmx, ka_i8 hc 98 (by decide), ka_i8 hc 110 (by decide), ka_i8 hc 112 (by decide), ka_i8 hc 104 (by decide)]
theorem sp_204 {s k c : Int32} (hk : k = 0 ∧ s = 1007 ∨ k = 1 ∧ s = 1008) (hc : 0 ≤ c.toInt ∧ c.toInt ≤ 255) : ka_ex sc (d + 4) 204 0 [.ref s.toNatClampNeg, .int c] [] h = some (some (.int (nmx k c)), h) := by
  rcases hk with ⟨rfl, rfl⟩ | ⟨rfl, rfl⟩
  · rw [show (1007 : Int32).toNatClampNeg = 1007 by decide]
    simp only [x204_0, x204_1, x204_2, x204_3 (Or.inl rfl), x204_6, x205_0, x205_1 (Or.inl rfl), x205_4, x205_7, x205_8_1007, x205_11, x205_12, x205_13, x205_14 (Or.inl rfl), x205_17, x205_20, x205_36, sp_207_7, sp_203_7, sp_209_9 hc, ka_kk_i, ka_kk_n, ka_cl_i, ka_cl_r, ka_cl_n, or_true, true_or, ka_ne2, ka_ne4, ka_ne5, ka_ne10, not_false_eq_true, not_true_eq_false, if_true, if_false, ka_one0]
  · rw [show (1008 : Int32).toNatClampNeg = 1008 by decide]
    simp only [x204_0, x204_1, x204_2, x204_3 (Or.inr rfl), x204_6, x205_0, x205_1 (Or.inr rfl), x205_4, x205_7, x205_8_1008, x205_11, x205_12, x205_13, x205_14 (Or.inr rfl), x205_17, x205_20, x205_36, sp_207_8, sp_203_8, sp_209_10 hc, ka_kk_i, ka_kk_n, ka_cl_i, ka_cl_r, ka_cl_n, or_true, true_or, ka_ne2, ka_ne4, ka_ne5, ka_ne10, not_false_eq_true, not_true_eq_false, if_true, if_false, ka_one0]
end
