/-! small ones: shares of a recipe's number, bounds of change, lookups of class street -/
section
variable {sc : aS} {d : Nat} {h : aH} {X : ka_X} {b p : Nat}
theorem ka_d5 {a : Int32} (h : 0 ≤ a.toInt) : (a / 5).toInt = a.toInt / 5 ∧ (a - a / 5 * 5).toInt = a.toInt % 5 := by
  have ha := ka_bd a
  have h1 : (a / 5).toInt = a.toInt / 5 := ka_dvt 5 rfl h (by decide)
  have h2 : (a / 5 * 5).toInt = a.toInt / 5 * 5 := by rw [ka_mul (by rw [h1]; simp only [ka_t_0, ka_t_1, ka_t_2, ka_t_3, ka_t_4, ka_t_5, ka_t_6, ka_t_7, ka_t_8, ka_t_9, ka_t_10, ka_t_11, ka_t_12, ka_t_13, ka_t_14, ka_t_15, ka_t_16, ka_t_17, ka_t_18, ka_t_19, ka_t_20, ka_t_25, ka_t_26, ka_t_28, ka_t_30, ka_t_31, ka_t_32, ka_t_33, ka_t_37, ka_t_38, ka_t_39, ka_t_40, ka_t_41, ka_t_42, ka_t_43, ka_t_45, ka_t_47, ka_t_48, ka_t_50, ka_t_57, ka_t_60, ka_t_61, ka_t_62, ka_t_63, ka_t_64, ka_t_65, ka_t_69, ka_t_70, ka_t_71, ka_t_80, ka_t_85, ka_t_87, ka_t_98, ka_t_99, ka_t_100, ka_t_104, ka_t_107, ka_t_109, ka_t_110, ka_t_112, ka_t_115, ka_t_116, ka_t_117, ka_t_124, ka_t_125, ka_t_160, ka_t_200, ka_t_207, ka_t_255, ka_t_260, ka_t_400, ka_t_624, ka_t_625, ka_t_999, ka_t_9999, ka_t_10000, ka_t_20000, ka_t_20033, ka_t_999999, ka_t_1000000000, ka_t_m1, ka_t_m2, ka_t_m3, ka_t_m5, ka_t_m9, ka_t_m10, ka_t_m1000000000]; omega), h1]; simp only [ka_t_0, ka_t_1, ka_t_2, ka_t_3, ka_t_4, ka_t_5, ka_t_6, ka_t_7, ka_t_8, ka_t_9, ka_t_10, ka_t_11, ka_t_12, ka_t_13, ka_t_14, ka_t_15, ka_t_16, ka_t_17, ka_t_18, ka_t_19, ka_t_20, ka_t_25, ka_t_26, ka_t_28, ka_t_30, ka_t_31, ka_t_32, ka_t_33, ka_t_37, ka_t_38, ka_t_39, ka_t_40, ka_t_41, ka_t_42, ka_t_43, ka_t_45, ka_t_47, ka_t_48, ka_t_50, ka_t_57, ka_t_60, ka_t_61, ka_t_62, ka_t_63, ka_t_64, ka_t_65, ka_t_69, ka_t_70, ka_t_71, ka_t_80, ka_t_85, ka_t_87, ka_t_98, ka_t_99, ka_t_100, ka_t_104, ka_t_107, ka_t_109, ka_t_110, ka_t_112, ka_t_115, ka_t_116, ka_t_117, ka_t_124, ka_t_125, ka_t_160, ka_t_200, ka_t_207, ka_t_255, ka_t_260, ka_t_400, ka_t_624, ka_t_625, ka_t_999, ka_t_9999, ka_t_10000, ka_t_20000, ka_t_20033, ka_t_999999, ka_t_1000000000, ka_t_m1, ka_t_m2, ka_t_m3, ka_t_m5, ka_t_m9, ka_t_m10, ka_t_m1000000000]
  refine ⟨h1, ?_⟩
  rw [ka_sub (by rw [h2]; omega), h2]
  omega
/-- the t-th digit (from the left, of four) of r to the base five -/
def ka_dg (r t : Nat) : Nat := if t = 0 then r / 125 % 5 else if t = 1 then r / 25 % 5 else if t = 2 then r / 5 % 5 else r % 5
theorem s176 {r0 t v i : Int32} (hv : 0 ≤ v.toInt) (ht : t.toInt < i.toInt) : ka_ex sc d 176 4 [.int r0, .int t, .int v, .int i] [] h = ka_ex sc d 176 4 [.int r0, .int t, .int (v / 5), .int (i + -1)] [] h := by
  have h1 : t < i := ka_ilt.mpr ht
  rw [x176_4]
  simp only [x176_0, x176_1, x176_2, x176_3, x176_5, x176_6, x176_9, x176_10, x176_11, x176_12, x176_13, x176_16, x176_19, x176_20, x176_21, x176_22, ka_kk_i, ka_kk_n, ka_cl_i, ka_cl_r, ka_cl_n, or_true, true_or, ka_ne2, ka_ne4, ka_ne5, ka_ne10, not_false_eq_true, not_true_eq_false, if_true, if_false, h1]
theorem e176 {r0 t v i : Int32} (hv : 0 ≤ v.toInt) (ht : ¬ t.toInt < i.toInt) : ka_ex sc d 176 4 [.int r0, .int t, .int v, .int i] [] h = some (some (.int (v - v / 5 * 5)), h) := by
  have h1 : ¬ t < i := fun q => ht (ka_ilt.mp q)
  rw [x176_4, x176_5, x176_6, if_neg h1]
  simp only [x176_19, x176_20, x176_21, x176_22, ka_kk_i, ka_kk_n, ka_cl_i, ka_cl_r, ka_cl_n, or_true, true_or, ka_ne2, ka_ne4, ka_ne5, ka_ne10, not_false_eq_true, not_true_eq_false, if_true, if_false]
theorem sp_176 {r : Int32} {n : Nat} (hr : 0 ≤ r.toInt) (hn : n < 4) : ∃ v : Int32, v.toInt = ka_dg r.toInt.toNat n ∧ ka_ex sc d 176 0 [.int r, .int (nI n), ka_nv, ka_nv] [] h = some (some (.int v), h) := by
  obtain ⟨a1, b1⟩ := ka_d5 hr
  have p1 : 0 ≤ (r / 5).toInt := by rw [a1]; omega
  obtain ⟨a2, b2⟩ := ka_d5 p1
  have p2 : 0 ≤ (r / 5 / 5).toInt := by rw [a2, a1]; omega
  obtain ⟨a3, b3⟩ := ka_d5 p2
  have p3 : 0 ≤ (r / 5 / 5 / 5).toInt := by rw [a3, a2, a1]; omega
  obtain ⟨a4, b4⟩ := ka_d5 p3
  have hh : ka_ex sc d 176 0 [.int r, .int (nI n), ka_nv, ka_nv] [] h = ka_ex sc d 176 4 [.int r, .int (nI n), .int r, .int 3] [] h := by
    rw [x176_0, x176_1, x176_2, x176_3]
    simp only [ka_kk_i, ka_kk_n, ka_cl_i, ka_cl_r, ka_cl_n, or_true, true_or, ka_ne2, ka_ne4, ka_ne5, ka_ne10, not_false_eq_true, not_true_eq_false, if_true, if_false]
  rw [hh]
  rcases (by omega : n = 0 ∨ n = 1 ∨ n = 2 ∨ n = 3) with rfl | rfl | rfl | rfl
  · rw [s176 hr (by decide), s176 p1 (by decide), s176 p2 (by decide), e176 p3 (by decide)]
    refine ⟨_, ?_, rfl⟩
    rw [b4, a3, a2, a1]
    have hg := Int.toNat_of_nonneg hr
    rw [show ka_dg r.toInt.toNat 0 = r.toInt.toNat / 125 % 5 from rfl]
    omega
  · rw [s176 hr (by decide), s176 p1 (by decide), e176 p2 (by decide)]
    refine ⟨_, ?_, rfl⟩
    rw [b3, a2, a1]
    have hg := Int.toNat_of_nonneg hr
    rw [show ka_dg r.toInt.toNat 1 = r.toInt.toNat / 25 % 5 from rfl]
    omega
  · rw [s176 hr (by decide), e176 p1 (by decide)]
    refine ⟨_, ?_, rfl⟩
    rw [b2, a1]
    have hg := Int.toNat_of_nonneg hr
    rw [show ka_dg r.toInt.toNat 2 = r.toInt.toNat / 5 % 5 from rfl]
    omega
  · rw [e176 hr (by decide)]
    refine ⟨_, ?_, rfl⟩
    rw [b1]
    have hg := Int.toNat_of_nonneg hr
    rw [show ka_dg r.toInt.toNat 3 = r.toInt.toNat % 5 from rfl]
    omega
end
