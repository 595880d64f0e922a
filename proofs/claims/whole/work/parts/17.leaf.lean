/-! specs: what the small functions answer -/
/-- a truth as a number -/
def ka_b (P : Prop) [Decidable P] : Int32 := if P then 1 else 0
theorem ka_b_0 {P : Prop} [Decidable P] : (ka_b P = 0) = ¬ P := by
  unfold ka_b
  by_cases h : P <;> simp [h]
theorem ka_b_01 {P : Prop} [Decidable P] : ka_b P = 0 ∨ ka_b P = 1 := by
  unfold ka_b
  by_cases h : P <;> simp [h]
theorem ka_b_t {P : Prop} [Decidable P] (h : P) : ka_b P = 1 := if_pos h
theorem ka_b_f {P : Prop} [Decidable P] (h : ¬ P) : ka_b P = 0 := if_neg h
theorem ka_ilt {a b : Int32} : a < b ↔ a.toInt < b.toInt := Int32.lt_iff_toInt_lt
theorem ka_ile {a b : Int32} : a ≤ b ↔ a.toInt ≤ b.toInt := Int32.le_iff_toInt_le
theorem ka_llt {a b : Int64} : a < b ↔ a.toInt < b.toInt := Int64.lt_iff_toInt_lt
theorem ka_lcmp_lt {a b : Int64} : lg_cmp a b < 0 ↔ a.toInt < b.toInt := by
  rw [← ka_llt]
  unfold lg_cmp
  by_cases h1 : a > b
  · rw [if_pos h1]
    have h2 : ¬ a < b := by rw [ka_llt]; have := ka_llt.mp h1; omega
    simp [h2]
  · rw [if_neg h1]
    by_cases h2 : a = b
    · subst h2; rw [if_pos rfl]; simp
    · rw [if_neg h2]
      have h3 : a < b := by
        rw [ka_llt]
        have h4 : ¬ b.toInt < a.toInt := fun q => h1 (ka_llt.mpr q)
        have h5 : ¬ a.toInt = b.toInt := fun q => h2 (Int64.toInt_inj.mp q)
        omega
      simp [h3]
theorem ka_lcmp_gt {a b : Int64} : 0 < lg_cmp a b ↔ b.toInt < a.toInt := by
  rw [← ka_llt]
  unfold lg_cmp
  by_cases h1 : a > b
  · rw [if_pos h1]; simp; exact h1
  · rw [if_neg h1]
    have h1' : ¬ b < a := h1
    by_cases h2 : a = b
    · rw [if_pos h2]; simp [h1']
    · rw [if_neg h2]; simp [h1']
section
variable {sc : aS} {d : Nat} {h : aH} {X : ka_X}
theorem sp_106 {v lo hi : Int32} : ka_ex sc d 106 0 [.int v, .int lo, .int hi] [] h = some (some (.int (ka_b (lo.toInt ≤ v.toInt ∧ v.toInt ≤ hi.toInt))), h) := by
  simp only [x106_0, x106_1, x106_2, x106_5, x106_6, x106_7, x106_10, x106_11, x106_14, x106_15, ka_kk_i, ka_kk_n, ka_cl_i, ka_cl_r, ka_cl_n, or_true, true_or]
  by_cases h1 : v < lo
  · have h2 := ka_ilt.mp h1
    rw [if_pos h1, ka_b_f (by omega)]
  · have h2 := fun q => h1 (ka_ilt.mpr q)
    rw [if_neg h1]
    by_cases h3 : hi < v
    · have h4 := ka_ilt.mp h3
      rw [if_pos h3, ka_b_f (by omega)]
    · have h4 := fun q => h3 (ka_ilt.mpr q)
      rw [if_neg h3, ka_b_t (by omega)]
theorem sp_107 {v lo hi : Int32} : ka_ex sc (d + 1) 107 0 [.int v, .int lo, .int hi] [] h = some (some (.int (if lo < (if v < hi then v else hi) then (if v < hi then v else hi) else lo)), h) := by
  simp only [x107_0, x107_1, x107_2, x107_3, x107_6, x107_9, ka_kk_i, ka_kk_n, ka_cl_i, ka_cl_r, ka_cl_n, or_true, true_or]
theorem sp_109 {v : Int32} : ka_ex sc (d + 1) 109 0 [.int v] [] h = some (some (.int (ka_b (0 ≤ v.toInt ∧ v.toInt ≤ 3))), h) := by
  simp only [x109_0, x109_1, x109_2, x109_3, x109_6, ka_kk_i, ka_kk_n, ka_cl_i, ka_cl_r, ka_cl_n, or_true, true_or, sp_106, ka_b_01]
  rfl
theorem sp_117 {v lo hi : Int64} {a1 a3 a5 : Value} : ka_ex sc d 117 0 [.long v, a1, .long lo, a3, .long hi, a5] [] h = some (some (.int (ka_b (lo.toInt ≤ v.toInt ∧ v.toInt ≤ hi.toInt))), h) := by
  simp only [x117_0, x117_1, x117_2, x117_3, x117_6, x117_7, x117_9, x117_10, x117_13, x117_14, x117_17, x117_18, ka_kk_i, ka_kk_n, ka_cl_i, ka_cl_r, ka_cl_n, or_true, true_or, ka_lcmp_lt, ka_lcmp_gt]
  by_cases h1 : v.toInt < lo.toInt
  · rw [if_pos h1, ka_b_f (by omega)]
  · rw [if_neg h1]
    by_cases h3 : hi.toInt < v.toInt
    · rw [if_pos h3, ka_b_f (by omega)]
    · rw [if_neg h3, ka_b_t (by omega)]
end
