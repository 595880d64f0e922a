/-! which kind stands under which -/
def ka_ab (k : Int32) : Int32 := if k < 4 then 0 else k - 3
def ka_tb114 (a : Int32) : Int32 := ([-1, 0, 0, 0, 1, 2, 3] : List Int32).getD a.toNatClampNeg 0
section
variable {sc : aS} {d : Nat} {h : aH} {X : ka_X}
theorem s114 {k w a i : Int32} (ha : 0 ≤ a.toInt ∧ a.toInt ≤ 6) (hi : i.toInt < 7) : ka_ex sc (d + 1) 114 4 [.int k, .int w, .int a, .int i] [] h = if a = w then some (some (.int 1), h) else ka_ex sc (d + 1) 114 4 [.int k, .int w, .int (ka_tb114 a), .int (i + 1)] [] h := by
  have hro : ka_ri sc 1002 = some (7, fun j => ([-1, 0, 0, 0, 1, 2, 3] : List Int32).getD j 0) := rfl
  have h1 : i < nI 7 := by rw [ka_ilt, ka_nIt (by decide)]; omega
  have hin : ka_in a 7 := ka_inI.mpr (by omega)
  rw [x114_4]
  simp only [x114_0, x114_1, x114_2, x114_3, x114_5, x114_8, x114_9, x114_12, x114_13, x114_14, x114_16, x114_19, x114_22, x114_23, x114_24, x114_27, x114_28, x114_29, x114_32, x114_33, x114_34, x114_35, x114_38, x114_41, x114_42, ka_kk_i, ka_kk_n, ka_cl_i, ka_cl_r, ka_cl_n, or_true, true_or, ka_ne2, ka_ne4, ka_ne5, ka_ne10, not_false_eq_true, not_true_eq_false, if_true, if_false, x114_8_ro hro (by decide), h1, sp_106, ka_t_0, ka_t_1, ka_t_2, ka_t_3, ka_t_4, ka_t_5, ka_t_6, ka_t_7, ka_t_8, ka_t_9, ka_t_10, ka_t_11, ka_t_12, ka_t_13, ka_t_14, ka_t_15, ka_t_16, ka_t_17, ka_t_18, ka_t_19, ka_t_20, ka_t_25, ka_t_26, ka_t_28, ka_t_30, ka_t_31, ka_t_32, ka_t_33, ka_t_37, ka_t_38, ka_t_39, ka_t_40, ka_t_41, ka_t_42, ka_t_43, ka_t_45, ka_t_47, ka_t_48, ka_t_50, ka_t_57, ka_t_60, ka_t_61, ka_t_62, ka_t_63, ka_t_64, ka_t_65, ka_t_69, ka_t_70, ka_t_71, ka_t_80, ka_t_85, ka_t_87, ka_t_98, ka_t_99, ka_t_100, ka_t_104, ka_t_107, ka_t_109, ka_t_110, ka_t_112, ka_t_115, ka_t_116, ka_t_117, ka_t_124, ka_t_125, ka_t_160, ka_t_200, ka_t_207, ka_t_255, ka_t_260, ka_t_400, ka_t_624, ka_t_625, ka_t_999, ka_t_9999, ka_t_10000, ka_t_20000, ka_t_20033, ka_t_999999, ka_t_1000000000, ka_t_m1, ka_t_m2, ka_t_m3, ka_t_m5, ka_t_m9, ka_t_m10, ka_t_m1000000000, ha, and_self, ka_b_0, ka_one0, x114_33_ro hro (by decide) hin, ka_tb114]
theorem e114 {k w i : Int32} (hi : i.toInt < 7) : ka_ex sc (d + 1) 114 4 [.int k, .int w, .int (-1), .int i] [] h = some (some (.int 0), h) := by
  have hro : ka_ri sc 1002 = some (7, fun j => ([-1, 0, 0, 0, 1, 2, 3] : List Int32).getD j 0) := rfl
  have h1 : i < nI 7 := by rw [ka_ilt, ka_nIt (by decide)]; omega
  have hf : ((0 : Int) ≤ -1 ∧ (-1 : Int) ≤ 6) = False := by simp
  simp only [x114_0, x114_1, x114_2, x114_3, x114_4, x114_5, x114_8, x114_9, x114_12, x114_13, x114_14, x114_16, x114_19, x114_22, x114_23, x114_24, x114_27, x114_28, x114_29, x114_32, x114_33, x114_34, x114_35, x114_38, x114_41, x114_42, ka_kk_i, ka_kk_n, ka_cl_i, ka_cl_r, ka_cl_n, or_true, true_or, ka_ne2, ka_ne4, ka_ne5, ka_ne10, not_false_eq_true, not_true_eq_false, if_true, if_false, x114_8_ro hro (by decide), h1, sp_106, ka_t_0, ka_t_1, ka_t_2, ka_t_3, ka_t_4, ka_t_5, ka_t_6, ka_t_7, ka_t_8, ka_t_9, ka_t_10, ka_t_11, ka_t_12, ka_t_13, ka_t_14, ka_t_15, ka_t_16, ka_t_17, ka_t_18, ka_t_19, ka_t_20, ka_t_25, ka_t_26, ka_t_28, ka_t_30, ka_t_31, ka_t_32, ka_t_33, ka_t_37, ka_t_38, ka_t_39, ka_t_40, ka_t_41, ka_t_42, ka_t_43, ka_t_45, ka_t_47, ka_t_48, ka_t_50, ka_t_57, ka_t_60, ka_t_61, ka_t_62, ka_t_63, ka_t_64, ka_t_65, ka_t_69, ka_t_70, ka_t_71, ka_t_80, ka_t_85, ka_t_87, ka_t_98, ka_t_99, ka_t_100, ka_t_104, ka_t_107, ka_t_109, ka_t_110, ka_t_112, ka_t_115, ka_t_116, ka_t_117, ka_t_124, ka_t_125, ka_t_160, ka_t_200, ka_t_207, ka_t_255, ka_t_260, ka_t_400, ka_t_624, ka_t_625, ka_t_999, ka_t_9999, ka_t_10000, ka_t_20000, ka_t_20033, ka_t_999999, ka_t_1000000000, ka_t_m1, ka_t_m2, ka_t_m3, ka_t_m5, ka_t_m9, ka_t_m10, ka_t_m1000000000, hf, ka_b_0]
theorem sp_114 {k w : Int32} (hk : 0 ≤ k.toInt ∧ k.toInt ≤ 6) : ka_ex sc (d + 1) 114 0 [.int k, .int w, ka_nv, ka_nv] [] h = some (some (.int (ka_b (k = w ∨ ka_ab k = w ∨ 0 = w))), h) := by
  obtain ⟨n, rfl, hn⟩ := ka_isI hk.1 (show k.toInt < 7 by omega)
  rw [x114_0, x114_1, x114_2, x114_3]
  simp only [ka_kk_i, ka_kk_n, ka_cl_i, ka_cl_r, ka_cl_n, or_true, true_or, ka_ne2, ka_ne4, ka_ne5, ka_ne10, not_false_eq_true, not_true_eq_false, if_true, if_false]
  have fin : ∀ (a b : Int32) (P : Prop) [Decidable P], (P ↔ (a = w ∨ b = w ∨ 0 = w)) → (if a = w then (some (some (.int 1), h) : Option (Option Value × aH)) else if b = w then some (some (.int 1), h) else if 0 = w then some (some (.int 1), h) else some (some (.int 0), h)) = some (some (.int (ka_b P)), h) := by
    intro a b P _ hP
    by_cases h1 : a = w
    · rw [if_pos h1, ka_b_t (hP.mpr (Or.inl h1))]
    · rw [if_neg h1]
      by_cases h2 : b = w
      · rw [if_pos h2, ka_b_t (hP.mpr (Or.inr (Or.inl h2)))]
      · rw [if_neg h2]
        by_cases h3 : 0 = w
        · rw [if_pos h3, ka_b_t (hP.mpr (Or.inr (Or.inr h3)))]
        · rw [if_neg h3, ka_b_f (fun q => by rcases hP.mp q with q | q | q <;> contradiction)]
  have t0 : ka_tb114 0 = -1 := rfl
  rcases (by omega : n = 0 ∨ n = 1 ∨ n = 2 ∨ n = 3 ∨ n = 4 ∨ n = 5 ∨ n = 6) with rfl | rfl | rfl | rfl | rfl | rfl | rfl
  · rw [s114 (by decide) (by decide), show ka_tb114 (nI 0) = -1 from rfl, e114 (by decide)]
    rw [← fin 0 0 (nI 0 = w ∨ ka_ab (nI 0) = w ∨ 0 = w) Iff.rfl, show nI 0 = 0 from rfl]
    by_cases h1 : (0 : Int32) = w <;> simp only [h1, if_true, if_false]
  · rw [s114 (by decide) (by decide), show ka_tb114 (nI 1) = 0 from rfl, s114 (by decide) (by decide), t0, e114 (by decide)]
    rw [← fin 1 0 (nI 1 = w ∨ ka_ab (nI 1) = w ∨ 0 = w) Iff.rfl, show nI 1 = 1 from rfl]
    by_cases h1 : (1 : Int32) = w <;> by_cases h2 : (0 : Int32) = w <;> simp only [h1, h2, if_true, if_false]
  · rw [s114 (by decide) (by decide), show ka_tb114 (nI 2) = 0 from rfl, s114 (by decide) (by decide), t0, e114 (by decide)]
    rw [← fin 2 0 (nI 2 = w ∨ ka_ab (nI 2) = w ∨ 0 = w) Iff.rfl, show nI 2 = 2 from rfl]
    by_cases h1 : (2 : Int32) = w <;> by_cases h2 : (0 : Int32) = w <;> simp only [h1, h2, if_true, if_false]
  · rw [s114 (by decide) (by decide), show ka_tb114 (nI 3) = 0 from rfl, s114 (by decide) (by decide), t0, e114 (by decide)]
    rw [← fin 3 0 (nI 3 = w ∨ ka_ab (nI 3) = w ∨ 0 = w) Iff.rfl, show nI 3 = 3 from rfl]
    by_cases h1 : (3 : Int32) = w <;> by_cases h2 : (0 : Int32) = w <;> simp only [h1, h2, if_true, if_false]
  · rw [s114 (by decide) (by decide), show ka_tb114 (nI 4) = 1 from rfl, s114 (by decide) (by decide), show ka_tb114 1 = 0 from rfl, s114 (by decide) (by decide), t0, e114 (by decide)]
    rw [← fin 4 1 (nI 4 = w ∨ ka_ab (nI 4) = w ∨ 0 = w) Iff.rfl, show nI 4 = 4 from rfl]
  · rw [s114 (by decide) (by decide), show ka_tb114 (nI 5) = 2 from rfl, s114 (by decide) (by decide), show ka_tb114 2 = 0 from rfl, s114 (by decide) (by decide), t0, e114 (by decide)]
    rw [← fin 5 2 (nI 5 = w ∨ ka_ab (nI 5) = w ∨ 0 = w) Iff.rfl, show nI 5 = 5 from rfl]
  · rw [s114 (by decide) (by decide), show ka_tb114 (nI 6) = 3 from rfl, s114 (by decide) (by decide), show ka_tb114 3 = 0 from rfl, s114 (by decide) (by decide), t0, e114 (by decide)]
    rw [← fin 6 3 (nI 6 = w ∨ ka_ab (nI 6) = w ∨ 0 = w) Iff.rfl, show nI 6 = 6 from rfl]
end
