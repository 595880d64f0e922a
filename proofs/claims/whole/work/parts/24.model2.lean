/-! a knife in the model's row -/
def md_kd (r : Nat → Int32) (k : Nat) : Nat → Int32 := fun f => r (13 + 9 * k + f)
def md_wk (r : Nat → Int32) (k : Nat) (x : Nat → Int32) : Nat → Int32 := fun j => if 13 + 9 * k ≤ j ∧ j < 22 + 9 * k then x (j - (13 + 9 * k)) else r j
theorem md_id {r : Nat → Int32} {k : Nat} : md_wk r k (md_kd r k) = r := by
  funext j
  unfold md_wk md_kd
  by_cases h : 13 + 9 * k ≤ j ∧ j < 22 + 9 * k
  · rw [if_pos h]; congr 1; omega
  · rw [if_neg h]
theorem md_up {r x : Nat → Int32} {k f : Nat} {v : Int32} (hf : f < 9) : kn_up (md_wk r k x) (13 + 9 * k + f) v = md_wk r k (kn_up x f v) := by
  funext j
  simp only [md_wk, kn_up]
  by_cases h : j = 13 + 9 * k + f
  · rw [if_pos h, if_pos (by omega), if_pos (by omega)]
  · rw [if_neg h]
    by_cases h2 : 13 + 9 * k ≤ j ∧ j < 22 + 9 * k
    · rw [if_pos h2, if_pos h2, if_neg (by omega)]
    · rw [if_neg h2, if_neg h2]
theorem md_at {r x : Nat → Int32} {k f : Nat} (hf : f < 9) : md_wk r k x (13 + 9 * k + f) = x f := by
  unfold md_wk
  rw [if_pos (by omega)]
  congr 1
  omega
theorem md_lo {r x : Nat → Int32} {k j : Nat} (hj : j < 13) : md_wk r k x j = r j := if_neg (by omega)
theorem md_wk_wk {r x y : Nat → Int32} {k : Nat} : md_wk (md_wk r k x) k y = md_wk r k y := by
  funext j
  unfold md_wk
  by_cases h : 13 + 9 * k ≤ j ∧ j < 22 + 9 * k
  · rw [if_pos h, if_pos h]
  · rw [if_neg h, if_neg h, if_neg h]
theorem md_wk_congr {r x y : Nat → Int32} {k : Nat} (h : ∀ f, f < 9 → x f = y f) : md_wk r k x = md_wk r k y := by
  funext j
  unfold md_wk
  by_cases q : 13 + 9 * k ≤ j ∧ j < 22 + 9 * k
  · rw [if_pos q, if_pos q]; exact h _ (by omega)
  · rw [if_neg q, if_neg q]
def md_gn (kind stone : Int32) : Int32 := if kind = 2 then (if stone = 0 then 8 - 2 * stone + 1 else 8 - 2 * stone) else if kind = 3 then 8 - 2 * stone - 1 else if kind = 4 then (8 - 2 * stone) / 2 else if kind = 5 then (if stone = 0 then 8 - 2 * stone + 1 else if stone = 1 then 8 - 2 * stone else 0) else if kind = 6 then 1 else 8 - 2 * stone
def md_tp (stone : Int32) : Int32 := if stone = 3 then 99 else 40 + 20 * stone
def md_ls (a b : Int32) : Int32 := if a < b then a else b
def md_hd (v lo hi : Int32) : Int32 := if v < lo then lo else if hi < v then hi else v
def md_stl (r : Nat → Int32) : Nat → Int32 := if r 4 = 0 then kn_up r 0 6 else if r 5 < 60 then r else kn_up (kn_up r 0 4) 5 0
def md_rub (stone water : Int32) (r : Nat → Int32) : Nat → Int32 := kn_up (kn_up (kn_up r 3 (md_ls (md_tp stone) (r 3 + md_gn (r 0) stone))) 4 (md_hd (r 4 - 3 + stone) 0 999)) 5 (md_hd (r 5 + 9 - 2 * stone - water) 0 99)
section
variable {sc : aS} {d : Nat} {X : ka_X} {h : aH}
theorem sp_147 {kind stone : Int32} : ka_ex sc d 147 0 [.int kind, .int stone, ka_nv] [] h = some (some (.int (md_gn kind stone)), h) := by
  simp only [x147_0, x147_2, x147_3, x147_4, x147_5, x147_6, x147_7, x147_8, x147_44, x147_45, x147_48, x147_49, x147_50, x147_51, x147_54, x147_55, x147_56, x147_57, x147_58, x147_59, x147_60, x147_61, x147_62, x147_63, x147_64, x147_65, x147_68, x147_69, x147_70, x147_71, x147_74, x147_75, x147_76, x147_79, x147_80, x147_83, x147_84, x147_85, x147_86, x147_87, x147_88, ka_kk_i, ka_kk_n, ka_cl_i, ka_cl_r, ka_cl_n, or_true, true_or, ka_ne2, ka_ne4, ka_ne5, ka_ne10, not_false_eq_true, if_true, if_false]
  unfold md_gn
  (repeat' split) <;> first | rfl | simp_all
theorem sp_148 {stone : Int32} : ka_ex sc d 148 0 [.int stone] [] h = some (some (.int (md_tp stone)), h) := by
  simp only [x148_0, x148_1, x148_2, x148_5, x148_7, x148_10, x148_12, x148_14, x148_15, x148_16, x148_17, ka_kk_i, ka_kk_n, ka_cl_i, ka_cl_r, ka_cl_n, or_true, true_or, ka_ne2, ka_ne4, ka_ne5, ka_ne10, not_false_eq_true, if_true, if_false, ka_out, md_tp]
theorem sp_119' {a b : Int32} : ka_ex sc d 119 0 [.int a, .int b] [] h = some (some (.int (md_ls a b)), h) := sp_119
theorem sp_118' {v lo hi : Int32} : ka_ex sc d 118 0 [.int v, .int lo, .int hi] [] h = some (some (.int (md_hd v lo hi)), h) := sp_118
theorem sp_149 {k stone : Int32} {r x : Nat → Int32} (hk : 0 ≤ k.toInt ∧ k.toInt < 8) (hX : X 88 = md_wk r k.toNatClampNeg x) : ka_ex sc (d + 1) 149 0 [.ref 87, .int k, .int stone] [] (ka_mem X) = some (none, ka_mem (kn_row X 88 (md_wk r k.toNatClampNeg (md_stl (md_rub stone (r 4) x))))) := by
  have w0 : 0 ≤ (0 : Int32).toInt ∧ (0 : Int32).toInt < 9 := by decide
  have w3 : 0 ≤ (3 : Int32).toInt ∧ (3 : Int32).toInt < 9 := by decide
  have w4 : 0 ≤ (4 : Int32).toInt ∧ (4 : Int32).toInt < 9 := by decide
  have w5 : 0 ≤ (5 : Int32).toInt ∧ (5 : Int32).toInt < 9 := by decide
  have h4 : ka_in 4 260 := ka_inI.mpr (by decide)
  simp only [x149_0, x149_1, x149_2, x149_3, x149_4, x149_7, x149_8, x149_9, x149_10, x149_13, x149_14, x149_15, x149_16, x149_19, x149_20, x149_23, x149_24, x149_27, x149_30, x149_31, x149_32, x149_33, x149_34, x149_35, x149_36, x149_39, x149_40, x149_41, x149_42, x149_43, x149_44, x149_47, x149_50, x149_53, x149_54, x149_55, x149_56, x149_57, x149_58, x149_59, x149_62, x149_64, x149_65, x149_66, x149_67, x149_68, x149_69, x149_70, x149_73, x149_74, x149_75, x149_76, x149_77, x149_79, x149_82, x149_85, x149_86, x149_87, x149_88, x149_91, x149_94, x149_95, x149_96, x149_97, x149_99, x149_102, x149_105, x149_106, x149_107, x149_108, x149_111, x149_113, x149_116, x149_117, x149_118, x149_119, x149_120, x149_123, x149_124, x149_125, x149_126, x149_127, x149_130, ka_kk_i, ka_kk_n, ka_cl_i, ka_cl_r, ka_cl_n, or_true, true_or, ka_ne2, ka_ne4, ka_ne5, ka_ne10, not_false_eq_true, if_true, if_false, ka_k_0, ka_k_1, ka_k_2, ka_k_3, ka_k_4, ka_k_5, ka_k_6, ka_k_7, ka_k_8, ka_k_9, ka_k_10, ka_k_11, ka_k_12, ka_k_13, ka_k_14, ka_k_15, ka_k_16, ka_k_17, ka_k_18, ka_k_19, ka_k_20, ka_k_21, ka_k_22, ka_k_23, ka_k_24, ka_k_25, ka_k_26, ka_k_27, ka_k_28, ka_k_29, ka_k_30, ka_k_31, ka_k_32, ka_k_33, ka_k_34, ka_k_35, ka_k_36, ka_k_37, ka_k_38, ka_k_39, ka_k_40, ka_k_41, ka_k_42, ka_k_43, ka_k_44, ka_k_45, ka_k_46, ka_k_47, ka_k_48, ka_k_49, ka_k_50, ka_k_51, ka_k_52, ka_k_53, ka_k_54, ka_k_55, ka_k_56, ka_k_57, ka_k_58, ka_k_59, ka_k_60, ka_k_61, ka_k_62, ka_k_63, ka_k_64, ka_k_65, ka_k_66, ka_k_67, ka_k_68, ka_k_69, ka_k_70, ka_k_71, ka_k_72, ka_k_73, ka_k_74, ka_k_75, ka_k_76, ka_k_77, ka_k_78, ka_k_79, ka_k_80, ka_k_81, ka_k_82, ka_k_83, ka_k_84, ka_k_85, ka_k_86, ka_k_87, ka_k_88, ka_k_89, ka_k_90, ka_k_91, ka_k_92, ka_k_93, ka_k_94, ka_k_95, ka_k_96, ka_k_97, ka_k_98, ka_k_99, ka_k_100, ka_rf_0_0, ka_rf_0_1, ka_rf_0_2, ka_rf_0_4, ka_rf_0_5, ka_rf_0_6, ka_rf_0_7, ka_rf_0_8, ka_rf_0_9, ka_rf_61_0, ka_rf_61_2, ka_rf_67_0, ka_rf_67_1, ka_rf_67_2, ka_rf_75_0, ka_rf_87_0, ka_rf_87_1, ka_rf_87_2, ka_rf_87_4, ka_rf_87_11, ka_rf_87_12, ka_rf_87_14, ka_rf_87_15, ka_rf_87_16, ka_rf_87_19, ka_rf_87_20, ka_rf_87_21, ka_rf_87_22, ka_ln_63, ka_ln_64, ka_ln_65, ka_ln_68, ka_ln_69, ka_ln_70, ka_ln_76, ka_ln_77, ka_ln_78, ka_ln_80, ka_ln_82, ka_ln_84, ka_ln_86, ka_ln_88, ka_ln_89, ka_ln_90, ka_ln_91, ka_ln_92, ka_ln_93, ka_ln_94, ka_ln_95, ka_ln_96, ka_ln_97, ka_ln_98, ka_ln_99, ka_ln_100, ka_c_0, ka_c_1, ka_c_2, ka_c_3, ka_c_4, ka_c_5, ka_c_6, ka_c_7, ka_c_8, ka_c_9, ka_c_10, ka_c_11, ka_c_12, ka_c_13, ka_c_14, ka_c_15, ka_c_16, ka_c_17, ka_c_18, ka_c_19, ka_c_20, ka_c_28, ka_c_40, ka_c_50, ka_c_87, h4, sp_147, sp_148, sp_119', sp_118', sp_122 hk w0, sp_122 hk w3, sp_122 hk w4, sp_122 hk w5, sp_123 hk w0, sp_123 hk w3, sp_123 hk w4, sp_123 hk w5, hX, kn_row_at, kn_row_row, md_up, md_at, md_lo, Nat.reduceLT, kn_up_at, kn_up_ne, Nat.reduceEqDiff, reduceCtorEq]
  generalize hz : md_rub stone (r 4) x = z
  simp only [md_rub] at hz
  rw [hz]
  have e4 : z 4 = md_hd (x 4 - 3 + stone) 0 999 := by rw [← hz]; simp only [kn_up_at, kn_up_ne, Nat.reduceEqDiff, reduceCtorEq, not_false_eq_true]
  have e5 : z 5 = md_hd (x 5 + 9 - 2 * stone - r 4) 0 99 := by rw [← hz]; simp only [kn_up_at, kn_up_ne, Nat.reduceEqDiff, reduceCtorEq, not_false_eq_true]
  rw [← e4, ← e5]
  unfold md_stl
  by_cases c4 : z 4 = 0
  · rw [if_pos c4, if_pos c4]
  · rw [if_neg c4, if_neg c4]
    by_cases c5 : z 5 < 60
    · rw [if_pos c5, if_pos c5]
    · rw [if_neg c5, if_neg c5]
/-- what holds of a knife, always -/
def kn_ok (r : Nat → Int32) : Prop := (0 ≤ (r 0).toInt ∧ (r 0).toInt ≤ 6) ∧ (0 ≤ (r 1).toInt ∧ (r 1).toInt ≤ 9) ∧ (0 ≤ (r 2).toInt ∧ (r 2).toInt ≤ 5) ∧ (0 ≤ (r 3).toInt ∧ (r 3).toInt ≤ 99) ∧ (0 ≤ (r 4).toInt ∧ (r 4).toInt ≤ 999) ∧ (0 ≤ (r 5).toInt ∧ (r 5).toInt ≤ 99) ∧ (0 ≤ (r 6).toInt ∧ (r 6).toInt ≤ 9) ∧ (0 ≤ (r 7).toInt ∧ (r 7).toInt ≤ 3) ∧ (0 ≤ (r 8).toInt ∧ (r 8).toInt ≤ 9999)
theorem md_gn_eq {kind stone : Int32} (hs : 0 ≤ stone.toInt ∧ stone.toInt ≤ 3) : md_gn kind stone = kn_gn kind stone := by
  obtain ⟨k, rfl, hk⟩ := ka_isI hs.1 (show stone.toInt < 4 by omega)
  unfold md_gn kn_gn
  rcases (by omega : k = 0 ∨ k = 1 ∨ k = 2 ∨ k = 3) with rfl | rfl | rfl | rfl <;> rfl
theorem kn_gn_bd {kind stone : Int32} (hs : 0 ≤ stone.toInt ∧ stone.toInt ≤ 3) : 0 ≤ (kn_gn kind stone).toInt ∧ (kn_gn kind stone).toInt ≤ 9 := by
  obtain ⟨k, rfl, hk⟩ := ka_isI hs.1 (show stone.toInt < 4 by omega)
  unfold kn_gn
  rcases (by omega : k = 0 ∨ k = 1 ∨ k = 2 ∨ k = 3) with rfl | rfl | rfl | rfl <;> (repeat' split) <;> decide
theorem md_tp_eq {stone : Int32} (hs : 0 ≤ stone.toInt ∧ stone.toInt ≤ 3) : md_tp stone = kn_tp stone ∧ 40 ≤ (kn_tp stone).toInt ∧ (kn_tp stone).toInt ≤ 99 := by
  obtain ⟨k, rfl, hk⟩ := ka_isI hs.1 (show stone.toInt < 4 by omega)
  rcases (by omega : k = 0 ∨ k = 1 ∨ k = 2 ∨ k = 3) with rfl | rfl | rfl | rfl <;> decide
end
