/-! a knife as a row: kind, m, house, sharp, steel, heat, cuts, use, ground -/
def kn_up (r : Nat → Int32) (k : Nat) (v : Int32) : Nat → Int32 := fun j => if j = k then v else r j
def kn_row (X : ka_X) (p : Nat) (r : Nat → Int32) : ka_X := fun q => if q = p then r else X q
theorem kn_put_r {X : ka_X} {p k : Nat} {v : Int32} : ka_put X p k v = kn_row X p (kn_up (X p) k v) := by
  funext q j
  by_cases h : q = p
  · subst h; simp [ka_put, kn_row, kn_up]
  · simp [ka_put, kn_row, h]
theorem kn_row_at {X : ka_X} {p : Nat} {r : Nat → Int32} : kn_row X p r p = r := if_pos rfl
theorem kn_row_off {X : ka_X} {p q : Nat} {r : Nat → Int32} (h : ¬ q = p) : kn_row X p r q = X q := if_neg h
theorem kn_row_row {X : ka_X} {p : Nat} {r r2 : Nat → Int32} : kn_row (kn_row X p r) p r2 = kn_row X p r2 := by
  funext q
  by_cases h : q = p <;> simp [kn_row, h]
theorem kn_row_self {X : ka_X} {p : Nat} : kn_row X p (X p) = X := by
  funext q
  by_cases h : q = p
  · subst h; simp [kn_row]
  · simp [kn_row, h]
theorem kn_up_at {r : Nat → Int32} {k : Nat} {v : Int32} : kn_up r k v k = v := if_pos rfl
theorem kn_up_ne {r : Nat → Int32} {k j : Nat} {v : Int32} (h : ¬ j = k) : kn_up r k v j = r j := if_neg h
theorem kn_up_id {r : Nat → Int32} {k : Nat} : kn_up r k (r k) = r := by
  funext j
  by_cases h : j = k
  · subst h; simp [kn_up]
  · simp [kn_up, h]
theorem kn_up_up {r : Nat → Int32} {k : Nat} {v w : Int32} : kn_up (kn_up r k v) k w = kn_up r k w := by
  funext j
  by_cases h : j = k <;> simp [kn_up, h]
theorem ka_wd_kn {p : Nat} (h : ka_k p = 0) : ka_wd p = 9 := (by decide +kernel : ∀ p, p < 101 → ka_k p = 0 → ka_wd p = 9) p (ka_k_lt h (by decide)) h
theorem ka_isI {x : Int32} {n : Int} (h : 0 ≤ x.toInt) (h2 : x.toInt < n) : ∃ k : Nat, x = nI k ∧ (k : Int) < n := by
  have hb := ka_bd x
  refine ⟨x.toInt.toNat, ?_, by omega⟩
  rw [← Int32.toInt_inj, ka_nIt (by omega)]
  omega
theorem ka_some {v : Option Value} {X Y : ka_X} (h : ka_mem X = ka_mem Y) : (some (v, ka_mem X) : Option (Option Value × aH)) = some (v, ka_mem Y) := by rw [h]
def kn_mn (a b : Int32) : Int32 := if b < a then b else a
def kn_mx (a b : Int32) : Int32 := if a < b then b else a
theorem kn_mn_f {a b : Int32} : (if b < a then b else a) = kn_mn a b := rfl
theorem kn_mx_f {a b : Int32} : (if a < b then b else a) = kn_mx a b := rfl
def kn_gn (kind stone : Int32) : Int32 := if kind = 2 then (if stone = 0 then 8 - 2 * stone + 1 else 8 - 2 * stone) else if kind = 3 then 8 - 2 * stone - 1 else if kind = 4 then (8 - 2 * stone) / 2 else if kind = 5 then (if 1 < stone then 0 else if stone = 0 then 8 - 2 * stone + 1 else 8 - 2 * stone) else if kind = 6 then 1 else 8 - 2 * stone
def kn_tp (stone : Int32) : Int32 := ([40, 60, 80, 99] : List Int32).getD stone.toNatClampNeg 0
def kn_rub (stone water : Int32) (r : Nat → Int32) : Nat → Int32 := kn_up (kn_up (kn_up r 3 (kn_mn (r 3 + kn_gn (r 0) stone) (kn_tp stone))) 4 (kn_mx (r 4 - (3 - stone)) 0)) 5 (kn_mx 0 (kn_mn 99 (r 5 + 9 - 2 * stone - water)))
def kn_stl (r : Nat → Int32) : Nat → Int32 := if r 4 = 0 then kn_up r 0 6 else if r 5 < 60 then r else kn_up (kn_up r 0 4) 5 0
def kn_trn (stone water : Int32) (r : Nat → Int32) : Nat → Int32 := kn_stl (kn_rub stone water r)
def kn_it {α : Type} (f : α → α) : Nat → α → α
  | 0, a => a
  | n + 1, a => kn_it f n (f a)
def kn_edl (r : Nat → Int32) : Int32 := if r 0 = 1 then 2 * (1 + r 7) else if r 0 = 2 then r 7 else if r 0 = 3 then (if r 3 < 20 then 0 else 1) else if r 0 = 4 then 2 * (1 + r 7) + r 1 else if r 0 = 5 then r 7 + r 1 / 2 else if r 0 = 6 then 2 * (if r 3 < 20 then 0 else 1) else 1 + r 7
section
variable {sc : aS} {d : Nat} {X : ka_X} {p : Nat}
theorem sp_7 (hp : ka_k p = 0) {stone : Int32} : ka_ex sc d 7 0 [.ref p, .int stone, ka_nv, ka_nv] [] (ka_mem X) = some (some (.int (kn_gn (X p 0) stone)), ka_mem X) := by
  simp only [x7_0, x7_2, x7_3, x7_4, x7_5, x7_6, x7_7, x7_8, x7_11, x7_12, x7_13, x7_14, x7_17, x7_18, x7_19, x7_20, x7_23, x7_56, x7_57, x7_58, x7_59, x7_60, x7_61, x7_62, x7_63, x7_64, x7_65, x7_66, x7_67, x7_68, x7_71, x7_72, x7_75, x7_76, x7_77, x7_78, x7_79, x7_80, ka_kk_i, ka_kk_n, ka_cl_i, ka_cl_r, ka_cl_n, or_true, true_or, ka_ne2, ka_ne4, ka_ne5, ka_ne10, not_false_eq_true, if_true, if_false, hp]
  by_cases h0 : stone = 0
  · subst h0
    unfold kn_gn
    (repeat' split) <;> first | rfl | simp_all
  · unfold kn_gn
    (repeat' split) <;> first | rfl | simp_all
theorem sp_6 (hp : ka_k p = 0) : ka_ex sc d 6 0 [.ref p, ka_nv] [] (ka_mem X) = some (some (.int (kn_edl (X p))), ka_mem X) := by
  simp only [x6_0, x6_1, x6_4, x6_6, x6_9, x6_10, x6_13, x6_14, x6_15, x6_16, x6_19, x6_56, x6_57, x6_58, x6_59, x6_62, x6_63, x6_64, x6_65, x6_66, x6_69, x6_70, x6_71, x6_72, x6_73, x6_74, x6_75, x6_78, x6_79, x6_80, x6_81, x6_84, x6_85, x6_86, x6_87, x6_90, x6_91, x6_94, x6_95, x6_96, x6_97, x6_98, x6_99, x6_100, x6_101, x6_102, x6_103, x6_104, x6_107, x6_108, ka_kk_i, ka_kk_n, ka_cl_i, ka_cl_r, ka_cl_n, or_true, true_or, ka_ne2, ka_ne4, ka_ne5, ka_ne10, not_false_eq_true, if_true, if_false, hp]
  unfold kn_edl
  (repeat' split) <;> first | rfl | simp_all
/-- rub: the first half of a turn -/
theorem sp_9 (hp : ka_k p = 0) {stone water : Int32} (hs : 0 ≤ stone.toInt ∧ stone.toInt ≤ 3) : ka_ex sc (d + 1) 9 0 [.ref p, .int stone, .int water, ka_nv] [] (ka_mem X) = some (none, ka_mem (kn_row X p (kn_rub stone water (X p)))) := by
  have h1 : ¬ stone < 0 := by rw [ka_ilt]; simp only [ka_t_0, ka_t_1, ka_t_2, ka_t_3, ka_t_4, ka_t_5, ka_t_6, ka_t_7, ka_t_8, ka_t_9, ka_t_10, ka_t_11, ka_t_12, ka_t_13, ka_t_14, ka_t_15, ka_t_16, ka_t_17, ka_t_18, ka_t_19, ka_t_20, ka_t_25, ka_t_26, ka_t_28, ka_t_30, ka_t_31, ka_t_32, ka_t_33, ka_t_37, ka_t_38, ka_t_39, ka_t_40, ka_t_41, ka_t_42, ka_t_43, ka_t_45, ka_t_47, ka_t_48, ka_t_50, ka_t_57, ka_t_60, ka_t_61, ka_t_62, ka_t_63, ka_t_64, ka_t_65, ka_t_69, ka_t_70, ka_t_71, ka_t_80, ka_t_85, ka_t_87, ka_t_98, ka_t_99, ka_t_100, ka_t_104, ka_t_107, ka_t_109, ka_t_110, ka_t_112, ka_t_115, ka_t_116, ka_t_117, ka_t_124, ka_t_125, ka_t_160, ka_t_200, ka_t_207, ka_t_255, ka_t_260, ka_t_400, ka_t_624, ka_t_625, ka_t_999, ka_t_9999, ka_t_10000, ka_t_20000, ka_t_20033, ka_t_999999, ka_t_1000000000, ka_t_m1, ka_t_m2, ka_t_m3, ka_t_m5, ka_t_m9, ka_t_m10, ka_t_m1000000000]; omega
  have h2 : stone < nI 4 := by rw [ka_ilt, ka_nIt (by decide)]; omega
  have hro : ka_ri sc 1003 = some (4, fun j => ([40, 60, 80, 99] : List Int32).getD j 0) := rfl
  have hin : ka_in stone 4 := ka_inI.mpr (by omega)
  simp only [x9_0, x9_1, x9_4, x9_5, x9_8, x9_9, x9_12, x9_15, x9_16, x9_17, x9_20, x9_21, x9_22, x9_23, x9_24, x9_27, x9_28, x9_29, x9_32, x9_33, x9_34, x9_37, x9_40, x9_41, x9_42, x9_45, x9_46, x9_47, x9_48, x9_49, x9_50, x9_53, x9_56, x9_57, x9_58, x9_60, x9_61, x9_64, x9_66, x9_67, x9_68, x9_69, x9_70, x9_71, x9_72, x9_73, x9_76, x9_79, x9_82, ka_kk_i, ka_kk_n, ka_cl_i, ka_cl_r, ka_cl_n, or_true, true_or, ka_ne2, ka_ne4, ka_ne5, ka_ne10, not_false_eq_true, if_true, if_false, hp, x9_8_ro hro (by decide), x9_16_ro hro (by decide) hin, if_neg h1, if_pos h2, sp_7 hp, kn_put_r, kn_row_at, kn_row_row, kn_up_at, kn_up_ne, kn_mn_f, kn_mx_f, Nat.reduceEqDiff, reduceCtorEq]
  simp only [kn_rub, kn_tp]
/-- settle: the second half -/
theorem sp_10 (hp : ka_k p = 0) : ka_ex sc d 10 0 [.ref p] [] (ka_mem X) = some (none, ka_mem (kn_row X p (kn_stl (X p)))) := by
  simp only [x10_0, x10_1, x10_4, x10_7, x10_8, x10_10, x10_13, x10_16, x10_17, x10_20, x10_22, x10_25, x10_26, x10_27, x10_30, x10_31, x10_32, x10_35, ka_kk_i, ka_kk_n, ka_cl_i, ka_cl_r, ka_cl_n, or_true, true_or, ka_ne2, ka_ne4, ka_ne5, ka_ne10, not_false_eq_true, if_true, if_false, hp, kn_put_r, kn_row_at, kn_row_row]
  unfold kn_stl
  (repeat' split) <;> simp only [kn_row_self]
/-- grind: so many turns -/
theorem sp_8l (hp : ka_k p = 0) {stone water n : Int32} (hs : 0 ≤ stone.toInt ∧ stone.toInt ≤ 3) : ∀ (k : Nat) (i : Int32) (X : ka_X), n.toInt - i.toInt = k → ka_ex sc (d + 2) 8 3 [.ref p, .int stone, .int n, .int water, .int i] [] (ka_mem X) = some (none, ka_mem (kn_row X p (kn_it (kn_trn stone water) k (X p)))) := by
  intro k
  induction k with
  | zero =>
    intro i X hk
    have h1 : ¬ i < n := by rw [ka_ilt]; omega
    simp only [x8_0, x8_1, x8_3, x8_5, x8_6, x8_9, x8_10, x8_11, x8_12, x8_15, x8_16, x8_19, x8_22, x8_25, ka_kk_i, ka_kk_n, ka_cl_i, ka_cl_r, ka_cl_n, or_true, true_or, ka_ne2, ka_ne4, ka_ne5, ka_ne10, not_false_eq_true, if_true, if_false, if_neg h1]
    rw [kn_it, kn_row_self]
  | succ k ih =>
    intro i X hk
    have h1 : i < n := by rw [ka_ilt]; omega
    have hb := ka_bd n
    have hbi := ka_bd i
    have h2 : n.toInt - (i + 1).toInt = k := by rw [ka_add (by simp only [ka_t_0, ka_t_1, ka_t_2, ka_t_3, ka_t_4, ka_t_5, ka_t_6, ka_t_7, ka_t_8, ka_t_9, ka_t_10, ka_t_11, ka_t_12, ka_t_13, ka_t_14, ka_t_15, ka_t_16, ka_t_17, ka_t_18, ka_t_19, ka_t_20, ka_t_25, ka_t_26, ka_t_28, ka_t_30, ka_t_31, ka_t_32, ka_t_33, ka_t_37, ka_t_38, ka_t_39, ka_t_40, ka_t_41, ka_t_42, ka_t_43, ka_t_45, ka_t_47, ka_t_48, ka_t_50, ka_t_57, ka_t_60, ka_t_61, ka_t_62, ka_t_63, ka_t_64, ka_t_65, ka_t_69, ka_t_70, ka_t_71, ka_t_80, ka_t_85, ka_t_87, ka_t_98, ka_t_99, ka_t_100, ka_t_104, ka_t_107, ka_t_109, ka_t_110, ka_t_112, ka_t_115, ka_t_116, ka_t_117, ka_t_124, ka_t_125, ka_t_160, ka_t_200, ka_t_207, ka_t_255, ka_t_260, ka_t_400, ka_t_624, ka_t_625, ka_t_999, ka_t_9999, ka_t_10000, ka_t_20000, ka_t_20033, ka_t_999999, ka_t_1000000000, ka_t_m1, ka_t_m2, ka_t_m3, ka_t_m5, ka_t_m9, ka_t_m10, ka_t_m1000000000]; omega)]; simp only [ka_t_0, ka_t_1, ka_t_2, ka_t_3, ka_t_4, ka_t_5, ka_t_6, ka_t_7, ka_t_8, ka_t_9, ka_t_10, ka_t_11, ka_t_12, ka_t_13, ka_t_14, ka_t_15, ka_t_16, ka_t_17, ka_t_18, ka_t_19, ka_t_20, ka_t_25, ka_t_26, ka_t_28, ka_t_30, ka_t_31, ka_t_32, ka_t_33, ka_t_37, ka_t_38, ka_t_39, ka_t_40, ka_t_41, ka_t_42, ka_t_43, ka_t_45, ka_t_47, ka_t_48, ka_t_50, ka_t_57, ka_t_60, ka_t_61, ka_t_62, ka_t_63, ka_t_64, ka_t_65, ka_t_69, ka_t_70, ka_t_71, ka_t_80, ka_t_85, ka_t_87, ka_t_98, ka_t_99, ka_t_100, ka_t_104, ka_t_107, ka_t_109, ka_t_110, ka_t_112, ka_t_115, ka_t_116, ka_t_117, ka_t_124, ka_t_125, ka_t_160, ka_t_200, ka_t_207, ka_t_255, ka_t_260, ka_t_400, ka_t_624, ka_t_625, ka_t_999, ka_t_9999, ka_t_10000, ka_t_20000, ka_t_20033, ka_t_999999, ka_t_1000000000, ka_t_m1, ka_t_m2, ka_t_m3, ka_t_m5, ka_t_m9, ka_t_m10, ka_t_m1000000000]; omega
    rw [x8_3, x8_5, x8_6, if_pos h1]
    simp only [x8_0, x8_1, x8_5, x8_6, x8_9, x8_10, x8_11, x8_12, x8_15, x8_16, x8_19, x8_22, x8_25, ka_kk_i, ka_kk_n, ka_cl_i, ka_cl_r, ka_cl_n, or_true, true_or, ka_ne2, ka_ne4, ka_ne5, ka_ne10, not_false_eq_true, if_true, if_false, hp, sp_9 hp hs, sp_10 hp, kn_row_at, kn_row_row]
    rw [ih _ _ h2, kn_row_at, kn_row_row]
    rfl
theorem sp_8 (hp : ka_k p = 0) {stone water n : Int32} (hs : 0 ≤ stone.toInt ∧ stone.toInt ≤ 3) (hn : 0 ≤ n.toInt) : ka_ex sc (d + 2) 8 0 [.ref p, .int stone, .int n, .int water, ka_nv] [] (ka_mem X) = some (none, ka_mem (kn_row X p (kn_it (kn_trn stone water) n.toInt.toNat (X p)))) := by
  rw [x8_0, x8_1]
  exact sp_8l hp hs _ _ _ (by simp only [ka_t_0, ka_t_1, ka_t_2, ka_t_3, ka_t_4, ka_t_5, ka_t_6, ka_t_7, ka_t_8, ka_t_9, ka_t_10, ka_t_11, ka_t_12, ka_t_13, ka_t_14, ka_t_15, ka_t_16, ka_t_17, ka_t_18, ka_t_19, ka_t_20, ka_t_25, ka_t_26, ka_t_28, ka_t_30, ka_t_31, ka_t_32, ka_t_33, ka_t_37, ka_t_38, ka_t_39, ka_t_40, ka_t_41, ka_t_42, ka_t_43, ka_t_45, ka_t_47, ka_t_48, ka_t_50, ka_t_57, ka_t_60, ka_t_61, ka_t_62, ka_t_63, ka_t_64, ka_t_65, ka_t_69, ka_t_70, ka_t_71, ka_t_80, ka_t_85, ka_t_87, ka_t_98, ka_t_99, ka_t_100, ka_t_104, ka_t_107, ka_t_109, ka_t_110, ka_t_112, ka_t_115, ka_t_116, ka_t_117, ka_t_124, ka_t_125, ka_t_160, ka_t_200, ka_t_207, ka_t_255, ka_t_260, ka_t_400, ka_t_624, ka_t_625, ka_t_999, ka_t_9999, ka_t_10000, ka_t_20000, ka_t_20033, ka_t_999999, ka_t_1000000000, ka_t_m1, ka_t_m2, ka_t_m3, ka_t_m5, ka_t_m9, ka_t_m10, ka_t_m1000000000]; omega)
/-- begin, setEdge -/
theorem sp_2 (hp : ka_k p = 0) {km : Int32} : ka_ex sc d 2 0 [.ref p, .int km] [] (ka_mem X) = some (none, ka_mem (kn_row X p (kn_up (kn_up (X p) 0 (km / 10)) 1 (km - km / 10 * 10)))) := by
  simp only [x2_0, x2_1, x2_2, x2_4, x2_5, x2_8, x2_9, x2_10, x2_12, x2_13, x2_16, ka_kk_i, ka_kk_n, ka_cl_i, ka_cl_r, ka_cl_n, or_true, true_or, ka_ne2, ka_ne4, ka_ne5, ka_ne10, not_false_eq_true, if_true, if_false, hp, kn_put_r, kn_row_at, kn_row_row]
def kn_beg (km house cu : Int32) (r : Nat → Int32) : Nat → Int32 := kn_up (kn_up (kn_up (kn_up (kn_up (kn_up (kn_up (kn_up (kn_up r 0 (km / 10)) 1 (km - km / 10 * 10)) 2 house) 3 60) 4 200) 5 0) 6 (cu / 10)) 7 (cu - cu / 10 * 10)) 8 0
theorem sp_1 (hp : ka_k p = 0) {km house cu : Int32} : ka_ex sc (d + 1) 1 0 [.ref p, .int km, .int house, .int cu] [] (ka_mem X) = some (none, ka_mem (kn_row X p (kn_beg km house cu (X p)))) := by
  simp only [x1_0, x1_1, x1_2, x1_5, x1_6, x1_7, x1_10, x1_11, x1_13, x1_16, x1_17, x1_20, x1_23, x1_24, x1_25, x1_28, x1_29, x1_30, x1_32, x1_33, x1_36, x1_37, x1_38, x1_40, x1_41, x1_44, x1_45, x1_46, x1_49, ka_kk_i, ka_kk_n, ka_cl_i, ka_cl_r, ka_cl_n, or_true, true_or, ka_ne2, ka_ne4, ka_ne5, ka_ne10, not_false_eq_true, if_true, if_false, hp, sp_2 hp, kn_put_r, kn_row_at, kn_row_row]
  simp only [kn_beg]
theorem sp_3 (hp : ka_k p = 0) {q : Nat} (hq : ka_k q = 0) : ka_ex sc d 3 0 [.ref p, .ref q] [] (ka_mem X) = some (none, ka_mem (kn_row X p (X q))) := by
  by_cases e : q = p
  · subst e
    simp only [x3_0, x3_1, x3_2, x3_5, x3_8, x3_9, x3_10, x3_13, x3_16, x3_17, x3_18, x3_21, x3_24, x3_25, x3_26, x3_29, x3_32, x3_33, x3_34, x3_37, x3_40, x3_41, x3_42, x3_45, x3_48, x3_49, x3_50, x3_53, x3_56, x3_57, x3_58, x3_61, x3_64, x3_65, x3_66, x3_69, x3_72, ka_kk_i, ka_kk_n, ka_cl_i, ka_cl_r, ka_cl_n, or_true, true_or, ka_ne2, ka_ne4, ka_ne5, ka_ne10, not_false_eq_true, if_true, if_false, hp, kn_put_r, kn_row_at, kn_row_row, kn_up_id, kn_row_self]
  · simp only [x3_0, x3_1, x3_2, x3_5, x3_8, x3_9, x3_10, x3_13, x3_16, x3_17, x3_18, x3_21, x3_24, x3_25, x3_26, x3_29, x3_32, x3_33, x3_34, x3_37, x3_40, x3_41, x3_42, x3_45, x3_48, x3_49, x3_50, x3_53, x3_56, x3_57, x3_58, x3_61, x3_64, x3_65, x3_66, x3_69, x3_72, ka_kk_i, ka_kk_n, ka_cl_i, ka_cl_r, ka_cl_n, or_true, true_or, ka_ne2, ka_ne4, ka_ne5, ka_ne10, not_false_eq_true, if_true, if_false, hp, hq, kn_put_r, kn_row_at, kn_row_row, kn_row_off e]
    refine ka_some (ka_mem_congr fun i k hi hk => ?_)
    by_cases z : i = p
    · subst z
      simp only [kn_row_at]
      have hk9 : k < 9 := by
        rcases hk with hk | hk
        · rw [hp] at hk; omega
        · rw [ka_wd_kn hp] at hk; exact hk
      simp only [kn_up]
      rcases (by omega : k = 0 ∨ k = 1 ∨ k = 2 ∨ k = 3 ∨ k = 4 ∨ k = 5 ∨ k = 6 ∨ k = 7 ∨ k = 8) with rfl | rfl | rfl | rfl | rfl | rfl | rfl | rfl | rfl <;> rfl
    · simp only [kn_row_off z]
/-- part, setPart -/
theorem sp_4 (hp : ka_k p = 0) {w : Int32} (hw : 0 ≤ w.toInt ∧ w.toInt ≤ 8) : ka_ex sc d 4 0 [.ref p, .int w] [] (ka_mem X) = some (some (.int (X p w.toInt.toNat)), ka_mem X) := by
  obtain ⟨k, rfl, hk⟩ := ka_isI hw.1 (show w.toInt < 9 by omega)
  rcases (by omega : k = 0 ∨ k = 1 ∨ k = 2 ∨ k = 3 ∨ k = 4 ∨ k = 5 ∨ k = 6 ∨ k = 7 ∨ k = 8) with rfl | rfl | rfl | rfl | rfl | rfl | rfl | rfl | rfl <;> (simp only [x4_0, x4_1, x4_48, x4_49, x4_52, x4_53, x4_54, x4_57, x4_58, x4_59, x4_62, x4_63, x4_64, x4_67, x4_68, x4_69, x4_72, x4_73, x4_74, x4_77, x4_78, x4_79, x4_82, x4_83, x4_84, x4_87, x4_88, x4_89, x4_92, ka_kk_i, ka_kk_n, ka_cl_i, ka_cl_r, ka_cl_n, or_true, true_or, ka_ne2, ka_ne4, ka_ne5, ka_ne10, not_false_eq_true, if_true, if_false, hp]; rfl)
theorem sp_5 (hp : ka_k p = 0) {w v : Int32} (hw : 2 ≤ w.toInt ∧ w.toInt ≤ 7) : ka_ex sc d 5 0 [.ref p, .int w, .int v] [] (ka_mem X) = some (none, ka_mem (ka_put X p w.toInt.toNat v)) := by
  obtain ⟨k, rfl, hk⟩ := ka_isI (show 0 ≤ w.toInt by omega) (show w.toInt < 8 by omega)
  rw [ka_nIt (by omega)] at hw
  rcases (by omega : k = 2 ∨ k = 3 ∨ k = 4 ∨ k = 5 ∨ k = 6 ∨ k = 7) with rfl | rfl | rfl | rfl | rfl | rfl <;> (simp only [x5_0, x5_1, x5_36, x5_37, x5_38, x5_41, x5_44, x5_45, x5_46, x5_49, x5_52, x5_53, x5_54, x5_57, x5_60, x5_61, x5_62, x5_65, x5_68, x5_69, x5_70, x5_73, x5_76, x5_77, x5_78, x5_81, ka_kk_i, ka_kk_n, ka_cl_i, ka_cl_r, ka_cl_n, or_true, true_or, ka_ne2, ka_ne4, ka_ne5, ka_ne10, not_false_eq_true, if_true, if_false, hp]; rfl)
end
