/-! recipes one behind the other: the class -/
def rb (w : Int32) (y : Nat → Int32) (r : Nat) : Nat → (Nat → Int32)
  | 0 => kn_it (kn_trn (nI 0) w) (ka_dg r 0) y
  | t + 1 => kn_it (kn_trn (nI (t + 1)) w) (ka_dg r (t + 1)) (rb w y r t)
def RS (X : ka_X) (r : Nat) (y : Nat → Int32) (w : Int32) : Prop := X 67 3 = w ∧ (∀ t, t < 4 → X 68 t = nI (ka_dg r t)) ∧ ∀ t, t < 4 → X (71 + t) = rb w y r t
def rat (r : Nat) : Int32 := nI (ka_dg r 0) + nI (ka_dg r 1) + nI (ka_dg r 2) + nI (ka_dg r 3)
theorem kn_it_s {α : Type} {f : α → α} : ∀ (n : Nat) (a : α), kn_it f (n + 1) a = f (kn_it f n a) := by
  intro n
  induction n with
  | zero => intro a; rfl
  | succ n ih =>
    intro a
    rw [kn_it, ih, kn_it]
theorem ka_dg0 {t : Nat} : ka_dg 0 t = 0 := by unfold ka_dg; (repeat' split) <;> rfl
theorem rb_0a {w : Int32} {y : Nat → Int32} : ∀ t, rb w y 0 t = y := by
  intro t
  induction t with
  | zero => rw [rb, ka_dg0, kn_it]
  | succ t ih => rw [rb, ka_dg0, kn_it, ih]
theorem rb_0 {w : Int32} {y : Nat → Int32} {t : Nat} (ht : t < 4) : rb w y 0 t = y := rb_0a t
theorem rb_cg {w : Int32} {y : Nat → Int32} {r r2 : Nat} : ∀ t, (∀ j, j ≤ t → ka_dg r j = ka_dg r2 j) → rb w y r t = rb w y r2 t := by
  intro t
  induction t with
  | zero => intro h; rw [rb, rb, h 0 (Nat.le_refl _)]
  | succ t ih =>
    intro h
    rw [rb, rb, h (t + 1) (Nat.le_refl _), ih (fun j hj => h j (by omega))]
section
variable {sc : aS} {d : Nat} {X : ka_X}
theorem sp_23l {p : Nat} (hp : ka_k p = 0) (hpl : p < 68) {w : Int32} : ∀ (m i : Nat) (ii : Int32) (X : ka_X), i + m = 4 → ii.toInt = i → ∃ Y, ka_ex sc (d + 1) 23 7 [.ref 67, .ref p, .int w, .int ii] [] (ka_mem X) = some (none, ka_mem Y) ∧ (∀ t, i ≤ t → t < 4 → Y 68 t = 0 ∧ Y 69 t = 0 ∧ Y (71 + t) = X p) ∧ (∀ t, t < i → Y 68 t = X 68 t ∧ Y 69 t = X 69 t ∧ Y (71 + t) = X (71 + t)) ∧ ∀ q, ¬ q = 68 → ¬ q = 69 → ¬ (71 ≤ q ∧ q < 75) → Y q = X q := by
  intro m
  induction m with
  | zero =>
    intro i ii X hi hii
    have h1 : ¬ ii < 4 := by rw [ka_ilt]; simp only [ka_t_0, ka_t_1, ka_t_2, ka_t_3, ka_t_4, ka_t_5, ka_t_6, ka_t_7, ka_t_8, ka_t_9, ka_t_10, ka_t_11, ka_t_12, ka_t_13, ka_t_14, ka_t_15, ka_t_16, ka_t_17, ka_t_18, ka_t_19, ka_t_20, ka_t_25, ka_t_26, ka_t_28, ka_t_30, ka_t_31, ka_t_32, ka_t_33, ka_t_37, ka_t_38, ka_t_39, ka_t_40, ka_t_41, ka_t_42, ka_t_43, ka_t_45, ka_t_47, ka_t_48, ka_t_50, ka_t_57, ka_t_60, ka_t_61, ka_t_62, ka_t_63, ka_t_64, ka_t_65, ka_t_69, ka_t_70, ka_t_71, ka_t_80, ka_t_85, ka_t_87, ka_t_98, ka_t_99, ka_t_100, ka_t_104, ka_t_107, ka_t_109, ka_t_110, ka_t_112, ka_t_115, ka_t_116, ka_t_117, ka_t_124, ka_t_125, ka_t_160, ka_t_200, ka_t_207, ka_t_255, ka_t_260, ka_t_400, ka_t_624, ka_t_625, ka_t_999, ka_t_9999, ka_t_10000, ka_t_20000, ka_t_20033, ka_t_999999, ka_t_1000000000, ka_t_m1, ka_t_m2, ka_t_m3, ka_t_m5, ka_t_m9, ka_t_m10, ka_t_m1000000000]; omega
    refine ⟨X, ?_, fun t a b => by omega, fun _ _ => ⟨rfl, rfl, rfl⟩, fun _ _ _ _ => rfl⟩
    rw [x23_7]
    simp only [x23_0, x23_1, x23_2, x23_5, x23_6, x23_8, x23_9, x23_12, x23_13, x23_16, x23_17, x23_18, x23_19, x23_20, x23_23, x23_24, x23_25, x23_26, x23_27, x23_30, x23_31, x23_32, x23_33, x23_36, x23_39, x23_42, ka_kk_i, ka_kk_n, ka_cl_i, ka_cl_r, ka_cl_n, or_true, true_or, ka_ne2, ka_ne4, ka_ne5, ka_ne10, not_false_eq_true, not_true_eq_false, if_true, if_false, h1]
  | succ m ih =>
    intro i ii X hi hii
    have h1 : ii < 4 := by rw [ka_ilt]; simp only [ka_t_0, ka_t_1, ka_t_2, ka_t_3, ka_t_4, ka_t_5, ka_t_6, ka_t_7, ka_t_8, ka_t_9, ka_t_10, ka_t_11, ka_t_12, ka_t_13, ka_t_14, ka_t_15, ka_t_16, ka_t_17, ka_t_18, ka_t_19, ka_t_20, ka_t_25, ka_t_26, ka_t_28, ka_t_30, ka_t_31, ka_t_32, ka_t_33, ka_t_37, ka_t_38, ka_t_39, ka_t_40, ka_t_41, ka_t_42, ka_t_43, ka_t_45, ka_t_47, ka_t_48, ka_t_50, ka_t_57, ka_t_60, ka_t_61, ka_t_62, ka_t_63, ka_t_64, ka_t_65, ka_t_69, ka_t_70, ka_t_71, ka_t_80, ka_t_85, ka_t_87, ka_t_98, ka_t_99, ka_t_100, ka_t_104, ka_t_107, ka_t_109, ka_t_110, ka_t_112, ka_t_115, ka_t_116, ka_t_117, ka_t_124, ka_t_125, ka_t_160, ka_t_200, ka_t_207, ka_t_255, ka_t_260, ka_t_400, ka_t_624, ka_t_625, ka_t_999, ka_t_9999, ka_t_10000, ka_t_20000, ka_t_20033, ka_t_999999, ka_t_1000000000, ka_t_m1, ka_t_m2, ka_t_m3, ka_t_m5, ka_t_m9, ka_t_m10, ka_t_m1000000000]; omega
    have hi1 : (ii + 1).toInt = ((i + 1 : Nat) : Int) := by rw [ka_add (by simp only [ka_t_0, ka_t_1, ka_t_2, ka_t_3, ka_t_4, ka_t_5, ka_t_6, ka_t_7, ka_t_8, ka_t_9, ka_t_10, ka_t_11, ka_t_12, ka_t_13, ka_t_14, ka_t_15, ka_t_16, ka_t_17, ka_t_18, ka_t_19, ka_t_20, ka_t_25, ka_t_26, ka_t_28, ka_t_30, ka_t_31, ka_t_32, ka_t_33, ka_t_37, ka_t_38, ka_t_39, ka_t_40, ka_t_41, ka_t_42, ka_t_43, ka_t_45, ka_t_47, ka_t_48, ka_t_50, ka_t_57, ka_t_60, ka_t_61, ka_t_62, ka_t_63, ka_t_64, ka_t_65, ka_t_69, ka_t_70, ka_t_71, ka_t_80, ka_t_85, ka_t_87, ka_t_98, ka_t_99, ka_t_100, ka_t_104, ka_t_107, ka_t_109, ka_t_110, ka_t_112, ka_t_115, ka_t_116, ka_t_117, ka_t_124, ka_t_125, ka_t_160, ka_t_200, ka_t_207, ka_t_255, ka_t_260, ka_t_400, ka_t_624, ka_t_625, ka_t_999, ka_t_9999, ka_t_10000, ka_t_20000, ka_t_20033, ka_t_999999, ka_t_1000000000, ka_t_m1, ka_t_m2, ka_t_m3, ka_t_m5, ka_t_m9, ka_t_m10, ka_t_m1000000000]; omega)]; simp only [ka_t_0, ka_t_1, ka_t_2, ka_t_3, ka_t_4, ka_t_5, ka_t_6, ka_t_7, ka_t_8, ka_t_9, ka_t_10, ka_t_11, ka_t_12, ka_t_13, ka_t_14, ka_t_15, ka_t_16, ka_t_17, ka_t_18, ka_t_19, ka_t_20, ka_t_25, ka_t_26, ka_t_28, ka_t_30, ka_t_31, ka_t_32, ka_t_33, ka_t_37, ka_t_38, ka_t_39, ka_t_40, ka_t_41, ka_t_42, ka_t_43, ka_t_45, ka_t_47, ka_t_48, ka_t_50, ka_t_57, ka_t_60, ka_t_61, ka_t_62, ka_t_63, ka_t_64, ka_t_65, ka_t_69, ka_t_70, ka_t_71, ka_t_80, ka_t_85, ka_t_87, ka_t_98, ka_t_99, ka_t_100, ka_t_104, ka_t_107, ka_t_109, ka_t_110, ka_t_112, ka_t_115, ka_t_116, ka_t_117, ka_t_124, ka_t_125, ka_t_160, ka_t_200, ka_t_207, ka_t_255, ka_t_260, ka_t_400, ka_t_624, ka_t_625, ka_t_999, ka_t_9999, ka_t_10000, ka_t_20000, ka_t_20033, ka_t_999999, ka_t_1000000000, ka_t_m1, ka_t_m2, ka_t_m3, ka_t_m5, ka_t_m9, ka_t_m10, ka_t_m1000000000]; omega
    have hi4 : i < 4 := by omega
    obtain ⟨a1, b1⟩ := ka_ixs (m := 4) hii hi4
    have o1 : ∀ r s, kn_row (kn_row X 68 r) 69 s p = X p := fun r s => (kn_row_off (by omega)).trans (kn_row_off (by omega))
    have o2 : ∀ r, kn_row X 68 r 69 = X 69 := fun r => kn_row_off (by decide)
    generalize hW : kn_row (kn_row (kn_row X 68 (kn_up (X 68) i 0)) 69 (kn_up (X 69) i 0)) (71 + i) (X p) = W
    have w68 : W 68 = kn_up (X 68) i 0 := by rw [← hW, kn_row_off (by omega), kn_row_off (by decide), kn_row_at]
    have w69 : W 69 = kn_up (X 69) i 0 := by rw [← hW, kn_row_off (by omega), kn_row_at]
    have wi : W (71 + i) = X p := by rw [← hW, kn_row_at]
    have wo : ∀ q, ¬ q = 68 → ¬ q = 69 → ¬ q = 71 + i → W q = X q := by intro q a b c; rw [← hW, kn_row_off c, kn_row_off b, kn_row_off a]
    obtain ⟨Y, hY, y1, y2, y3⟩ := ih (i + 1) (ii + 1) W (by omega) hi1
    have wp : W p = X p := wo p (by omega) (by omega) (by omega)
    refine ⟨Y, ?_, ?_, ?_, ?_⟩
    · rw [← hY, x23_7]
      simp only [x23_0, x23_1, x23_2, x23_5, x23_6, x23_8, x23_9, x23_12, x23_13, x23_16, x23_17, x23_18, x23_19, x23_20, x23_23, x23_24, x23_25, x23_26, x23_27, x23_30, x23_31, x23_32, x23_33, x23_36, x23_39, x23_42, x23_31 (Or.inl rfl) ka_k_70, ka_kk_i, ka_kk_n, ka_cl_i, ka_cl_r, ka_cl_n, or_true, true_or, ka_ne2, ka_ne4, ka_ne5, ka_ne10, not_false_eq_true, not_true_eq_false, if_true, if_false, ka_k_0, ka_k_1, ka_k_2, ka_k_3, ka_k_4, ka_k_5, ka_k_6, ka_k_7, ka_k_8, ka_k_9, ka_k_10, ka_k_11, ka_k_12, ka_k_13, ka_k_14, ka_k_15, ka_k_16, ka_k_17, ka_k_18, ka_k_19, ka_k_20, ka_k_21, ka_k_22, ka_k_23, ka_k_24, ka_k_25, ka_k_26, ka_k_27, ka_k_28, ka_k_29, ka_k_30, ka_k_31, ka_k_32, ka_k_33, ka_k_34, ka_k_35, ka_k_36, ka_k_37, ka_k_38, ka_k_39, ka_k_40, ka_k_41, ka_k_42, ka_k_43, ka_k_44, ka_k_45, ka_k_46, ka_k_47, ka_k_48, ka_k_49, ka_k_50, ka_k_51, ka_k_52, ka_k_53, ka_k_54, ka_k_55, ka_k_56, ka_k_57, ka_k_58, ka_k_59, ka_k_60, ka_k_61, ka_k_62, ka_k_63, ka_k_64, ka_k_65, ka_k_66, ka_k_67, ka_k_68, ka_k_69, ka_k_70, ka_k_71, ka_k_72, ka_k_73, ka_k_74, ka_k_75, ka_k_76, ka_k_77, ka_k_78, ka_k_79, ka_k_80, ka_k_81, ka_k_82, ka_k_83, ka_k_84, ka_k_85, ka_k_86, ka_k_87, ka_k_88, ka_k_89, ka_k_90, ka_k_91, ka_k_92, ka_k_93, ka_k_94, ka_k_95, ka_k_96, ka_k_97, ka_k_98, ka_k_99, ka_k_100, ka_rf_0_0, ka_rf_0_1, ka_rf_0_2, ka_rf_0_4, ka_rf_0_5, ka_rf_0_6, ka_rf_0_7, ka_rf_0_8, ka_rf_0_9, ka_rf_61_0, ka_rf_61_2, ka_rf_67_0, ka_rf_67_1, ka_rf_67_2, ka_rf_75_0, ka_rf_87_0, ka_rf_87_1, ka_rf_87_2, ka_rf_87_4, ka_rf_87_11, ka_rf_87_12, ka_rf_87_14, ka_rf_87_15, ka_rf_87_16, ka_rf_87_19, ka_rf_87_20, ka_rf_87_21, ka_rf_87_22, ka_ln_63, ka_ln_64, ka_ln_65, ka_ln_68, ka_ln_69, ka_ln_70, ka_ln_76, ka_ln_77, ka_ln_78, ka_ln_80, ka_ln_82, ka_ln_84, ka_ln_86, ka_ln_88, ka_ln_89, ka_ln_90, ka_ln_91, ka_ln_92, ka_ln_93, ka_ln_94, ka_ln_95, ka_ln_96, ka_ln_97, ka_ln_98, ka_ln_99, ka_ln_100, h1, a1, b1, ka_ra70 hi4, ka_k71 hi4, kn_put_r, o2, sp_3 (ka_k71 hi4) hp, o1, hW]
    · intro t t1 t2
      by_cases e : t = i
      · subst e
        have z := y2 t (by omega)
        rw [z.1, z.2.1, z.2.2, w68, w69, wi, kn_up_at, kn_up_at]
        exact ⟨rfl, rfl, rfl⟩
      · have z := y1 t (by omega) t2
        rw [wp] at z
        exact z
    · intro t ht
      have z := y2 t (by omega)
      rw [z.1, z.2.1, z.2.2, w68, w69, kn_up_ne (by omega), kn_up_ne (by omega), wo (71 + t) (by omega) (by omega) (by omega)]
      exact ⟨rfl, rfl, rfl⟩
    · intro q a b c
      rw [y3 q a b c, wo q a b (by omega)]
theorem sp_23 {p : Nat} (hp : ka_k p = 0) (hpl : p < 67) {w : Int32} : ∃ Y, ka_ex sc (d + 1) 23 0 [.ref 67, .ref p, .int w, ka_nv] [] (ka_mem X) = some (none, ka_mem Y) ∧ RS Y 0 (X p) w ∧ (∀ q, (q < 67 ∨ 75 ≤ q) → Y q = X q) := by
  obtain ⟨Y, hY, y1, y2, y3⟩ := @sp_23l sc d p hp (by omega) w 4 0 0 (kn_row X 67 (kn_up (X 67) 3 w)) rfl rfl
  refine ⟨Y, ?_, ⟨?_, ?_, ?_⟩, ?_⟩
  · rw [← hY]
    simp only [x23_0, x23_1, x23_2, x23_5, x23_6, x23_8, x23_9, x23_12, x23_13, x23_16, x23_17, x23_18, x23_19, x23_20, x23_23, x23_24, x23_25, x23_26, x23_27, x23_30, x23_31, x23_32, x23_33, x23_36, x23_39, x23_42, ka_kk_i, ka_kk_n, ka_cl_i, ka_cl_r, ka_cl_n, or_true, true_or, ka_ne2, ka_ne4, ka_ne5, ka_ne10, not_false_eq_true, not_true_eq_false, if_true, if_false, ka_k_0, ka_k_1, ka_k_2, ka_k_3, ka_k_4, ka_k_5, ka_k_6, ka_k_7, ka_k_8, ka_k_9, ka_k_10, ka_k_11, ka_k_12, ka_k_13, ka_k_14, ka_k_15, ka_k_16, ka_k_17, ka_k_18, ka_k_19, ka_k_20, ka_k_21, ka_k_22, ka_k_23, ka_k_24, ka_k_25, ka_k_26, ka_k_27, ka_k_28, ka_k_29, ka_k_30, ka_k_31, ka_k_32, ka_k_33, ka_k_34, ka_k_35, ka_k_36, ka_k_37, ka_k_38, ka_k_39, ka_k_40, ka_k_41, ka_k_42, ka_k_43, ka_k_44, ka_k_45, ka_k_46, ka_k_47, ka_k_48, ka_k_49, ka_k_50, ka_k_51, ka_k_52, ka_k_53, ka_k_54, ka_k_55, ka_k_56, ka_k_57, ka_k_58, ka_k_59, ka_k_60, ka_k_61, ka_k_62, ka_k_63, ka_k_64, ka_k_65, ka_k_66, ka_k_67, ka_k_68, ka_k_69, ka_k_70, ka_k_71, ka_k_72, ka_k_73, ka_k_74, ka_k_75, ka_k_76, ka_k_77, ka_k_78, ka_k_79, ka_k_80, ka_k_81, ka_k_82, ka_k_83, ka_k_84, ka_k_85, ka_k_86, ka_k_87, ka_k_88, ka_k_89, ka_k_90, ka_k_91, ka_k_92, ka_k_93, ka_k_94, ka_k_95, ka_k_96, ka_k_97, ka_k_98, ka_k_99, ka_k_100, ka_rf_0_0, ka_rf_0_1, ka_rf_0_2, ka_rf_0_4, ka_rf_0_5, ka_rf_0_6, ka_rf_0_7, ka_rf_0_8, ka_rf_0_9, ka_rf_61_0, ka_rf_61_2, ka_rf_67_0, ka_rf_67_1, ka_rf_67_2, ka_rf_75_0, ka_rf_87_0, ka_rf_87_1, ka_rf_87_2, ka_rf_87_4, ka_rf_87_11, ka_rf_87_12, ka_rf_87_14, ka_rf_87_15, ka_rf_87_16, ka_rf_87_19, ka_rf_87_20, ka_rf_87_21, ka_rf_87_22, ka_ln_63, ka_ln_64, ka_ln_65, ka_ln_68, ka_ln_69, ka_ln_70, ka_ln_76, ka_ln_77, ka_ln_78, ka_ln_80, ka_ln_82, ka_ln_84, ka_ln_86, ka_ln_88, ka_ln_89, ka_ln_90, ka_ln_91, ka_ln_92, ka_ln_93, ka_ln_94, ka_ln_95, ka_ln_96, ka_ln_97, ka_ln_98, ka_ln_99, ka_ln_100, kn_put_r]
  · rw [y3 67 (by decide) (by decide) (by decide), kn_row_at, kn_up_at]
  · intro t ht
    have e : ∀ j, j < 4 → ka_dg 0 j = 0 := by decide
    rw [(y1 t (by omega) ht).1, e t ht]
    rfl
  · intro t ht
    rw [(y1 t (by omega) ht).2.2, kn_row_off (by omega), rb_0 ht]
  · intro q hq
    rw [y3 q (by omega) (by omega) (by omega), kn_row_off (by omega)]
theorem sp_8o {p : Nat} (hp : ka_k p = 0) {stone water : Int32} (hs : 0 ≤ stone.toInt ∧ stone.toInt ≤ 3) : ka_ex sc (d + 2) 8 0 [.ref p, .int stone, .int 1, .int water, ka_nv] [] (ka_mem X) = some (none, ka_mem (kn_row X p (kn_trn stone water (X p)))) := sp_8 hp hs (by decide)
theorem s24_3 {w : Int32} (hw : X 67 3 = w)  (h3 : ¬ X 68 3 = 4) : ka_ex sc (d + 3) 24 0 [.ref 67, ka_nv, ka_nv] [] (ka_mem X) = some (none, ka_mem (kn_row (kn_row X 68 (kn_up (X 68) 3 (X 68 3 + 1))) 74 (kn_trn 3 w (X 74)))) := by
  have r0 : ka_ra 70 0 = 71 := ka_ra70 (by decide)
  have n0 : ka_in 0 4 := ka_inI.mpr (by decide)
  have r1 : ka_ra 70 1 = 72 := ka_ra70 (by decide)
  have n1 : ka_in 1 4 := ka_inI.mpr (by decide)
  have r2 : ka_ra 70 2 = 73 := ka_ra70 (by decide)
  have n2 : ka_in 2 4 := ka_inI.mpr (by decide)
  have r3 : ka_ra 70 3 = 74 := ka_ra70 (by decide)
  have n3 : ka_in 3 4 := ka_inI.mpr (by decide)
  have a32 : (3 + -1 : Int32) = 2 := by decide
  have a21 : (2 + -1 : Int32) = 1 := by decide
  have a10 : (1 + -1 : Int32) = 0 := by decide
  have p01 : (0 + 1 : Int32) = 1 := by decide
  have p12 : (1 + 1 : Int32) = 2 := by decide
  have p23 : (2 + 1 : Int32) = 3 := by decide
  have p34 : (3 + 1 : Int32) = 4 := by decide
  have l3 : ((0 : Int32) < 3) = True := by decide
  have l2 : ((0 : Int32) < 2) = True := by decide
  have l1 : ((0 : Int32) < 1) = True := by decide
  have l0 : ((0 : Int32) < 0) = False := by decide
  have m1 : ((1 : Int32) < 4) = True := by decide
  have m2 : ((2 : Int32) < 4) = True := by decide
  have m3 : ((3 : Int32) < 4) = True := by decide
  have m4 : ((4 : Int32) < 4) = False := by decide
  have t0 : 0 ≤ (0 : Int32).toInt ∧ (0 : Int32).toInt ≤ 3 := by decide
  have t1 : 0 ≤ (1 : Int32).toInt ∧ (1 : Int32).toInt ≤ 3 := by decide
  have t2 : 0 ≤ (2 : Int32).toInt ∧ (2 : Int32).toInt ≤ 3 := by decide
  have t3 : 0 ≤ (3 : Int32).toInt ∧ (3 : Int32).toInt ≤ 3 := by decide
  simp only [x24_0, x24_1, x24_2, x24_3, x24_6, x24_7, x24_10, x24_11, x24_12, x24_13, x24_16, x24_17, x24_20, x24_21, x24_22, x24_23, x24_26, x24_29, x24_30, x24_33, x24_34, x24_35, x24_36, x24_37, x24_38, x24_39, x24_40, x24_43, x24_44, x24_45, x24_46, x24_47, x24_48, x24_51, x24_54, x24_55, x24_56, x24_57, x24_58, x24_59, x24_60, x24_63, x24_64, x24_67, x24_68, x24_69, x24_70, x24_73, x24_74, x24_75, x24_78, x24_81, x24_84, x24_44 (Or.inl rfl) ka_k_70, x24_68 (Or.inl rfl) ka_k_70, x24_74 (Or.inl rfl) ka_k_70, ka_kk_i, ka_kk_n, ka_cl_i, ka_cl_r, ka_cl_n, or_true, true_or, ka_ne2, ka_ne4, ka_ne5, ka_ne10, not_false_eq_true, not_true_eq_false, if_true, if_false, ka_k_0, ka_k_1, ka_k_2, ka_k_3, ka_k_4, ka_k_5, ka_k_6, ka_k_7, ka_k_8, ka_k_9, ka_k_10, ka_k_11, ka_k_12, ka_k_13, ka_k_14, ka_k_15, ka_k_16, ka_k_17, ka_k_18, ka_k_19, ka_k_20, ka_k_21, ka_k_22, ka_k_23, ka_k_24, ka_k_25, ka_k_26, ka_k_27, ka_k_28, ka_k_29, ka_k_30, ka_k_31, ka_k_32, ka_k_33, ka_k_34, ka_k_35, ka_k_36, ka_k_37, ka_k_38, ka_k_39, ka_k_40, ka_k_41, ka_k_42, ka_k_43, ka_k_44, ka_k_45, ka_k_46, ka_k_47, ka_k_48, ka_k_49, ka_k_50, ka_k_51, ka_k_52, ka_k_53, ka_k_54, ka_k_55, ka_k_56, ka_k_57, ka_k_58, ka_k_59, ka_k_60, ka_k_61, ka_k_62, ka_k_63, ka_k_64, ka_k_65, ka_k_66, ka_k_67, ka_k_68, ka_k_69, ka_k_70, ka_k_71, ka_k_72, ka_k_73, ka_k_74, ka_k_75, ka_k_76, ka_k_77, ka_k_78, ka_k_79, ka_k_80, ka_k_81, ka_k_82, ka_k_83, ka_k_84, ka_k_85, ka_k_86, ka_k_87, ka_k_88, ka_k_89, ka_k_90, ka_k_91, ka_k_92, ka_k_93, ka_k_94, ka_k_95, ka_k_96, ka_k_97, ka_k_98, ka_k_99, ka_k_100, ka_rf_0_0, ka_rf_0_1, ka_rf_0_2, ka_rf_0_4, ka_rf_0_5, ka_rf_0_6, ka_rf_0_7, ka_rf_0_8, ka_rf_0_9, ka_rf_61_0, ka_rf_61_2, ka_rf_67_0, ka_rf_67_1, ka_rf_67_2, ka_rf_75_0, ka_rf_87_0, ka_rf_87_1, ka_rf_87_2, ka_rf_87_4, ka_rf_87_11, ka_rf_87_12, ka_rf_87_14, ka_rf_87_15, ka_rf_87_16, ka_rf_87_19, ka_rf_87_20, ka_rf_87_21, ka_rf_87_22, ka_ln_63, ka_ln_64, ka_ln_65, ka_ln_68, ka_ln_69, ka_ln_70, ka_ln_76, ka_ln_77, ka_ln_78, ka_ln_80, ka_ln_82, ka_ln_84, ka_ln_86, ka_ln_88, ka_ln_89, ka_ln_90, ka_ln_91, ka_ln_92, ka_ln_93, ka_ln_94, ka_ln_95, ka_ln_96, ka_ln_97, ka_ln_98, ka_ln_99, ka_ln_100, ka_c_0, ka_c_1, ka_c_2, ka_c_3, ka_c_4, ka_c_5, ka_c_6, ka_c_7, ka_c_8, ka_c_9, ka_c_10, ka_c_11, ka_c_12, ka_c_13, ka_c_14, ka_c_15, ka_c_16, ka_c_17, ka_c_18, ka_c_19, ka_c_20, ka_c_28, ka_c_40, ka_c_50, ka_c_87, kn_put_r, kn_row_at, kn_row_row, kn_row_off, kn_up_at, kn_up_ne, Nat.reduceEqDiff, reduceCtorEq, hw, h3, r0, r1, r2, r3, n0, n1, n2, n3, a32, a21, a10, p01, p12, p23, p34, l3, l2, l1, l0, m1, m2, m3, m4, sp_8o ka_k_74 t3, sp_3 ka_k_72 ka_k_74, sp_3 ka_k_73 ka_k_74, sp_3 ka_k_74 ka_k_74]
theorem s24_2 {w : Int32} (hw : X 67 3 = w) (h3 : X 68 3 = 4) (h2 : ¬ X 68 2 = 4) : ka_ex sc (d + 3) 24 0 [.ref 67, ka_nv, ka_nv] [] (ka_mem X) = some (none, ka_mem (kn_row (kn_row (kn_row X 68 (kn_up (kn_up (X 68) 3 0) 2 (X 68 2 + 1))) 73 (kn_trn 2 w (X 73))) 74 (kn_trn 2 w (X 73)))) := by
  have r0 : ka_ra 70 0 = 71 := ka_ra70 (by decide)
  have n0 : ka_in 0 4 := ka_inI.mpr (by decide)
  have r1 : ka_ra 70 1 = 72 := ka_ra70 (by decide)
  have n1 : ka_in 1 4 := ka_inI.mpr (by decide)
  have r2 : ka_ra 70 2 = 73 := ka_ra70 (by decide)
  have n2 : ka_in 2 4 := ka_inI.mpr (by decide)
  have r3 : ka_ra 70 3 = 74 := ka_ra70 (by decide)
  have n3 : ka_in 3 4 := ka_inI.mpr (by decide)
  have a32 : (3 + -1 : Int32) = 2 := by decide
  have a21 : (2 + -1 : Int32) = 1 := by decide
  have a10 : (1 + -1 : Int32) = 0 := by decide
  have p01 : (0 + 1 : Int32) = 1 := by decide
  have p12 : (1 + 1 : Int32) = 2 := by decide
  have p23 : (2 + 1 : Int32) = 3 := by decide
  have p34 : (3 + 1 : Int32) = 4 := by decide
  have l3 : ((0 : Int32) < 3) = True := by decide
  have l2 : ((0 : Int32) < 2) = True := by decide
  have l1 : ((0 : Int32) < 1) = True := by decide
  have l0 : ((0 : Int32) < 0) = False := by decide
  have m1 : ((1 : Int32) < 4) = True := by decide
  have m2 : ((2 : Int32) < 4) = True := by decide
  have m3 : ((3 : Int32) < 4) = True := by decide
  have m4 : ((4 : Int32) < 4) = False := by decide
  have t0 : 0 ≤ (0 : Int32).toInt ∧ (0 : Int32).toInt ≤ 3 := by decide
  have t1 : 0 ≤ (1 : Int32).toInt ∧ (1 : Int32).toInt ≤ 3 := by decide
  have t2 : 0 ≤ (2 : Int32).toInt ∧ (2 : Int32).toInt ≤ 3 := by decide
  have t3 : 0 ≤ (3 : Int32).toInt ∧ (3 : Int32).toInt ≤ 3 := by decide
  simp only [x24_0, x24_1, x24_2, x24_3, x24_6, x24_7, x24_10, x24_11, x24_12, x24_13, x24_16, x24_17, x24_20, x24_21, x24_22, x24_23, x24_26, x24_29, x24_30, x24_33, x24_34, x24_35, x24_36, x24_37, x24_38, x24_39, x24_40, x24_43, x24_44, x24_45, x24_46, x24_47, x24_48, x24_51, x24_54, x24_55, x24_56, x24_57, x24_58, x24_59, x24_60, x24_63, x24_64, x24_67, x24_68, x24_69, x24_70, x24_73, x24_74, x24_75, x24_78, x24_81, x24_84, x24_44 (Or.inl rfl) ka_k_70, x24_68 (Or.inl rfl) ka_k_70, x24_74 (Or.inl rfl) ka_k_70, ka_kk_i, ka_kk_n, ka_cl_i, ka_cl_r, ka_cl_n, or_true, true_or, ka_ne2, ka_ne4, ka_ne5, ka_ne10, not_false_eq_true, not_true_eq_false, if_true, if_false, ka_k_0, ka_k_1, ka_k_2, ka_k_3, ka_k_4, ka_k_5, ka_k_6, ka_k_7, ka_k_8, ka_k_9, ka_k_10, ka_k_11, ka_k_12, ka_k_13, ka_k_14, ka_k_15, ka_k_16, ka_k_17, ka_k_18, ka_k_19, ka_k_20, ka_k_21, ka_k_22, ka_k_23, ka_k_24, ka_k_25, ka_k_26, ka_k_27, ka_k_28, ka_k_29, ka_k_30, ka_k_31, ka_k_32, ka_k_33, ka_k_34, ka_k_35, ka_k_36, ka_k_37, ka_k_38, ka_k_39, ka_k_40, ka_k_41, ka_k_42, ka_k_43, ka_k_44, ka_k_45, ka_k_46, ka_k_47, ka_k_48, ka_k_49, ka_k_50, ka_k_51, ka_k_52, ka_k_53, ka_k_54, ka_k_55, ka_k_56, ka_k_57, ka_k_58, ka_k_59, ka_k_60, ka_k_61, ka_k_62, ka_k_63, ka_k_64, ka_k_65, ka_k_66, ka_k_67, ka_k_68, ka_k_69, ka_k_70, ka_k_71, ka_k_72, ka_k_73, ka_k_74, ka_k_75, ka_k_76, ka_k_77, ka_k_78, ka_k_79, ka_k_80, ka_k_81, ka_k_82, ka_k_83, ka_k_84, ka_k_85, ka_k_86, ka_k_87, ka_k_88, ka_k_89, ka_k_90, ka_k_91, ka_k_92, ka_k_93, ka_k_94, ka_k_95, ka_k_96, ka_k_97, ka_k_98, ka_k_99, ka_k_100, ka_rf_0_0, ka_rf_0_1, ka_rf_0_2, ka_rf_0_4, ka_rf_0_5, ka_rf_0_6, ka_rf_0_7, ka_rf_0_8, ka_rf_0_9, ka_rf_61_0, ka_rf_61_2, ka_rf_67_0, ka_rf_67_1, ka_rf_67_2, ka_rf_75_0, ka_rf_87_0, ka_rf_87_1, ka_rf_87_2, ka_rf_87_4, ka_rf_87_11, ka_rf_87_12, ka_rf_87_14, ka_rf_87_15, ka_rf_87_16, ka_rf_87_19, ka_rf_87_20, ka_rf_87_21, ka_rf_87_22, ka_ln_63, ka_ln_64, ka_ln_65, ka_ln_68, ka_ln_69, ka_ln_70, ka_ln_76, ka_ln_77, ka_ln_78, ka_ln_80, ka_ln_82, ka_ln_84, ka_ln_86, ka_ln_88, ka_ln_89, ka_ln_90, ka_ln_91, ka_ln_92, ka_ln_93, ka_ln_94, ka_ln_95, ka_ln_96, ka_ln_97, ka_ln_98, ka_ln_99, ka_ln_100, ka_c_0, ka_c_1, ka_c_2, ka_c_3, ka_c_4, ka_c_5, ka_c_6, ka_c_7, ka_c_8, ka_c_9, ka_c_10, ka_c_11, ka_c_12, ka_c_13, ka_c_14, ka_c_15, ka_c_16, ka_c_17, ka_c_18, ka_c_19, ka_c_20, ka_c_28, ka_c_40, ka_c_50, ka_c_87, kn_put_r, kn_row_at, kn_row_row, kn_row_off, kn_up_at, kn_up_ne, Nat.reduceEqDiff, reduceCtorEq, hw, h3, h2, r0, r1, r2, r3, n0, n1, n2, n3, a32, a21, a10, p01, p12, p23, p34, l3, l2, l1, l0, m1, m2, m3, m4, sp_8o ka_k_73 t2, sp_3 ka_k_72 ka_k_73, sp_3 ka_k_73 ka_k_73, sp_3 ka_k_74 ka_k_73]
theorem s24_1 {w : Int32} (hw : X 67 3 = w) (h3 : X 68 3 = 4) (h2 : X 68 2 = 4) (h1 : ¬ X 68 1 = 4) : ka_ex sc (d + 3) 24 0 [.ref 67, ka_nv, ka_nv] [] (ka_mem X) = some (none, ka_mem (kn_row (kn_row (kn_row (kn_row X 68 (kn_up (kn_up (kn_up (X 68) 3 0) 2 0) 1 (X 68 1 + 1))) 72 (kn_trn 1 w (X 72))) 73 (kn_trn 1 w (X 72))) 74 (kn_trn 1 w (X 72)))) := by
  have r0 : ka_ra 70 0 = 71 := ka_ra70 (by decide)
  have n0 : ka_in 0 4 := ka_inI.mpr (by decide)
  have r1 : ka_ra 70 1 = 72 := ka_ra70 (by decide)
  have n1 : ka_in 1 4 := ka_inI.mpr (by decide)
  have r2 : ka_ra 70 2 = 73 := ka_ra70 (by decide)
  have n2 : ka_in 2 4 := ka_inI.mpr (by decide)
  have r3 : ka_ra 70 3 = 74 := ka_ra70 (by decide)
  have n3 : ka_in 3 4 := ka_inI.mpr (by decide)
  have a32 : (3 + -1 : Int32) = 2 := by decide
  have a21 : (2 + -1 : Int32) = 1 := by decide
  have a10 : (1 + -1 : Int32) = 0 := by decide
  have p01 : (0 + 1 : Int32) = 1 := by decide
  have p12 : (1 + 1 : Int32) = 2 := by decide
  have p23 : (2 + 1 : Int32) = 3 := by decide
  have p34 : (3 + 1 : Int32) = 4 := by decide
  have l3 : ((0 : Int32) < 3) = True := by decide
  have l2 : ((0 : Int32) < 2) = True := by decide
  have l1 : ((0 : Int32) < 1) = True := by decide
  have l0 : ((0 : Int32) < 0) = False := by decide
  have m1 : ((1 : Int32) < 4) = True := by decide
  have m2 : ((2 : Int32) < 4) = True := by decide
  have m3 : ((3 : Int32) < 4) = True := by decide
  have m4 : ((4 : Int32) < 4) = False := by decide
  have t0 : 0 ≤ (0 : Int32).toInt ∧ (0 : Int32).toInt ≤ 3 := by decide
  have t1 : 0 ≤ (1 : Int32).toInt ∧ (1 : Int32).toInt ≤ 3 := by decide
  have t2 : 0 ≤ (2 : Int32).toInt ∧ (2 : Int32).toInt ≤ 3 := by decide
  have t3 : 0 ≤ (3 : Int32).toInt ∧ (3 : Int32).toInt ≤ 3 := by decide
  simp only [x24_0, x24_1, x24_2, x24_3, x24_6, x24_7, x24_10, x24_11, x24_12, x24_13, x24_16, x24_17, x24_20, x24_21, x24_22, x24_23, x24_26, x24_29, x24_30, x24_33, x24_34, x24_35, x24_36, x24_37, x24_38, x24_39, x24_40, x24_43, x24_44, x24_45, x24_46, x24_47, x24_48, x24_51, x24_54, x24_55, x24_56, x24_57, x24_58, x24_59, x24_60, x24_63, x24_64, x24_67, x24_68, x24_69, x24_70, x24_73, x24_74, x24_75, x24_78, x24_81, x24_84, x24_44 (Or.inl rfl) ka_k_70, x24_68 (Or.inl rfl) ka_k_70, x24_74 (Or.inl rfl) ka_k_70, ka_kk_i, ka_kk_n, ka_cl_i, ka_cl_r, ka_cl_n, or_true, true_or, ka_ne2, ka_ne4, ka_ne5, ka_ne10, not_false_eq_true, not_true_eq_false, if_true, if_false, ka_k_0, ka_k_1, ka_k_2, ka_k_3, ka_k_4, ka_k_5, ka_k_6, ka_k_7, ka_k_8, ka_k_9, ka_k_10, ka_k_11, ka_k_12, ka_k_13, ka_k_14, ka_k_15, ka_k_16, ka_k_17, ka_k_18, ka_k_19, ka_k_20, ka_k_21, ka_k_22, ka_k_23, ka_k_24, ka_k_25, ka_k_26, ka_k_27, ka_k_28, ka_k_29, ka_k_30, ka_k_31, ka_k_32, ka_k_33, ka_k_34, ka_k_35, ka_k_36, ka_k_37, ka_k_38, ka_k_39, ka_k_40, ka_k_41, ka_k_42, ka_k_43, ka_k_44, ka_k_45, ka_k_46, ka_k_47, ka_k_48, ka_k_49, ka_k_50, ka_k_51, ka_k_52, ka_k_53, ka_k_54, ka_k_55, ka_k_56, ka_k_57, ka_k_58, ka_k_59, ka_k_60, ka_k_61, ka_k_62, ka_k_63, ka_k_64, ka_k_65, ka_k_66, ka_k_67, ka_k_68, ka_k_69, ka_k_70, ka_k_71, ka_k_72, ka_k_73, ka_k_74, ka_k_75, ka_k_76, ka_k_77, ka_k_78, ka_k_79, ka_k_80, ka_k_81, ka_k_82, ka_k_83, ka_k_84, ka_k_85, ka_k_86, ka_k_87, ka_k_88, ka_k_89, ka_k_90, ka_k_91, ka_k_92, ka_k_93, ka_k_94, ka_k_95, ka_k_96, ka_k_97, ka_k_98, ka_k_99, ka_k_100, ka_rf_0_0, ka_rf_0_1, ka_rf_0_2, ka_rf_0_4, ka_rf_0_5, ka_rf_0_6, ka_rf_0_7, ka_rf_0_8, ka_rf_0_9, ka_rf_61_0, ka_rf_61_2, ka_rf_67_0, ka_rf_67_1, ka_rf_67_2, ka_rf_75_0, ka_rf_87_0, ka_rf_87_1, ka_rf_87_2, ka_rf_87_4, ka_rf_87_11, ka_rf_87_12, ka_rf_87_14, ka_rf_87_15, ka_rf_87_16, ka_rf_87_19, ka_rf_87_20, ka_rf_87_21, ka_rf_87_22, ka_ln_63, ka_ln_64, ka_ln_65, ka_ln_68, ka_ln_69, ka_ln_70, ka_ln_76, ka_ln_77, ka_ln_78, ka_ln_80, ka_ln_82, ka_ln_84, ka_ln_86, ka_ln_88, ka_ln_89, ka_ln_90, ka_ln_91, ka_ln_92, ka_ln_93, ka_ln_94, ka_ln_95, ka_ln_96, ka_ln_97, ka_ln_98, ka_ln_99, ka_ln_100, ka_c_0, ka_c_1, ka_c_2, ka_c_3, ka_c_4, ka_c_5, ka_c_6, ka_c_7, ka_c_8, ka_c_9, ka_c_10, ka_c_11, ka_c_12, ka_c_13, ka_c_14, ka_c_15, ka_c_16, ka_c_17, ka_c_18, ka_c_19, ka_c_20, ka_c_28, ka_c_40, ka_c_50, ka_c_87, kn_put_r, kn_row_at, kn_row_row, kn_row_off, kn_up_at, kn_up_ne, Nat.reduceEqDiff, reduceCtorEq, hw, h3, h2, h1, r0, r1, r2, r3, n0, n1, n2, n3, a32, a21, a10, p01, p12, p23, p34, l3, l2, l1, l0, m1, m2, m3, m4, sp_8o ka_k_72 t1, sp_3 ka_k_72 ka_k_72, sp_3 ka_k_73 ka_k_72, sp_3 ka_k_74 ka_k_72]
theorem s24_0 {w : Int32} (hw : X 67 3 = w) (h3 : X 68 3 = 4) (h2 : X 68 2 = 4) (h1 : X 68 1 = 4) : ka_ex sc (d + 3) 24 0 [.ref 67, ka_nv, ka_nv] [] (ka_mem X) = some (none, ka_mem (kn_row (kn_row (kn_row (kn_row (kn_row X 68 (kn_up (kn_up (kn_up (kn_up (X 68) 3 0) 2 0) 1 0) 0 (X 68 0 + 1))) 71 (kn_trn 0 w (X 71))) 72 (kn_trn 0 w (X 71))) 73 (kn_trn 0 w (X 71))) 74 (kn_trn 0 w (X 71)))) := by
  have r0 : ka_ra 70 0 = 71 := ka_ra70 (by decide)
  have n0 : ka_in 0 4 := ka_inI.mpr (by decide)
  have r1 : ka_ra 70 1 = 72 := ka_ra70 (by decide)
  have n1 : ka_in 1 4 := ka_inI.mpr (by decide)
  have r2 : ka_ra 70 2 = 73 := ka_ra70 (by decide)
  have n2 : ka_in 2 4 := ka_inI.mpr (by decide)
  have r3 : ka_ra 70 3 = 74 := ka_ra70 (by decide)
  have n3 : ka_in 3 4 := ka_inI.mpr (by decide)
  have a32 : (3 + -1 : Int32) = 2 := by decide
  have a21 : (2 + -1 : Int32) = 1 := by decide
  have a10 : (1 + -1 : Int32) = 0 := by decide
  have p01 : (0 + 1 : Int32) = 1 := by decide
  have p12 : (1 + 1 : Int32) = 2 := by decide
  have p23 : (2 + 1 : Int32) = 3 := by decide
  have p34 : (3 + 1 : Int32) = 4 := by decide
  have l3 : ((0 : Int32) < 3) = True := by decide
  have l2 : ((0 : Int32) < 2) = True := by decide
  have l1 : ((0 : Int32) < 1) = True := by decide
  have l0 : ((0 : Int32) < 0) = False := by decide
  have m1 : ((1 : Int32) < 4) = True := by decide
  have m2 : ((2 : Int32) < 4) = True := by decide
  have m3 : ((3 : Int32) < 4) = True := by decide
  have m4 : ((4 : Int32) < 4) = False := by decide
  have t0 : 0 ≤ (0 : Int32).toInt ∧ (0 : Int32).toInt ≤ 3 := by decide
  have t1 : 0 ≤ (1 : Int32).toInt ∧ (1 : Int32).toInt ≤ 3 := by decide
  have t2 : 0 ≤ (2 : Int32).toInt ∧ (2 : Int32).toInt ≤ 3 := by decide
  have t3 : 0 ≤ (3 : Int32).toInt ∧ (3 : Int32).toInt ≤ 3 := by decide
  simp only [x24_0, x24_1, x24_2, x24_3, x24_6, x24_7, x24_10, x24_11, x24_12, x24_13, x24_16, x24_17, x24_20, x24_21, x24_22, x24_23, x24_26, x24_29, x24_30, x24_33, x24_34, x24_35, x24_36, x24_37, x24_38, x24_39, x24_40, x24_43, x24_44, x24_45, x24_46, x24_47, x24_48, x24_51, x24_54, x24_55, x24_56, x24_57, x24_58, x24_59, x24_60, x24_63, x24_64, x24_67, x24_68, x24_69, x24_70, x24_73, x24_74, x24_75, x24_78, x24_81, x24_84, x24_44 (Or.inl rfl) ka_k_70, x24_68 (Or.inl rfl) ka_k_70, x24_74 (Or.inl rfl) ka_k_70, ka_kk_i, ka_kk_n, ka_cl_i, ka_cl_r, ka_cl_n, or_true, true_or, ka_ne2, ka_ne4, ka_ne5, ka_ne10, not_false_eq_true, not_true_eq_false, if_true, if_false, ka_k_0, ka_k_1, ka_k_2, ka_k_3, ka_k_4, ka_k_5, ka_k_6, ka_k_7, ka_k_8, ka_k_9, ka_k_10, ka_k_11, ka_k_12, ka_k_13, ka_k_14, ka_k_15, ka_k_16, ka_k_17, ka_k_18, ka_k_19, ka_k_20, ka_k_21, ka_k_22, ka_k_23, ka_k_24, ka_k_25, ka_k_26, ka_k_27, ka_k_28, ka_k_29, ka_k_30, ka_k_31, ka_k_32, ka_k_33, ka_k_34, ka_k_35, ka_k_36, ka_k_37, ka_k_38, ka_k_39, ka_k_40, ka_k_41, ka_k_42, ka_k_43, ka_k_44, ka_k_45, ka_k_46, ka_k_47, ka_k_48, ka_k_49, ka_k_50, ka_k_51, ka_k_52, ka_k_53, ka_k_54, ka_k_55, ka_k_56, ka_k_57, ka_k_58, ka_k_59, ka_k_60, ka_k_61, ka_k_62, ka_k_63, ka_k_64, ka_k_65, ka_k_66, ka_k_67, ka_k_68, ka_k_69, ka_k_70, ka_k_71, ka_k_72, ka_k_73, ka_k_74, ka_k_75, ka_k_76, ka_k_77, ka_k_78, ka_k_79, ka_k_80, ka_k_81, ka_k_82, ka_k_83, ka_k_84, ka_k_85, ka_k_86, ka_k_87, ka_k_88, ka_k_89, ka_k_90, ka_k_91, ka_k_92, ka_k_93, ka_k_94, ka_k_95, ka_k_96, ka_k_97, ka_k_98, ka_k_99, ka_k_100, ka_rf_0_0, ka_rf_0_1, ka_rf_0_2, ka_rf_0_4, ka_rf_0_5, ka_rf_0_6, ka_rf_0_7, ka_rf_0_8, ka_rf_0_9, ka_rf_61_0, ka_rf_61_2, ka_rf_67_0, ka_rf_67_1, ka_rf_67_2, ka_rf_75_0, ka_rf_87_0, ka_rf_87_1, ka_rf_87_2, ka_rf_87_4, ka_rf_87_11, ka_rf_87_12, ka_rf_87_14, ka_rf_87_15, ka_rf_87_16, ka_rf_87_19, ka_rf_87_20, ka_rf_87_21, ka_rf_87_22, ka_ln_63, ka_ln_64, ka_ln_65, ka_ln_68, ka_ln_69, ka_ln_70, ka_ln_76, ka_ln_77, ka_ln_78, ka_ln_80, ka_ln_82, ka_ln_84, ka_ln_86, ka_ln_88, ka_ln_89, ka_ln_90, ka_ln_91, ka_ln_92, ka_ln_93, ka_ln_94, ka_ln_95, ka_ln_96, ka_ln_97, ka_ln_98, ka_ln_99, ka_ln_100, ka_c_0, ka_c_1, ka_c_2, ka_c_3, ka_c_4, ka_c_5, ka_c_6, ka_c_7, ka_c_8, ka_c_9, ka_c_10, ka_c_11, ka_c_12, ka_c_13, ka_c_14, ka_c_15, ka_c_16, ka_c_17, ka_c_18, ka_c_19, ka_c_20, ka_c_28, ka_c_40, ka_c_50, ka_c_87, kn_put_r, kn_row_at, kn_row_row, kn_row_off, kn_up_at, kn_up_ne, Nat.reduceEqDiff, reduceCtorEq, hw, h3, h2, h1, r0, r1, r2, r3, n0, n1, n2, n3, a32, a21, a10, p01, p12, p23, p34, l3, l2, l1, l0, m1, m2, m3, m4, sp_8o ka_k_71 t0, sp_3 ka_k_72 ka_k_71, sp_3 ka_k_73 ka_k_71, sp_3 ka_k_74 ka_k_71]
theorem ka_dg_s {r q : Nat} (hr : r < 624) (hq : q < 4) (h4 : ∀ t, q < t → t < 4 → ka_dg r t = 4) (h3 : q = 0 ∨ ¬ ka_dg r q = 4) : (∀ t, t < q → ka_dg (r + 1) t = ka_dg r t) ∧ ka_dg (r + 1) q = ka_dg r q + 1 ∧ (∀ t, q < t → t < 4 → ka_dg (r + 1) t = 0) ∧ ka_dg r q < 4 := by
  have e0 : ∀ r, ka_dg r 0 = r / 125 % 5 := fun _ => rfl
  have e1 : ∀ r, ka_dg r 1 = r / 25 % 5 := fun _ => rfl
  have e2 : ∀ r, ka_dg r 2 = r / 5 % 5 := fun _ => rfl
  have e3 : ∀ r, ka_dg r 3 = r % 5 := fun _ => rfl
  rcases (by omega : q = 0 ∨ q = 1 ∨ q = 2 ∨ q = 3) with rfl | rfl | rfl | rfl
  · have a1 := h4 1 (by decide) (by decide)
    have a2 := h4 2 (by decide) (by decide)
    have a3 := h4 3 (by decide) (by decide)
    rw [e1] at a1
    rw [e2] at a2
    rw [e3] at a3
    refine ⟨fun t ht => by omega, by rw [e0, e0]; omega, fun t ht ht4 => ?_, by rw [e0]; omega⟩
    rcases (by omega : t = 1 ∨ t = 2 ∨ t = 3) with rfl | rfl | rfl
    · rw [e1]; omega
    · rw [e2]; omega
    · rw [e3]; omega
  · have a2 := h4 2 (by decide) (by decide)
    have a3 := h4 3 (by decide) (by decide)
    have b := h3.resolve_left (by decide)
    rw [e1] at b
    rw [e2] at a2
    rw [e3] at a3
    refine ⟨fun t ht => ?_, by rw [e1, e1]; omega, fun t ht ht4 => ?_, by rw [e1]; omega⟩
    · rcases (by omega : t = 0) with rfl
      rw [e0, e0]; omega
    · rcases (by omega : t = 2 ∨ t = 3) with rfl | rfl
      · rw [e2]; omega
      · rw [e3]; omega
  · have a3 := h4 3 (by decide) (by decide)
    have b := h3.resolve_left (by decide)
    rw [e2] at b
    rw [e3] at a3
    refine ⟨fun t ht => ?_, by rw [e2, e2]; omega, fun t ht ht4 => ?_, by rw [e2]; omega⟩
    · rcases (by omega : t = 0 ∨ t = 1) with rfl | rfl
      · rw [e0, e0]; omega
      · rw [e1, e1]; omega
    · rcases (by omega : t = 3) with rfl
      rw [e3]; omega
  · have b := h3.resolve_left (by decide)
    rw [e3] at b
    refine ⟨fun t ht => ?_, by rw [e3, e3]; omega, fun t ht ht4 => by omega, by rw [e3]; omega⟩
    rcases (by omega : t = 0 ∨ t = 1 ∨ t = 2) with rfl | rfl | rfl
    · rw [e0, e0]; omega
    · rw [e1, e1]; omega
    · rw [e2, e2]; omega
/-- what stands behind the step to the next recipe -/
theorem RS_s {Y : ka_X} {r q : Nat} {y : Nat → Int32} {w : Int32} (h : RS X r y w) (hr : r < 624) (hq : q < 4) (h4 : ∀ t, q < t → t < 4 → ka_dg r t = 4) (h3 : q = 0 ∨ ¬ ka_dg r q = 4) (y67 : Y 67 = X 67) (y1 : ∀ t, t < q → Y 68 t = X 68 t) (y2 : Y 68 q = X 68 q + 1) (y3 : ∀ t, q < t → t < 4 → Y 68 t = 0) (y4 : ∀ t, t < q → Y (71 + t) = X (71 + t)) (y5 : ∀ t, q ≤ t → t < 4 → Y (71 + t) = kn_trn (nI q) w (X (71 + q))) : RS Y (r + 1) y w := by
  obtain ⟨g1, g2, g3, g4⟩ := ka_dg_s hr hq h4 h3
  obtain ⟨h1, h2, h5⟩ := h
  refine ⟨by rw [y67]; exact h1, ?_, ?_⟩
  · intro t ht
    rcases (by omega : t < q ∨ t = q ∨ q < t) with e | e | e
    · rw [y1 t e, g1 t e]; exact h2 t ht
    · subst e
      rw [y2, g2, h2 t ht]
      exact ka_eq_lit (by rw [ka_add (by rw [ka_nIt (by omega)]; simp only [ka_t_0, ka_t_1, ka_t_2, ka_t_3, ka_t_4, ka_t_5, ka_t_6, ka_t_7, ka_t_8, ka_t_9, ka_t_10, ka_t_11, ka_t_12, ka_t_13, ka_t_14, ka_t_15, ka_t_16, ka_t_17, ka_t_18, ka_t_19, ka_t_20, ka_t_25, ka_t_26, ka_t_28, ka_t_30, ka_t_31, ka_t_32, ka_t_33, ka_t_37, ka_t_38, ka_t_39, ka_t_40, ka_t_41, ka_t_42, ka_t_43, ka_t_45, ka_t_47, ka_t_48, ka_t_50, ka_t_57, ka_t_60, ka_t_61, ka_t_62, ka_t_63, ka_t_64, ka_t_65, ka_t_69, ka_t_70, ka_t_71, ka_t_80, ka_t_85, ka_t_87, ka_t_98, ka_t_99, ka_t_100, ka_t_104, ka_t_107, ka_t_109, ka_t_110, ka_t_112, ka_t_115, ka_t_116, ka_t_117, ka_t_124, ka_t_125, ka_t_160, ka_t_200, ka_t_207, ka_t_255, ka_t_260, ka_t_400, ka_t_624, ka_t_625, ka_t_999, ka_t_9999, ka_t_10000, ka_t_20000, ka_t_20033, ka_t_999999, ka_t_1000000000, ka_t_m1, ka_t_m2, ka_t_m3, ka_t_m5, ka_t_m9, ka_t_m10, ka_t_m1000000000]; omega), ka_nIt (by omega), ka_nIt (by omega)]; simp only [ka_t_0, ka_t_1, ka_t_2, ka_t_3, ka_t_4, ka_t_5, ka_t_6, ka_t_7, ka_t_8, ka_t_9, ka_t_10, ka_t_11, ka_t_12, ka_t_13, ka_t_14, ka_t_15, ka_t_16, ka_t_17, ka_t_18, ka_t_19, ka_t_20, ka_t_25, ka_t_26, ka_t_28, ka_t_30, ka_t_31, ka_t_32, ka_t_33, ka_t_37, ka_t_38, ka_t_39, ka_t_40, ka_t_41, ka_t_42, ka_t_43, ka_t_45, ka_t_47, ka_t_48, ka_t_50, ka_t_57, ka_t_60, ka_t_61, ka_t_62, ka_t_63, ka_t_64, ka_t_65, ka_t_69, ka_t_70, ka_t_71, ka_t_80, ka_t_85, ka_t_87, ka_t_98, ka_t_99, ka_t_100, ka_t_104, ka_t_107, ka_t_109, ka_t_110, ka_t_112, ka_t_115, ka_t_116, ka_t_117, ka_t_124, ka_t_125, ka_t_160, ka_t_200, ka_t_207, ka_t_255, ka_t_260, ka_t_400, ka_t_624, ka_t_625, ka_t_999, ka_t_9999, ka_t_10000, ka_t_20000, ka_t_20033, ka_t_999999, ka_t_1000000000, ka_t_m1, ka_t_m2, ka_t_m3, ka_t_m5, ka_t_m9, ka_t_m10, ka_t_m1000000000]; omega)
    · rw [y3 t e ht, g3 t e ht]; rfl
  · have hqq : rb w y (r + 1) q = kn_trn (nI q) w (X (71 + q)) := by
      rw [h5 q hq]
      rcases Nat.eq_zero_or_pos q with e | e
      · subst e
        rw [rb, rb, g2, kn_it_s]
      · obtain ⟨j, rfl⟩ : ∃ j, q = j + 1 := ⟨q - 1, by omega⟩
        rw [rb, rb, g2, kn_it_s, rb_cg j (fun i hi => g1 i (by omega))]
    have hup : ∀ t, q ≤ t → t < 4 → rb w y (r + 1) t = kn_trn (nI q) w (X (71 + q)) := by
      intro t
      induction t with
      | zero =>
        intro e _
        have e0 : q = 0 := by omega
        subst e0
        exact hqq
      | succ t ih =>
        intro e ht
        rcases (by omega : q = t + 1 ∨ q ≤ t) with e2 | e2
        · rw [← e2]; exact hqq
        · rw [rb, g3 (t + 1) (by omega) ht, kn_it]
          exact ih e2 (by omega)
    intro t ht
    rcases (by omega : t < q ∨ q ≤ t) with e | e
    · rw [y4 t e, h5 t ht]
      exact rb_cg t (fun i hi => (g1 i (by omega)).symm)
    · rw [y5 t e ht, hup t e ht]
theorem sp_24 {r : Nat} {y : Nat → Int32} {w : Int32} (h : RS X r y w) (hr : r < 624) : ∃ Y, ka_ex sc (d + 3) 24 0 [.ref 67, ka_nv, ka_nv] [] (ka_mem X) = some (none, ka_mem Y) ∧ RS Y (r + 1) y w ∧ ∀ q, (q < 68 ∨ q = 69 ∨ 75 ≤ q) → Y q = X q := by
  have hd : ∀ t, @ka_dg r t < 5 := fun t => ka_dg_lt
  have i4 : ∀ t, t < 4 → (ka_dg r t = 4 ↔ X 68 t = 4) := by
    intro t ht
    have := hd t
    rw [h.2.1 t ht]
    constructor
    · intro e; rw [e]; rfl
    · intro e
      have e2 := congrArg Int32.toInt e
      rw [ka_nIt (by omega)] at e2
      simp only [ka_t_0, ka_t_1, ka_t_2, ka_t_3, ka_t_4, ka_t_5, ka_t_6, ka_t_7, ka_t_8, ka_t_9, ka_t_10, ka_t_11, ka_t_12, ka_t_13, ka_t_14, ka_t_15, ka_t_16, ka_t_17, ka_t_18, ka_t_19, ka_t_20, ka_t_25, ka_t_26, ka_t_28, ka_t_30, ka_t_31, ka_t_32, ka_t_33, ka_t_37, ka_t_38, ka_t_39, ka_t_40, ka_t_41, ka_t_42, ka_t_43, ka_t_45, ka_t_47, ka_t_48, ka_t_50, ka_t_57, ka_t_60, ka_t_61, ka_t_62, ka_t_63, ka_t_64, ka_t_65, ka_t_69, ka_t_70, ka_t_71, ka_t_80, ka_t_85, ka_t_87, ka_t_98, ka_t_99, ka_t_100, ka_t_104, ka_t_107, ka_t_109, ka_t_110, ka_t_112, ka_t_115, ka_t_116, ka_t_117, ka_t_124, ka_t_125, ka_t_160, ka_t_200, ka_t_207, ka_t_255, ka_t_260, ka_t_400, ka_t_624, ka_t_625, ka_t_999, ka_t_9999, ka_t_10000, ka_t_20000, ka_t_20033, ka_t_999999, ka_t_1000000000, ka_t_m1, ka_t_m2, ka_t_m3, ka_t_m5, ka_t_m9, ka_t_m10, ka_t_m1000000000] at e2
      omega
  by_cases c3 : ka_dg r 3 = 4
  · by_cases c2 : ka_dg r 2 = 4
    · by_cases c1 : ka_dg r 1 = 4
      · have hs := @s24_0 sc d X w h.1 ((i4 3 (by decide)).mp c3) ((i4 2 (by decide)).mp c2) ((i4 1 (by decide)).mp c1)
        generalize hY : kn_row (kn_row (kn_row (kn_row (kn_row X 68 (kn_up (kn_up (kn_up (kn_up (X 68) 3 0) 2 0) 1 0) 0 (X 68 0 + 1))) 71 (kn_trn 0 w (X 71))) 72 (kn_trn 0 w (X 71))) 73 (kn_trn 0 w (X 71))) 74 (kn_trn 0 w (X 71)) = Y at hs
        have yo : ∀ p, ¬ p = 68 → ¬ p = 71 → ¬ p = 72 → ¬ p = 73 → ¬ p = 74 → Y p = X p := by
          intro p a b0 b1 b2 b3
          rw [← hY, kn_row_off b3, kn_row_off b2, kn_row_off b1, kn_row_off b0, kn_row_off a]
        have y68 : Y 68 = kn_up (kn_up (kn_up (kn_up (X 68) 3 0) 2 0) 1 0) 0 (X 68 0 + 1) := by rw [← hY, kn_row_off (by decide), kn_row_off (by decide), kn_row_off (by decide), kn_row_off (by decide), kn_row_at]
        have k0 : Y 71 = kn_trn 0 w (X 71) := by rw [← hY, kn_row_off (by decide), kn_row_off (by decide), kn_row_off (by decide), kn_row_at]
        have k1 : Y 72 = kn_trn 0 w (X 71) := by rw [← hY, kn_row_off (by decide), kn_row_off (by decide), kn_row_at]
        have k2 : Y 73 = kn_trn 0 w (X 71) := by rw [← hY, kn_row_off (by decide), kn_row_at]
        have k3 : Y 74 = kn_trn 0 w (X 71) := by rw [← hY, kn_row_at]
        refine ⟨Y, hs, RS_s (q := 0) h hr (by decide) ?_ ?_ ?_ ?_ ?_ ?_ ?_ ?_, fun p hp => yo p (by omega) (by omega) (by omega) (by omega) (by omega)⟩
        · intro t a b
          rcases (by omega : t = 1 ∨ t = 2 ∨ t = 3) with rfl | rfl | rfl
          · exact c1
          · exact c2
          · exact c3
        · exact Or.inl rfl
        · exact yo 67 (by decide) (by decide) (by decide) (by decide) (by decide)
        · intro t ht; rw [y68, kn_up_ne (by omega), kn_up_ne (by omega), kn_up_ne (by omega), kn_up_ne (by omega)]
        · rw [y68, kn_up_at]
        · intro t a b
          rw [y68]
          unfold kn_up
          rcases (by omega : t = 1 ∨ t = 2 ∨ t = 3) with rfl | rfl | rfl <;> rfl
        · intro t ht; exact yo _ (by omega) (by omega) (by omega) (by omega) (by omega)
        · intro t a b
          rcases (by omega : t = 0 ∨ t = 1 ∨ t = 2 ∨ t = 3) with rfl | rfl | rfl | rfl
          · exact k0
          · exact k1
          · exact k2
          · exact k3
      · have hs := @s24_1 sc d X w h.1 ((i4 3 (by decide)).mp c3) ((i4 2 (by decide)).mp c2) (fun z => c1 ((i4 1 (by decide)).mpr z))
        generalize hY : kn_row (kn_row (kn_row (kn_row X 68 (kn_up (kn_up (kn_up (X 68) 3 0) 2 0) 1 (X 68 1 + 1))) 72 (kn_trn 1 w (X 72))) 73 (kn_trn 1 w (X 72))) 74 (kn_trn 1 w (X 72)) = Y at hs
        have yo : ∀ p, ¬ p = 68 → ¬ p = 72 → ¬ p = 73 → ¬ p = 74 → Y p = X p := by
          intro p a b1 b2 b3
          rw [← hY, kn_row_off b3, kn_row_off b2, kn_row_off b1, kn_row_off a]
        have y68 : Y 68 = kn_up (kn_up (kn_up (X 68) 3 0) 2 0) 1 (X 68 1 + 1) := by rw [← hY, kn_row_off (by decide), kn_row_off (by decide), kn_row_off (by decide), kn_row_at]
        have k1 : Y 72 = kn_trn 1 w (X 72) := by rw [← hY, kn_row_off (by decide), kn_row_off (by decide), kn_row_at]
        have k2 : Y 73 = kn_trn 1 w (X 72) := by rw [← hY, kn_row_off (by decide), kn_row_at]
        have k3 : Y 74 = kn_trn 1 w (X 72) := by rw [← hY, kn_row_at]
        refine ⟨Y, hs, RS_s (q := 1) h hr (by decide) ?_ ?_ ?_ ?_ ?_ ?_ ?_ ?_, fun p hp => yo p (by omega) (by omega) (by omega) (by omega)⟩
        · intro t a b
          rcases (by omega : t = 2 ∨ t = 3) with rfl | rfl
          · exact c2
          · exact c3
        · exact Or.inr c1
        · exact yo 67 (by decide) (by decide) (by decide) (by decide)
        · intro t ht; rw [y68, kn_up_ne (by omega), kn_up_ne (by omega), kn_up_ne (by omega)]
        · rw [y68, kn_up_at]
        · intro t a b
          rw [y68]
          unfold kn_up
          rcases (by omega : t = 2 ∨ t = 3) with rfl | rfl <;> rfl
        · intro t ht; exact yo _ (by omega) (by omega) (by omega) (by omega)
        · intro t a b
          rcases (by omega : t = 1 ∨ t = 2 ∨ t = 3) with rfl | rfl | rfl
          · exact k1
          · exact k2
          · exact k3
    · have hs := @s24_2 sc d X w h.1 ((i4 3 (by decide)).mp c3) (fun z => c2 ((i4 2 (by decide)).mpr z))
      generalize hY : kn_row (kn_row (kn_row X 68 (kn_up (kn_up (X 68) 3 0) 2 (X 68 2 + 1))) 73 (kn_trn 2 w (X 73))) 74 (kn_trn 2 w (X 73)) = Y at hs
      have yo : ∀ p, ¬ p = 68 → ¬ p = 73 → ¬ p = 74 → Y p = X p := by
        intro p a b2 b3
        rw [← hY, kn_row_off b3, kn_row_off b2, kn_row_off a]
      have y68 : Y 68 = kn_up (kn_up (X 68) 3 0) 2 (X 68 2 + 1) := by rw [← hY, kn_row_off (by decide), kn_row_off (by decide), kn_row_at]
      have k2 : Y 73 = kn_trn 2 w (X 73) := by rw [← hY, kn_row_off (by decide), kn_row_at]
      have k3 : Y 74 = kn_trn 2 w (X 73) := by rw [← hY, kn_row_at]
      refine ⟨Y, hs, RS_s (q := 2) h hr (by decide) ?_ ?_ ?_ ?_ ?_ ?_ ?_ ?_, fun p hp => yo p (by omega) (by omega) (by omega)⟩
      · intro t a b
        rcases (by omega : t = 3) with rfl
        · exact c3
      · exact Or.inr c2
      · exact yo 67 (by decide) (by decide) (by decide)
      · intro t ht; rw [y68, kn_up_ne (by omega), kn_up_ne (by omega)]
      · rw [y68, kn_up_at]
      · intro t a b
        rw [y68]
        unfold kn_up
        rcases (by omega : t = 3) with rfl <;> rfl
      · intro t ht; exact yo _ (by omega) (by omega) (by omega)
      · intro t a b
        rcases (by omega : t = 2 ∨ t = 3) with rfl | rfl
        · exact k2
        · exact k3
  · have hs := @s24_3 sc d X w h.1  (fun z => c3 ((i4 3 (by decide)).mpr z))
    generalize hY : kn_row (kn_row X 68 (kn_up (X 68) 3 (X 68 3 + 1))) 74 (kn_trn 3 w (X 74)) = Y at hs
    have yo : ∀ p, ¬ p = 68 → ¬ p = 74 → Y p = X p := by
      intro p a b3
      rw [← hY, kn_row_off b3, kn_row_off a]
    have y68 : Y 68 = kn_up (X 68) 3 (X 68 3 + 1) := by rw [← hY, kn_row_off (by decide), kn_row_at]
    have k3 : Y 74 = kn_trn 3 w (X 74) := by rw [← hY, kn_row_at]
    refine ⟨Y, hs, RS_s (q := 3) h hr (by decide) ?_ ?_ ?_ ?_ ?_ ?_ ?_ ?_, fun p hp => yo p (by omega) (by omega)⟩
    · intro t a b; omega
    · exact Or.inr c3
    · exact yo 67 (by decide) (by decide)
    · intro t ht; rw [y68, kn_up_ne (by omega)]
    · rw [y68, kn_up_at]
    · intro t a b; omega
    · intro t ht; exact yo _ (by omega) (by omega)
    · intro t a b
      rcases (by omega : t = 3) with rfl
      · exact k3
theorem sp_25 : ka_ex sc d 25 0 [.ref 67] [] (ka_mem X) = some (some (.ref 74), ka_mem X) := by
  have r3 : ka_ra 70 3 = 74 := ka_ra70 (by decide)
  have n3 : ka_in 3 4 := ka_inI.mpr (by decide)
  simp only [x25_0, x25_1, x25_4, x25_5, x25_6, x25_5 (Or.inl rfl) ka_k_70, ka_kk_i, ka_kk_n, ka_cl_i, ka_cl_r, ka_cl_n, or_true, true_or, ka_ne2, ka_ne4, ka_ne5, ka_ne10, not_false_eq_true, not_true_eq_false, if_true, if_false, ka_k_0, ka_k_1, ka_k_2, ka_k_3, ka_k_4, ka_k_5, ka_k_6, ka_k_7, ka_k_8, ka_k_9, ka_k_10, ka_k_11, ka_k_12, ka_k_13, ka_k_14, ka_k_15, ka_k_16, ka_k_17, ka_k_18, ka_k_19, ka_k_20, ka_k_21, ka_k_22, ka_k_23, ka_k_24, ka_k_25, ka_k_26, ka_k_27, ka_k_28, ka_k_29, ka_k_30, ka_k_31, ka_k_32, ka_k_33, ka_k_34, ka_k_35, ka_k_36, ka_k_37, ka_k_38, ka_k_39, ka_k_40, ka_k_41, ka_k_42, ka_k_43, ka_k_44, ka_k_45, ka_k_46, ka_k_47, ka_k_48, ka_k_49, ka_k_50, ka_k_51, ka_k_52, ka_k_53, ka_k_54, ka_k_55, ka_k_56, ka_k_57, ka_k_58, ka_k_59, ka_k_60, ka_k_61, ka_k_62, ka_k_63, ka_k_64, ka_k_65, ka_k_66, ka_k_67, ka_k_68, ka_k_69, ka_k_70, ka_k_71, ka_k_72, ka_k_73, ka_k_74, ka_k_75, ka_k_76, ka_k_77, ka_k_78, ka_k_79, ka_k_80, ka_k_81, ka_k_82, ka_k_83, ka_k_84, ka_k_85, ka_k_86, ka_k_87, ka_k_88, ka_k_89, ka_k_90, ka_k_91, ka_k_92, ka_k_93, ka_k_94, ka_k_95, ka_k_96, ka_k_97, ka_k_98, ka_k_99, ka_k_100, ka_rf_0_0, ka_rf_0_1, ka_rf_0_2, ka_rf_0_4, ka_rf_0_5, ka_rf_0_6, ka_rf_0_7, ka_rf_0_8, ka_rf_0_9, ka_rf_61_0, ka_rf_61_2, ka_rf_67_0, ka_rf_67_1, ka_rf_67_2, ka_rf_75_0, ka_rf_87_0, ka_rf_87_1, ka_rf_87_2, ka_rf_87_4, ka_rf_87_11, ka_rf_87_12, ka_rf_87_14, ka_rf_87_15, ka_rf_87_16, ka_rf_87_19, ka_rf_87_20, ka_rf_87_21, ka_rf_87_22, ka_ln_63, ka_ln_64, ka_ln_65, ka_ln_68, ka_ln_69, ka_ln_70, ka_ln_76, ka_ln_77, ka_ln_78, ka_ln_80, ka_ln_82, ka_ln_84, ka_ln_86, ka_ln_88, ka_ln_89, ka_ln_90, ka_ln_91, ka_ln_92, ka_ln_93, ka_ln_94, ka_ln_95, ka_ln_96, ka_ln_97, ka_ln_98, ka_ln_99, ka_ln_100, ka_c_0, ka_c_1, ka_c_2, ka_c_3, ka_c_4, ka_c_5, ka_c_6, ka_c_7, ka_c_8, ka_c_9, ka_c_10, ka_c_11, ka_c_12, ka_c_13, ka_c_14, ka_c_15, ka_c_16, ka_c_17, ka_c_18, ka_c_19, ka_c_20, ka_c_28, ka_c_40, ka_c_50, ka_c_87, r3, n3]
theorem sp_26 {r : Nat} {y : Nat → Int32} {w : Int32} (h : RS X r y w) : ka_ex sc d 26 0 [.ref 67] [] (ka_mem X) = some (some (.int (rat r)), ka_mem X) := by
  have n0 : ka_in 0 4 := ka_inI.mpr (by decide)
  have n1 : ka_in 1 4 := ka_inI.mpr (by decide)
  have n2 : ka_in 2 4 := ka_inI.mpr (by decide)
  have n3 : ka_in 3 4 := ka_inI.mpr (by decide)
  simp only [x26_0, x26_1, x26_4, x26_5, x26_6, x26_7, x26_10, x26_11, x26_12, x26_13, x26_14, x26_17, x26_18, x26_19, x26_20, x26_21, x26_24, x26_25, x26_26, x26_27, ka_kk_i, ka_kk_n, ka_cl_i, ka_cl_r, ka_cl_n, or_true, true_or, ka_ne2, ka_ne4, ka_ne5, ka_ne10, not_false_eq_true, not_true_eq_false, if_true, if_false, ka_k_0, ka_k_1, ka_k_2, ka_k_3, ka_k_4, ka_k_5, ka_k_6, ka_k_7, ka_k_8, ka_k_9, ka_k_10, ka_k_11, ka_k_12, ka_k_13, ka_k_14, ka_k_15, ka_k_16, ka_k_17, ka_k_18, ka_k_19, ka_k_20, ka_k_21, ka_k_22, ka_k_23, ka_k_24, ka_k_25, ka_k_26, ka_k_27, ka_k_28, ka_k_29, ka_k_30, ka_k_31, ka_k_32, ka_k_33, ka_k_34, ka_k_35, ka_k_36, ka_k_37, ka_k_38, ka_k_39, ka_k_40, ka_k_41, ka_k_42, ka_k_43, ka_k_44, ka_k_45, ka_k_46, ka_k_47, ka_k_48, ka_k_49, ka_k_50, ka_k_51, ka_k_52, ka_k_53, ka_k_54, ka_k_55, ka_k_56, ka_k_57, ka_k_58, ka_k_59, ka_k_60, ka_k_61, ka_k_62, ka_k_63, ka_k_64, ka_k_65, ka_k_66, ka_k_67, ka_k_68, ka_k_69, ka_k_70, ka_k_71, ka_k_72, ka_k_73, ka_k_74, ka_k_75, ka_k_76, ka_k_77, ka_k_78, ka_k_79, ka_k_80, ka_k_81, ka_k_82, ka_k_83, ka_k_84, ka_k_85, ka_k_86, ka_k_87, ka_k_88, ka_k_89, ka_k_90, ka_k_91, ka_k_92, ka_k_93, ka_k_94, ka_k_95, ka_k_96, ka_k_97, ka_k_98, ka_k_99, ka_k_100, ka_rf_0_0, ka_rf_0_1, ka_rf_0_2, ka_rf_0_4, ka_rf_0_5, ka_rf_0_6, ka_rf_0_7, ka_rf_0_8, ka_rf_0_9, ka_rf_61_0, ka_rf_61_2, ka_rf_67_0, ka_rf_67_1, ka_rf_67_2, ka_rf_75_0, ka_rf_87_0, ka_rf_87_1, ka_rf_87_2, ka_rf_87_4, ka_rf_87_11, ka_rf_87_12, ka_rf_87_14, ka_rf_87_15, ka_rf_87_16, ka_rf_87_19, ka_rf_87_20, ka_rf_87_21, ka_rf_87_22, ka_ln_63, ka_ln_64, ka_ln_65, ka_ln_68, ka_ln_69, ka_ln_70, ka_ln_76, ka_ln_77, ka_ln_78, ka_ln_80, ka_ln_82, ka_ln_84, ka_ln_86, ka_ln_88, ka_ln_89, ka_ln_90, ka_ln_91, ka_ln_92, ka_ln_93, ka_ln_94, ka_ln_95, ka_ln_96, ka_ln_97, ka_ln_98, ka_ln_99, ka_ln_100, ka_c_0, ka_c_1, ka_c_2, ka_c_3, ka_c_4, ka_c_5, ka_c_6, ka_c_7, ka_c_8, ka_c_9, ka_c_10, ka_c_11, ka_c_12, ka_c_13, ka_c_14, ka_c_15, ka_c_16, ka_c_17, ka_c_18, ka_c_19, ka_c_20, ka_c_28, ka_c_40, ka_c_50, ka_c_87, n0, n1, n2, n3, h.2.1 0 (by decide), h.2.1 1 (by decide), h.2.1 2 (by decide), h.2.1 3 (by decide)]
  rfl
theorem sp_27 : ka_ex sc (d + 1) 27 0 [.ref 67] [] (ka_mem X) = some (none, ka_mem (kn_row X 69 (kn_cp 4 (X 68) (X 69)))) := by
  have hin : ¬ (0 : Int32) < 0 ∧ ¬ (0 : Int32) < 0 ∧ ¬ (4 : Int32) < 0 ∧ (0 : Int32).toNatClampNeg + (4 : Int32).toNatClampNeg ≤ ka_ln 68 ∧ (0 : Int32).toNatClampNeg + (4 : Int32).toNatClampNeg ≤ ka_ln 69 := by
    rw [ka_ln_68, ka_ln_69]; decide
  simp only [x27_0, x27_1, x27_4, x27_5, x27_6, x27_9, x27_10, x27_14, ka_kk_i, ka_kk_n, ka_cl_i, ka_cl_r, ka_cl_n, or_true, true_or, ka_ne2, ka_ne4, ka_ne5, ka_ne10, not_false_eq_true, not_true_eq_false, if_true, if_false, ka_k_0, ka_k_1, ka_k_2, ka_k_3, ka_k_4, ka_k_5, ka_k_6, ka_k_7, ka_k_8, ka_k_9, ka_k_10, ka_k_11, ka_k_12, ka_k_13, ka_k_14, ka_k_15, ka_k_16, ka_k_17, ka_k_18, ka_k_19, ka_k_20, ka_k_21, ka_k_22, ka_k_23, ka_k_24, ka_k_25, ka_k_26, ka_k_27, ka_k_28, ka_k_29, ka_k_30, ka_k_31, ka_k_32, ka_k_33, ka_k_34, ka_k_35, ka_k_36, ka_k_37, ka_k_38, ka_k_39, ka_k_40, ka_k_41, ka_k_42, ka_k_43, ka_k_44, ka_k_45, ka_k_46, ka_k_47, ka_k_48, ka_k_49, ka_k_50, ka_k_51, ka_k_52, ka_k_53, ka_k_54, ka_k_55, ka_k_56, ka_k_57, ka_k_58, ka_k_59, ka_k_60, ka_k_61, ka_k_62, ka_k_63, ka_k_64, ka_k_65, ka_k_66, ka_k_67, ka_k_68, ka_k_69, ka_k_70, ka_k_71, ka_k_72, ka_k_73, ka_k_74, ka_k_75, ka_k_76, ka_k_77, ka_k_78, ka_k_79, ka_k_80, ka_k_81, ka_k_82, ka_k_83, ka_k_84, ka_k_85, ka_k_86, ka_k_87, ka_k_88, ka_k_89, ka_k_90, ka_k_91, ka_k_92, ka_k_93, ka_k_94, ka_k_95, ka_k_96, ka_k_97, ka_k_98, ka_k_99, ka_k_100, ka_rf_0_0, ka_rf_0_1, ka_rf_0_2, ka_rf_0_4, ka_rf_0_5, ka_rf_0_6, ka_rf_0_7, ka_rf_0_8, ka_rf_0_9, ka_rf_61_0, ka_rf_61_2, ka_rf_67_0, ka_rf_67_1, ka_rf_67_2, ka_rf_75_0, ka_rf_87_0, ka_rf_87_1, ka_rf_87_2, ka_rf_87_4, ka_rf_87_11, ka_rf_87_12, ka_rf_87_14, ka_rf_87_15, ka_rf_87_16, ka_rf_87_19, ka_rf_87_20, ka_rf_87_21, ka_rf_87_22, ka_ln_63, ka_ln_64, ka_ln_65, ka_ln_68, ka_ln_69, ka_ln_70, ka_ln_76, ka_ln_77, ka_ln_78, ka_ln_80, ka_ln_82, ka_ln_84, ka_ln_86, ka_ln_88, ka_ln_89, ka_ln_90, ka_ln_91, ka_ln_92, ka_ln_93, ka_ln_94, ka_ln_95, ka_ln_96, ka_ln_97, ka_ln_98, ka_ln_99, ka_ln_100]
  rw [x27_11 ka_k_69 ka_k_68 hin]
  simp only [x27_0, x27_1, x27_4, x27_5, x27_6, x27_9, x27_10, x27_14, ka_kk_i, ka_kk_n, ka_cl_i, ka_cl_r, ka_cl_n, or_true, true_or, ka_ne2, ka_ne4, ka_ne5, ka_ne10, not_false_eq_true, not_true_eq_false, if_true, if_false, ka_c_0, ka_c_1, ka_c_2, ka_c_3, ka_c_4, ka_c_5, ka_c_6, ka_c_7, ka_c_8, ka_c_9, ka_c_10, ka_c_11, ka_c_12, ka_c_13, ka_c_14, ka_c_15, ka_c_16, ka_c_17, ka_c_18, ka_c_19, ka_c_20, ka_c_28, ka_c_40, ka_c_50, ka_c_87, kn_cpy, kn_row_def]
end
