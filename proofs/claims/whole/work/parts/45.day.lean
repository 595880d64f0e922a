/-! a day of the row -/
def us_dr (D : Nat → Int32) : Int32 := ((D 10 * 1103515245 + 12345).toUInt32 >>> ((8 : Int32).toUInt32 &&& Int32.toUInt32 31)).toInt32
def us_z (D : Nat → Int32) (l : Int32) : Nat → Int32 := if l = 0 then D else kn_up D 10 (D 10 * 1103515245 + 12345)
def us_c (D : Nat → Int32) (l c : Int32) : Int32 := if l = 0 then c else if us_dr D - us_dr D / 4 * 4 = 0 then 2 * c else c
def us_r (D r : Nat → Int32) (c : Int32) : Nat → Int32 := kn_up (kn_up r 3 (md_hd (r 3 - c * dl D r) 0 99)) 5 0
def us_1 (D : Nat → Int32) (l : Int32) (k : Nat) : Nat → Int32 := md_wk (us_z D l) k (us_r (us_z D l) (md_kd (us_z D l) k) (us_c D l (md_kd D k 6)))
def us_go (l : Int32) : Nat → Nat → (Nat → Int32) → (Nat → Int32)
  | 0, _, D => D
  | n + 1, i, D => us_go l n (i + 1) (us_1 D l i)
def gb_v (D : Nat → Int32) : Nat → Int32 := if D 8 - D 8 / (7 * D 6) * (7 * D 6) = 0 then (vd D).2 else D
def gb_u (D : Nat → Int32) (l : Int32) : Nat → Int32 := us_go l (D 9).toInt.toNat 0 (gb_v D)
def gb (D : Nat → Int32) (l : Int32) : Nat → Int32 := kn_up (gb_u D l) 8 (gb_u D l 8 + 1)
theorem us_z_ch {D : Nat → Int32} {l : Int32} : ch D (us_z D l) := by
  unfold us_z
  split
  · exact ch_refl
  · exact ch_up (by decide)
theorem us_z_kd {D : Nat → Int32} {l : Int32} {k : Nat} : md_kd (us_z D l) k = md_kd D k := by
  funext f
  unfold us_z md_kd
  split
  · rfl
  · exact kn_up_ne (by omega)
theorem us_z_at {D : Nat → Int32} {l : Int32} {j : Nat} (h : ¬ j = 10) : us_z D l j = D j := by
  unfold us_z
  split
  · rfl
  · exact kn_up_ne h
theorem us_c_bd {D : Nat → Int32} {l c : Int32} (h : 0 ≤ c.toInt ∧ c.toInt ≤ 9) : 0 ≤ (us_c D l c).toInt ∧ (us_c D l c).toInt ≤ 18 := by
  unfold us_c
  have e : (2 * c).toInt = 2 * c.toInt := by rw [ka_mul (by simp only [ka_t_0, ka_t_1, ka_t_2, ka_t_3, ka_t_4, ka_t_5, ka_t_6, ka_t_7, ka_t_8, ka_t_9, ka_t_10, ka_t_11, ka_t_12, ka_t_13, ka_t_14, ka_t_15, ka_t_16, ka_t_17, ka_t_18, ka_t_19, ka_t_20, ka_t_25, ka_t_26, ka_t_28, ka_t_30, ka_t_31, ka_t_32, ka_t_33, ka_t_37, ka_t_38, ka_t_39, ka_t_40, ka_t_41, ka_t_42, ka_t_43, ka_t_45, ka_t_47, ka_t_48, ka_t_50, ka_t_57, ka_t_60, ka_t_61, ka_t_62, ka_t_63, ka_t_64, ka_t_65, ka_t_69, ka_t_70, ka_t_71, ka_t_80, ka_t_85, ka_t_87, ka_t_98, ka_t_99, ka_t_100, ka_t_104, ka_t_107, ka_t_109, ka_t_110, ka_t_112, ka_t_115, ka_t_116, ka_t_117, ka_t_124, ka_t_125, ka_t_160, ka_t_200, ka_t_207, ka_t_255, ka_t_260, ka_t_400, ka_t_624, ka_t_625, ka_t_999, ka_t_9999, ka_t_10000, ka_t_20000, ka_t_20033, ka_t_999999, ka_t_1000000000, ka_t_m1, ka_t_m2, ka_t_m3, ka_t_m5, ka_t_m9, ka_t_m10, ka_t_m1000000000]; omega)]; simp only [ka_t_0, ka_t_1, ka_t_2, ka_t_3, ka_t_4, ka_t_5, ka_t_6, ka_t_7, ka_t_8, ka_t_9, ka_t_10, ka_t_11, ka_t_12, ka_t_13, ka_t_14, ka_t_15, ka_t_16, ka_t_17, ka_t_18, ka_t_19, ka_t_20, ka_t_25, ka_t_26, ka_t_28, ka_t_30, ka_t_31, ka_t_32, ka_t_33, ka_t_37, ka_t_38, ka_t_39, ka_t_40, ka_t_41, ka_t_42, ka_t_43, ka_t_45, ka_t_47, ka_t_48, ka_t_50, ka_t_57, ka_t_60, ka_t_61, ka_t_62, ka_t_63, ka_t_64, ka_t_65, ka_t_69, ka_t_70, ka_t_71, ka_t_80, ka_t_85, ka_t_87, ka_t_98, ka_t_99, ka_t_100, ka_t_104, ka_t_107, ka_t_109, ka_t_110, ka_t_112, ka_t_115, ka_t_116, ka_t_117, ka_t_124, ka_t_125, ka_t_160, ka_t_200, ka_t_207, ka_t_255, ka_t_260, ka_t_400, ka_t_624, ka_t_625, ka_t_999, ka_t_9999, ka_t_10000, ka_t_20000, ka_t_20033, ka_t_999999, ka_t_1000000000, ka_t_m1, ka_t_m2, ka_t_m3, ka_t_m5, ka_t_m9, ka_t_m10, ka_t_m1000000000]
  split
  · omega
  · split
    · rw [e]; omega
    · omega
theorem us_r_ok {D r : Nat → Int32} {c : Int32} (h : kn_ok r) : kn_ok (us_r D r c) := by
  obtain ⟨h0, h1, h2, h3, h4, h5, h6, h7, h8⟩ := h
  have hb : 0 ≤ (md_hd (r 3 - c * dl D r) 0 99).toInt ∧ (md_hd (r 3 - c * dl D r) 0 99).toInt ≤ 99 := by
    unfold md_hd
    (repeat' split) <;> simp only [ka_ilt, ka_t_0, ka_t_1, ka_t_2, ka_t_3, ka_t_4, ka_t_5, ka_t_6, ka_t_7, ka_t_8, ka_t_9, ka_t_10, ka_t_11, ka_t_12, ka_t_13, ka_t_14, ka_t_15, ka_t_16, ka_t_17, ka_t_18, ka_t_19, ka_t_20, ka_t_25, ka_t_26, ka_t_28, ka_t_30, ka_t_31, ka_t_32, ka_t_33, ka_t_37, ka_t_38, ka_t_39, ka_t_40, ka_t_41, ka_t_42, ka_t_43, ka_t_45, ka_t_47, ka_t_48, ka_t_50, ka_t_57, ka_t_60, ka_t_61, ka_t_62, ka_t_63, ka_t_64, ka_t_65, ka_t_69, ka_t_70, ka_t_71, ka_t_80, ka_t_85, ka_t_87, ka_t_98, ka_t_99, ka_t_100, ka_t_104, ka_t_107, ka_t_109, ka_t_110, ka_t_112, ka_t_115, ka_t_116, ka_t_117, ka_t_124, ka_t_125, ka_t_160, ka_t_200, ka_t_207, ka_t_255, ka_t_260, ka_t_400, ka_t_624, ka_t_625, ka_t_999, ka_t_9999, ka_t_10000, ka_t_20000, ka_t_20033, ka_t_999999, ka_t_1000000000, ka_t_m1, ka_t_m2, ka_t_m3, ka_t_m5, ka_t_m9, ka_t_m10, ka_t_m1000000000] at * <;> omega
  unfold us_r
  simp only [kn_ok, kn_up_at, kn_up_ne, Nat.reduceEqDiff, reduceCtorEq, not_false_eq_true]
  exact ⟨h0, h1, h2, hb, h4, by decide, h6, h7, h8⟩
theorem us_1_ok {D : Nat → Int32} {l : Int32} {k : Nat} (h : dk D) (hk : k < (D 9).toInt.toNat) : ch D (us_1 D l k) ∧ dk (us_1 D l k) ∧ us_1 D l k 8 = D 8 := by
  have hk8 : k < 8 := by have := h.1.2; omega
  have c : ch D (us_1 D l k) := ch_trans us_z_ch (ch_wk hk8)
  refine ⟨c, dk_mk h c ?_ ?_ ?_, ?_⟩
  · unfold us_1
    refine kn_ok_wk (fun j hj => ?_) ?_
    · rw [us_z_kd]; exact h.2.1 j hj
    · rw [us_z_kd]; exact us_r_ok (h.2.1 k hk)
  · unfold us_1
    rw [md_lo (by decide), us_z_at (by decide)]
    exact h.2.2.2.2.2.1
  · unfold us_1
    rw [md_lo (by decide), us_z_at (by decide)]
    exact h.2.2.2.2.2.2.1
  · unfold us_1
    rw [md_lo (by decide), us_z_at (by decide)]
theorem us_go_ok {l : Int32} : ∀ (n i : Nat) (D : Nat → Int32), dk D → i + n ≤ (D 9).toInt.toNat → ch D (us_go l n i D) ∧ dk (us_go l n i D) ∧ us_go l n i D 8 = D 8 := by
  intro n
  induction n with
  | zero => intro i D h _; exact ⟨ch_refl, h, rfl⟩
  | succ n ih =>
    intro i D h hi
    have k := us_1_ok (l := l) h (show i < (D 9).toInt.toNat by omega)
    have e9 : us_1 D l i 9 = D 9 := k.1 9 (by decide) (by decide) (by decide) (Or.inl (by decide))
    have g := ih (i + 1) _ k.2.1 (by rw [e9]; omega)
    simp only [us_go]
    exact ⟨ch_trans k.1 g.1, g.2.1, g.2.2.trans k.2.2⟩
theorem vd_1_8 {D B : Nat → Int32} {k : Nat} : (vd_1 D B k).1 8 = D 8 := by
  unfold vd_1
  split
  · split
    · rfl
    · show md_wk _ _ _ 8 = _
      rw [md_lo (by decide), kn_up_ne (by decide)]
  · rfl
theorem vd_go_8 : ∀ (n i : Nat) (m : Int32) (D B : Nat → Int32), (vd_go n i m D B).2 8 = D 8 := by
  intro n
  induction n with
  | zero => intro i m D B; rfl
  | succ n ih =>
    intro i m D B
    simp only [vd_go]
    rw [ih, vd_1_8]
theorem gb_v_ok {D : Nat → Int32} (h : dk D) : ch D (gb_v D) ∧ dk (gb_v D) ∧ gb_v D 8 = D 8 := by
  unfold gb_v
  split
  · exact ⟨(vd_ok h).1, (vd_ok h).2, vd_go_8 _ _ _ _ _⟩
  · exact ⟨ch_refl, h, rfl⟩
theorem ch_9 {D E : Nat → Int32} (h : ch D E) : E 9 = D 9 := h 9 (by decide) (by decide) (by decide) (Or.inl (by decide))
theorem gb_u_ok {D : Nat → Int32} {l : Int32} (h : dk D) : ch D (gb_u D l) ∧ dk (gb_u D l) ∧ gb_u D l 8 = D 8 := by
  have k := gb_v_ok h
  have g := us_go_ok (l := l) (D 9).toInt.toNat 0 (gb_v D) k.2.1 (by rw [ch_9 k.1]; omega)
  exact ⟨ch_trans k.1 g.1, g.2.1, g.2.2.trans k.2.2⟩
theorem gb_ok {D : Nat → Int32} {l : Int32} (h : dk D) (h8 : (D 8).toInt < 2000000000) : ch D (gb D l) ∧ dk (gb D l) ∧ (gb D l 8).toInt = (D 8).toInt + 1 := by
  have k := gb_u_ok (l := l) h
  have h80 := h.2.2.2.2.2.2.1
  have e : (D 8 + 1).toInt = (D 8).toInt + 1 := by rw [ka_add (by simp only [ka_t_0, ka_t_1, ka_t_2, ka_t_3, ka_t_4, ka_t_5, ka_t_6, ka_t_7, ka_t_8, ka_t_9, ka_t_10, ka_t_11, ka_t_12, ka_t_13, ka_t_14, ka_t_15, ka_t_16, ka_t_17, ka_t_18, ka_t_19, ka_t_20, ka_t_25, ka_t_26, ka_t_28, ka_t_30, ka_t_31, ka_t_32, ka_t_33, ka_t_37, ka_t_38, ka_t_39, ka_t_40, ka_t_41, ka_t_42, ka_t_43, ka_t_45, ka_t_47, ka_t_48, ka_t_50, ka_t_57, ka_t_60, ka_t_61, ka_t_62, ka_t_63, ka_t_64, ka_t_65, ka_t_69, ka_t_70, ka_t_71, ka_t_80, ka_t_85, ka_t_87, ka_t_98, ka_t_99, ka_t_100, ka_t_104, ka_t_107, ka_t_109, ka_t_110, ka_t_112, ka_t_115, ka_t_116, ka_t_117, ka_t_124, ka_t_125, ka_t_160, ka_t_200, ka_t_207, ka_t_255, ka_t_260, ka_t_400, ka_t_624, ka_t_625, ka_t_999, ka_t_9999, ka_t_10000, ka_t_20000, ka_t_20033, ka_t_999999, ka_t_1000000000, ka_t_m1, ka_t_m2, ka_t_m3, ka_t_m5, ka_t_m9, ka_t_m10, ka_t_m1000000000]; omega)]; simp only [ka_t_0, ka_t_1, ka_t_2, ka_t_3, ka_t_4, ka_t_5, ka_t_6, ka_t_7, ka_t_8, ka_t_9, ka_t_10, ka_t_11, ka_t_12, ka_t_13, ka_t_14, ka_t_15, ka_t_16, ka_t_17, ka_t_18, ka_t_19, ka_t_20, ka_t_25, ka_t_26, ka_t_28, ka_t_30, ka_t_31, ka_t_32, ka_t_33, ka_t_37, ka_t_38, ka_t_39, ka_t_40, ka_t_41, ka_t_42, ka_t_43, ka_t_45, ka_t_47, ka_t_48, ka_t_50, ka_t_57, ka_t_60, ka_t_61, ka_t_62, ka_t_63, ka_t_64, ka_t_65, ka_t_69, ka_t_70, ka_t_71, ka_t_80, ka_t_85, ka_t_87, ka_t_98, ka_t_99, ka_t_100, ka_t_104, ka_t_107, ka_t_109, ka_t_110, ka_t_112, ka_t_115, ka_t_116, ka_t_117, ka_t_124, ka_t_125, ka_t_160, ka_t_200, ka_t_207, ka_t_255, ka_t_260, ka_t_400, ka_t_624, ka_t_625, ka_t_999, ka_t_9999, ka_t_10000, ka_t_20000, ka_t_20033, ka_t_999999, ka_t_1000000000, ka_t_m1, ka_t_m2, ka_t_m3, ka_t_m5, ka_t_m9, ka_t_m10, ka_t_m1000000000]
  have c : ch D (gb D l) := ch_trans k.1 (ch_up (by decide))
  have e8 : gb D l 8 = D 8 + 1 := by unfold gb; rw [kn_up_at, k.2.2]
  refine ⟨c, dk_mk h c (fun j hj => ?_) ?_ ?_, ?_⟩
  · refine kn_ok_congr (fun f hf => ?_) (k.2.1.2.1 j (by rw [ch_9 k.1]; exact hj))
    unfold gb md_kd
    exact kn_up_ne (by omega)
  · unfold gb
    rw [kn_up_ne (by decide)]
    exact k.2.1.2.2.2.2.2.1
  · rw [e8, e]; omega
  · rw [e8, e]
/-- so many days -/
def gs (l : Int32) : Nat → (Nat → Int32) → (Nat → Int32)
  | 0, D => D
  | n + 1, D => gs l n (gb D l)
theorem gs_ok {l : Int32} : ∀ (n : Nat) (D : Nat → Int32), dk D → (D 8).toInt + n < 2000000000 → ch D (gs l n D) ∧ dk (gs l n D) ∧ (gs l n D 8).toInt = (D 8).toInt + n := by
  intro n
  induction n with
  | zero => intro D h _; exact ⟨ch_refl, h, by simp [gs]⟩
  | succ n ih =>
    intro D h h8
    have k := gb_ok (l := l) h (by omega)
    have g := ih _ k.2.1 (by rw [k.2.2]; omega)
    simp only [gs]
    exact ⟨ch_trans k.1 g.1, g.2.1, by rw [g.2.2, k.2.2]; omega⟩
section
variable {sc : aS} {d : Nat} {X : ka_X}
theorem sp_163 : ka_ex sc d 163 0 [.ref 87] [] (ka_mem X) = some (some (.int (us_dr (X 88))), ka_mem (kn_row X 88 (kn_up (X 88) 10 (X 88 10 * 1103515245 + 12345)))) := by
  have i10 : ka_in 10 260 := ka_inI.mpr (by decide)
  simp only [x163_0, x163_1, x163_4, x163_6, x163_7, x163_10, x163_12, x163_13, x163_15, x163_16, x163_19, x163_20, x163_21, x163_22, x163_25, x163_27, x163_28, x163_30, x163_31, ka_kk_i, ka_kk_n, ka_cl_i, ka_cl_r, ka_cl_n, or_true, true_or, ka_ne2, ka_ne4, ka_ne5, ka_ne10, not_false_eq_true, not_true_eq_false, if_true, if_false, ka_k_0, ka_k_1, ka_k_2, ka_k_3, ka_k_4, ka_k_5, ka_k_6, ka_k_7, ka_k_8, ka_k_9, ka_k_10, ka_k_11, ka_k_12, ka_k_13, ka_k_14, ka_k_15, ka_k_16, ka_k_17, ka_k_18, ka_k_19, ka_k_20, ka_k_21, ka_k_22, ka_k_23, ka_k_24, ka_k_25, ka_k_26, ka_k_27, ka_k_28, ka_k_29, ka_k_30, ka_k_31, ka_k_32, ka_k_33, ka_k_34, ka_k_35, ka_k_36, ka_k_37, ka_k_38, ka_k_39, ka_k_40, ka_k_41, ka_k_42, ka_k_43, ka_k_44, ka_k_45, ka_k_46, ka_k_47, ka_k_48, ka_k_49, ka_k_50, ka_k_51, ka_k_52, ka_k_53, ka_k_54, ka_k_55, ka_k_56, ka_k_57, ka_k_58, ka_k_59, ka_k_60, ka_k_61, ka_k_62, ka_k_63, ka_k_64, ka_k_65, ka_k_66, ka_k_67, ka_k_68, ka_k_69, ka_k_70, ka_k_71, ka_k_72, ka_k_73, ka_k_74, ka_k_75, ka_k_76, ka_k_77, ka_k_78, ka_k_79, ka_k_80, ka_k_81, ka_k_82, ka_k_83, ka_k_84, ka_k_85, ka_k_86, ka_k_87, ka_k_88, ka_k_89, ka_k_90, ka_k_91, ka_k_92, ka_k_93, ka_k_94, ka_k_95, ka_k_96, ka_k_97, ka_k_98, ka_k_99, ka_k_100, ka_rf_0_0, ka_rf_0_1, ka_rf_0_2, ka_rf_0_4, ka_rf_0_5, ka_rf_0_6, ka_rf_0_7, ka_rf_0_8, ka_rf_0_9, ka_rf_61_0, ka_rf_61_2, ka_rf_67_0, ka_rf_67_1, ka_rf_67_2, ka_rf_75_0, ka_rf_87_0, ka_rf_87_1, ka_rf_87_2, ka_rf_87_4, ka_rf_87_11, ka_rf_87_12, ka_rf_87_14, ka_rf_87_15, ka_rf_87_16, ka_rf_87_19, ka_rf_87_20, ka_rf_87_21, ka_rf_87_22, ka_ln_63, ka_ln_64, ka_ln_65, ka_ln_68, ka_ln_69, ka_ln_70, ka_ln_76, ka_ln_77, ka_ln_78, ka_ln_80, ka_ln_82, ka_ln_84, ka_ln_86, ka_ln_88, ka_ln_89, ka_ln_90, ka_ln_91, ka_ln_92, ka_ln_93, ka_ln_94, ka_ln_95, ka_ln_96, ka_ln_97, ka_ln_98, ka_ln_99, ka_ln_100, ka_c_0, ka_c_1, ka_c_2, ka_c_3, ka_c_4, ka_c_5, ka_c_6, ka_c_7, ka_c_8, ka_c_9, ka_c_10, ka_c_11, ka_c_12, ka_c_13, ka_c_14, ka_c_15, ka_c_16, ka_c_17, ka_c_18, ka_c_19, ka_c_20, ka_c_28, ka_c_40, ka_c_50, ka_c_87, i10, kn_put_r, kn_row_at, kn_up_at]
  rfl
theorem s164b {i : Nat} {E : Nat → Int32} {l ii c : Int32} (hE : X 88 = E) (g : gv_ok E 0) (hi : i < 8) (hii : ii.toInt = i) : ∃ Y, ka_ex sc (d + 4) 164 68 [.ref 87, .int l, .int ii, .int c] [] (ka_mem X) = ka_ex sc (d + 4) 164 28 [.ref 87, .int l, .int (ii + 1), .int c] [] (ka_mem Y) ∧ Y 88 = md_wk E i (us_r E (md_kd E i) c) ∧ ∀ p, ¬ p = 88 → ¬ p = 92 → ¬ p = 94 → ¬ p = 95 → Y p = X p := by
  have hk : 0 ≤ ii.toInt ∧ ii.toInt < 8 := by omega
  have hc : ii.toNatClampNeg = i := by rw [ka_nc]; omega
  have w3 : 0 ≤ (3 : Int32).toInt ∧ (3 : Int32).toInt < 9 := by decide
  have w5 : 0 ≤ (5 : Int32).toInt ∧ (5 : Int32).toInt < 9 := by decide
  have h146 := @sp_146 sc d X ii hk (by rw [hE]; exact g)
  rw [hE, hc] at h146
  generalize hG : gv_x X 0 (md_kd E i 7) (md_kd E i 3) (md_kd E i 4) (md_kd E i 1) = G at h146
  have G88 : G 88 = E := by rw [← hG, gv_x_off (by decide) (by decide), hE]
  have f3 : E (13 + 9 * i + 3) = md_kd E i 3 := rfl
  have fin : kn_up (kn_up E (13 + 9 * i + 3) (md_hd (md_kd E i 3 - c * dl E (md_kd E i)) 0 99)) (13 + 9 * i + 5) 0 = md_wk E i (us_r E (md_kd E i) c) := by
    conv => lhs; rw [← md_id (r := E) (k := i)]
    rw [md_up (by decide), md_up (by decide), md_id]
    rfl
  refine ⟨kn_row G 88 (md_wk E i (us_r E (md_kd E i) c)), ?_, kn_row_at, ?_⟩
  · rw [x164_68]
    simp only [x164_0, x164_1, x164_4, x164_6, x164_7, x164_9, x164_10, x164_13, x164_15, x164_16, x164_17, x164_18, x164_21, x164_22, x164_25, x164_26, x164_27, x164_29, x164_30, x164_33, x164_35, x164_36, x164_39, x164_40, x164_41, x164_43, x164_46, x164_47, x164_48, x164_51, x164_52, x164_55, x164_56, x164_57, x164_60, x164_61, x164_62, x164_63, x164_66, x164_67, x164_69, x164_70, x164_71, x164_72, x164_73, x164_74, x164_77, x164_78, x164_79, x164_80, x164_83, x164_84, x164_85, x164_86, x164_88, x164_91, x164_94, x164_95, x164_96, x164_97, x164_98, x164_101, x164_104, x164_107, x164_108, x164_111, x164_113, x164_114, x164_115, x164_116, x164_117, x164_118, ka_kk_i, ka_kk_n, ka_cl_i, ka_cl_r, ka_cl_n, or_true, true_or, ka_ne2, ka_ne4, ka_ne5, ka_ne10, not_false_eq_true, not_true_eq_false, if_true, if_false, ka_k_0, ka_k_1, ka_k_2, ka_k_3, ka_k_4, ka_k_5, ka_k_6, ka_k_7, ka_k_8, ka_k_9, ka_k_10, ka_k_11, ka_k_12, ka_k_13, ka_k_14, ka_k_15, ka_k_16, ka_k_17, ka_k_18, ka_k_19, ka_k_20, ka_k_21, ka_k_22, ka_k_23, ka_k_24, ka_k_25, ka_k_26, ka_k_27, ka_k_28, ka_k_29, ka_k_30, ka_k_31, ka_k_32, ka_k_33, ka_k_34, ka_k_35, ka_k_36, ka_k_37, ka_k_38, ka_k_39, ka_k_40, ka_k_41, ka_k_42, ka_k_43, ka_k_44, ka_k_45, ka_k_46, ka_k_47, ka_k_48, ka_k_49, ka_k_50, ka_k_51, ka_k_52, ka_k_53, ka_k_54, ka_k_55, ka_k_56, ka_k_57, ka_k_58, ka_k_59, ka_k_60, ka_k_61, ka_k_62, ka_k_63, ka_k_64, ka_k_65, ka_k_66, ka_k_67, ka_k_68, ka_k_69, ka_k_70, ka_k_71, ka_k_72, ka_k_73, ka_k_74, ka_k_75, ka_k_76, ka_k_77, ka_k_78, ka_k_79, ka_k_80, ka_k_81, ka_k_82, ka_k_83, ka_k_84, ka_k_85, ka_k_86, ka_k_87, ka_k_88, ka_k_89, ka_k_90, ka_k_91, ka_k_92, ka_k_93, ka_k_94, ka_k_95, ka_k_96, ka_k_97, ka_k_98, ka_k_99, ka_k_100, ka_c_0, ka_c_1, ka_c_2, ka_c_3, ka_c_4, ka_c_5, ka_c_6, ka_c_7, ka_c_8, ka_c_9, ka_c_10, ka_c_11, ka_c_12, ka_c_13, ka_c_14, ka_c_15, ka_c_16, ka_c_17, ka_c_18, ka_c_19, ka_c_20, ka_c_28, ka_c_40, ka_c_50, ka_c_87, hc, hE, sp_122 hk w3, f3, h146, sp_118', sp_123 hk w3, sp_123 hk w5, G88, kn_row_at, kn_row_row, fin]
  · intro p a b c2 e
    rw [kn_row_off a, ← hG, gv_x_off b c2]
theorem s164 {i : Nat} {l ii : Int32} {a3 : Value} (hD : dk (X 88)) (hi : i < (X 88 9).toInt.toNat) (hii : ii.toInt = i) : ∃ (b3 : Value) (Y : ka_X), ka_ex sc (d + 4) 164 28 [.ref 87, .int l, .int ii, a3] [] (ka_mem X) = ka_ex sc (d + 4) 164 28 [.ref 87, .int l, .int (ii + 1), b3] [] (ka_mem Y) ∧ Y 88 = us_1 (X 88) l i ∧ ∀ p, ¬ p = 88 → ¬ p = 92 → ¬ p = 94 → ¬ p = 95 → Y p = X p := by
  have hN := hD.1
  have hk : 0 ≤ ii.toInt ∧ ii.toInt < 8 := by omega
  have hc : ii.toNatClampNeg = i := by rw [ka_nc]; omega
  have h1 : ii < X 88 9 := by rw [ka_ilt]; omega
  have i9 : ka_in 9 260 := ka_inI.mpr (by decide)
  have w6 : 0 ≤ (6 : Int32).toInt ∧ (6 : Int32).toInt < 9 := by decide
  have f6 : X 88 (13 + 9 * i + 6) = md_kd (X 88) i 6 := rfl
  have g := hD.2.2.2.2.2.2.2.2.2.1
  by_cases hl : l = 0
  · obtain ⟨Y, hY, h88, hoff⟩ := @s164b sc d X i (X 88) l ii (md_kd (X 88) i 6) rfl g (by omega) hii
    refine ⟨.int (md_kd (X 88) i 6), Y, ?_, ?_, hoff⟩
    · rw [← hY, x164_28]
      simp only [x164_0, x164_1, x164_4, x164_6, x164_7, x164_9, x164_10, x164_13, x164_15, x164_16, x164_17, x164_18, x164_21, x164_22, x164_25, x164_26, x164_27, x164_29, x164_30, x164_33, x164_35, x164_36, x164_39, x164_40, x164_41, x164_43, x164_46, x164_47, x164_48, x164_51, x164_52, x164_55, x164_56, x164_57, x164_60, x164_61, x164_62, x164_63, x164_66, x164_67, x164_69, x164_70, x164_71, x164_72, x164_73, x164_74, x164_77, x164_78, x164_79, x164_80, x164_83, x164_84, x164_85, x164_86, x164_88, x164_91, x164_94, x164_95, x164_96, x164_97, x164_98, x164_101, x164_104, x164_107, x164_108, x164_111, x164_113, x164_114, x164_115, x164_116, x164_117, x164_118, ka_kk_i, ka_kk_n, ka_cl_i, ka_cl_r, ka_cl_n, or_true, true_or, ka_ne2, ka_ne4, ka_ne5, ka_ne10, not_false_eq_true, not_true_eq_false, if_true, if_false, ka_k_0, ka_k_1, ka_k_2, ka_k_3, ka_k_4, ka_k_5, ka_k_6, ka_k_7, ka_k_8, ka_k_9, ka_k_10, ka_k_11, ka_k_12, ka_k_13, ka_k_14, ka_k_15, ka_k_16, ka_k_17, ka_k_18, ka_k_19, ka_k_20, ka_k_21, ka_k_22, ka_k_23, ka_k_24, ka_k_25, ka_k_26, ka_k_27, ka_k_28, ka_k_29, ka_k_30, ka_k_31, ka_k_32, ka_k_33, ka_k_34, ka_k_35, ka_k_36, ka_k_37, ka_k_38, ka_k_39, ka_k_40, ka_k_41, ka_k_42, ka_k_43, ka_k_44, ka_k_45, ka_k_46, ka_k_47, ka_k_48, ka_k_49, ka_k_50, ka_k_51, ka_k_52, ka_k_53, ka_k_54, ka_k_55, ka_k_56, ka_k_57, ka_k_58, ka_k_59, ka_k_60, ka_k_61, ka_k_62, ka_k_63, ka_k_64, ka_k_65, ka_k_66, ka_k_67, ka_k_68, ka_k_69, ka_k_70, ka_k_71, ka_k_72, ka_k_73, ka_k_74, ka_k_75, ka_k_76, ka_k_77, ka_k_78, ka_k_79, ka_k_80, ka_k_81, ka_k_82, ka_k_83, ka_k_84, ka_k_85, ka_k_86, ka_k_87, ka_k_88, ka_k_89, ka_k_90, ka_k_91, ka_k_92, ka_k_93, ka_k_94, ka_k_95, ka_k_96, ka_k_97, ka_k_98, ka_k_99, ka_k_100, ka_rf_0_0, ka_rf_0_1, ka_rf_0_2, ka_rf_0_4, ka_rf_0_5, ka_rf_0_6, ka_rf_0_7, ka_rf_0_8, ka_rf_0_9, ka_rf_61_0, ka_rf_61_2, ka_rf_67_0, ka_rf_67_1, ka_rf_67_2, ka_rf_75_0, ka_rf_87_0, ka_rf_87_1, ka_rf_87_2, ka_rf_87_4, ka_rf_87_11, ka_rf_87_12, ka_rf_87_14, ka_rf_87_15, ka_rf_87_16, ka_rf_87_19, ka_rf_87_20, ka_rf_87_21, ka_rf_87_22, ka_ln_63, ka_ln_64, ka_ln_65, ka_ln_68, ka_ln_69, ka_ln_70, ka_ln_76, ka_ln_77, ka_ln_78, ka_ln_80, ka_ln_82, ka_ln_84, ka_ln_86, ka_ln_88, ka_ln_89, ka_ln_90, ka_ln_91, ka_ln_92, ka_ln_93, ka_ln_94, ka_ln_95, ka_ln_96, ka_ln_97, ka_ln_98, ka_ln_99, ka_ln_100, ka_c_0, ka_c_1, ka_c_2, ka_c_3, ka_c_4, ka_c_5, ka_c_6, ka_c_7, ka_c_8, ka_c_9, ka_c_10, ka_c_11, ka_c_12, ka_c_13, ka_c_14, ka_c_15, ka_c_16, ka_c_17, ka_c_18, ka_c_19, ka_c_20, ka_c_28, ka_c_40, ka_c_50, ka_c_87, i9, h1, sp_122 hk w6, hc, f6, hl]
    · rw [h88]
      unfold us_1 us_z us_c
      simp only [hl, if_true]
  · have e8 : kn_row X 88 (kn_up (X 88) 10 (X 88 10 * 1103515245 + 12345)) 88 = us_z (X 88) l := by rw [kn_row_at]; unfold us_z; rw [if_neg hl]
    have gz : gv_ok (us_z (X 88) l) 0 := gv_ok_ch (ch_hi us_z_ch) g
    obtain ⟨Y, hY, h88, hoff⟩ := @s164b sc d (kn_row X 88 (kn_up (X 88) 10 (X 88 10 * 1103515245 + 12345))) i (us_z (X 88) l) l ii (us_c (X 88) l (md_kd (X 88) i 6)) e8 gz (by omega) hii
    refine ⟨.int (us_c (X 88) l (md_kd (X 88) i 6)), Y, ?_, ?_, fun p a b c e => (hoff p a b c e).trans (kn_row_off a)⟩
    · rw [← hY, x164_28]
      by_cases hq : us_dr (X 88) - us_dr (X 88) / 4 * 4 = 0
      · have ec : us_c (X 88) l (md_kd (X 88) i 6) = 2 * md_kd (X 88) i 6 := by unfold us_c; rw [if_neg hl, if_pos hq]
        simp only [x164_0, x164_1, x164_4, x164_6, x164_7, x164_9, x164_10, x164_13, x164_15, x164_16, x164_17, x164_18, x164_21, x164_22, x164_25, x164_26, x164_27, x164_29, x164_30, x164_33, x164_35, x164_36, x164_39, x164_40, x164_41, x164_43, x164_46, x164_47, x164_48, x164_51, x164_52, x164_55, x164_56, x164_57, x164_60, x164_61, x164_62, x164_63, x164_66, x164_67, x164_69, x164_70, x164_71, x164_72, x164_73, x164_74, x164_77, x164_78, x164_79, x164_80, x164_83, x164_84, x164_85, x164_86, x164_88, x164_91, x164_94, x164_95, x164_96, x164_97, x164_98, x164_101, x164_104, x164_107, x164_108, x164_111, x164_113, x164_114, x164_115, x164_116, x164_117, x164_118, ka_kk_i, ka_kk_n, ka_cl_i, ka_cl_r, ka_cl_n, or_true, true_or, ka_ne2, ka_ne4, ka_ne5, ka_ne10, not_false_eq_true, not_true_eq_false, if_true, if_false, ka_k_0, ka_k_1, ka_k_2, ka_k_3, ka_k_4, ka_k_5, ka_k_6, ka_k_7, ka_k_8, ka_k_9, ka_k_10, ka_k_11, ka_k_12, ka_k_13, ka_k_14, ka_k_15, ka_k_16, ka_k_17, ka_k_18, ka_k_19, ka_k_20, ka_k_21, ka_k_22, ka_k_23, ka_k_24, ka_k_25, ka_k_26, ka_k_27, ka_k_28, ka_k_29, ka_k_30, ka_k_31, ka_k_32, ka_k_33, ka_k_34, ka_k_35, ka_k_36, ka_k_37, ka_k_38, ka_k_39, ka_k_40, ka_k_41, ka_k_42, ka_k_43, ka_k_44, ka_k_45, ka_k_46, ka_k_47, ka_k_48, ka_k_49, ka_k_50, ka_k_51, ka_k_52, ka_k_53, ka_k_54, ka_k_55, ka_k_56, ka_k_57, ka_k_58, ka_k_59, ka_k_60, ka_k_61, ka_k_62, ka_k_63, ka_k_64, ka_k_65, ka_k_66, ka_k_67, ka_k_68, ka_k_69, ka_k_70, ka_k_71, ka_k_72, ka_k_73, ka_k_74, ka_k_75, ka_k_76, ka_k_77, ka_k_78, ka_k_79, ka_k_80, ka_k_81, ka_k_82, ka_k_83, ka_k_84, ka_k_85, ka_k_86, ka_k_87, ka_k_88, ka_k_89, ka_k_90, ka_k_91, ka_k_92, ka_k_93, ka_k_94, ka_k_95, ka_k_96, ka_k_97, ka_k_98, ka_k_99, ka_k_100, ka_rf_0_0, ka_rf_0_1, ka_rf_0_2, ka_rf_0_4, ka_rf_0_5, ka_rf_0_6, ka_rf_0_7, ka_rf_0_8, ka_rf_0_9, ka_rf_61_0, ka_rf_61_2, ka_rf_67_0, ka_rf_67_1, ka_rf_67_2, ka_rf_75_0, ka_rf_87_0, ka_rf_87_1, ka_rf_87_2, ka_rf_87_4, ka_rf_87_11, ka_rf_87_12, ka_rf_87_14, ka_rf_87_15, ka_rf_87_16, ka_rf_87_19, ka_rf_87_20, ka_rf_87_21, ka_rf_87_22, ka_ln_63, ka_ln_64, ka_ln_65, ka_ln_68, ka_ln_69, ka_ln_70, ka_ln_76, ka_ln_77, ka_ln_78, ka_ln_80, ka_ln_82, ka_ln_84, ka_ln_86, ka_ln_88, ka_ln_89, ka_ln_90, ka_ln_91, ka_ln_92, ka_ln_93, ka_ln_94, ka_ln_95, ka_ln_96, ka_ln_97, ka_ln_98, ka_ln_99, ka_ln_100, ka_c_0, ka_c_1, ka_c_2, ka_c_3, ka_c_4, ka_c_5, ka_c_6, ka_c_7, ka_c_8, ka_c_9, ka_c_10, ka_c_11, ka_c_12, ka_c_13, ka_c_14, ka_c_15, ka_c_16, ka_c_17, ka_c_18, ka_c_19, ka_c_20, ka_c_28, ka_c_40, ka_c_50, ka_c_87, i9, h1, sp_122 hk w6, hc, f6, hl, sp_163, hq, ec]
      · have ec : us_c (X 88) l (md_kd (X 88) i 6) = md_kd (X 88) i 6 := by unfold us_c; rw [if_neg hl, if_neg hq]
        simp only [x164_0, x164_1, x164_4, x164_6, x164_7, x164_9, x164_10, x164_13, x164_15, x164_16, x164_17, x164_18, x164_21, x164_22, x164_25, x164_26, x164_27, x164_29, x164_30, x164_33, x164_35, x164_36, x164_39, x164_40, x164_41, x164_43, x164_46, x164_47, x164_48, x164_51, x164_52, x164_55, x164_56, x164_57, x164_60, x164_61, x164_62, x164_63, x164_66, x164_67, x164_69, x164_70, x164_71, x164_72, x164_73, x164_74, x164_77, x164_78, x164_79, x164_80, x164_83, x164_84, x164_85, x164_86, x164_88, x164_91, x164_94, x164_95, x164_96, x164_97, x164_98, x164_101, x164_104, x164_107, x164_108, x164_111, x164_113, x164_114, x164_115, x164_116, x164_117, x164_118, ka_kk_i, ka_kk_n, ka_cl_i, ka_cl_r, ka_cl_n, or_true, true_or, ka_ne2, ka_ne4, ka_ne5, ka_ne10, not_false_eq_true, not_true_eq_false, if_true, if_false, ka_k_0, ka_k_1, ka_k_2, ka_k_3, ka_k_4, ka_k_5, ka_k_6, ka_k_7, ka_k_8, ka_k_9, ka_k_10, ka_k_11, ka_k_12, ka_k_13, ka_k_14, ka_k_15, ka_k_16, ka_k_17, ka_k_18, ka_k_19, ka_k_20, ka_k_21, ka_k_22, ka_k_23, ka_k_24, ka_k_25, ka_k_26, ka_k_27, ka_k_28, ka_k_29, ka_k_30, ka_k_31, ka_k_32, ka_k_33, ka_k_34, ka_k_35, ka_k_36, ka_k_37, ka_k_38, ka_k_39, ka_k_40, ka_k_41, ka_k_42, ka_k_43, ka_k_44, ka_k_45, ka_k_46, ka_k_47, ka_k_48, ka_k_49, ka_k_50, ka_k_51, ka_k_52, ka_k_53, ka_k_54, ka_k_55, ka_k_56, ka_k_57, ka_k_58, ka_k_59, ka_k_60, ka_k_61, ka_k_62, ka_k_63, ka_k_64, ka_k_65, ka_k_66, ka_k_67, ka_k_68, ka_k_69, ka_k_70, ka_k_71, ka_k_72, ka_k_73, ka_k_74, ka_k_75, ka_k_76, ka_k_77, ka_k_78, ka_k_79, ka_k_80, ka_k_81, ka_k_82, ka_k_83, ka_k_84, ka_k_85, ka_k_86, ka_k_87, ka_k_88, ka_k_89, ka_k_90, ka_k_91, ka_k_92, ka_k_93, ka_k_94, ka_k_95, ka_k_96, ka_k_97, ka_k_98, ka_k_99, ka_k_100, ka_rf_0_0, ka_rf_0_1, ka_rf_0_2, ka_rf_0_4, ka_rf_0_5, ka_rf_0_6, ka_rf_0_7, ka_rf_0_8, ka_rf_0_9, ka_rf_61_0, ka_rf_61_2, ka_rf_67_0, ka_rf_67_1, ka_rf_67_2, ka_rf_75_0, ka_rf_87_0, ka_rf_87_1, ka_rf_87_2, ka_rf_87_4, ka_rf_87_11, ka_rf_87_12, ka_rf_87_14, ka_rf_87_15, ka_rf_87_16, ka_rf_87_19, ka_rf_87_20, ka_rf_87_21, ka_rf_87_22, ka_ln_63, ka_ln_64, ka_ln_65, ka_ln_68, ka_ln_69, ka_ln_70, ka_ln_76, ka_ln_77, ka_ln_78, ka_ln_80, ka_ln_82, ka_ln_84, ka_ln_86, ka_ln_88, ka_ln_89, ka_ln_90, ka_ln_91, ka_ln_92, ka_ln_93, ka_ln_94, ka_ln_95, ka_ln_96, ka_ln_97, ka_ln_98, ka_ln_99, ka_ln_100, ka_c_0, ka_c_1, ka_c_2, ka_c_3, ka_c_4, ka_c_5, ka_c_6, ka_c_7, ka_c_8, ka_c_9, ka_c_10, ka_c_11, ka_c_12, ka_c_13, ka_c_14, ka_c_15, ka_c_16, ka_c_17, ka_c_18, ka_c_19, ka_c_20, ka_c_28, ka_c_40, ka_c_50, ka_c_87, i9, h1, sp_122 hk w6, hc, f6, hl, sp_163, hq, ec]
    · rw [h88]; rfl
theorem sp_164l : ∀ (n i : Nat) (l ii : Int32) (X : ka_X) (a3 : Value), dk (X 88) → (X 88 9).toInt = i + n → ii.toInt = i → ∃ Y, ka_ex sc (d + 4) 164 28 [.ref 87, .int l, .int ii, a3] [] (ka_mem X) = some (none, ka_mem Y) ∧ Y 88 = kn_up (us_go l n i (X 88)) 8 (us_go l n i (X 88) 8 + 1) ∧ ∀ p, ¬ p = 88 → ¬ p = 92 → ¬ p = 94 → ¬ p = 95 → Y p = X p := by
  intro n
  induction n with
  | zero =>
    intro i l ii X a3 hD hN hii
    have h1 : ¬ ii < X 88 9 := by rw [ka_ilt]; omega
    have i9 : ka_in 9 260 := ka_inI.mpr (by decide)
    have i8 : ka_in 8 260 := ka_inI.mpr (by decide)
    refine ⟨kn_row X 88 (kn_up (X 88) 8 (X 88 8 + 1)), ?_, ?_, fun p a _ _ _ => kn_row_off a⟩
    · rw [x164_28]
      simp only [x164_0, x164_1, x164_4, x164_6, x164_7, x164_9, x164_10, x164_13, x164_15, x164_16, x164_17, x164_18, x164_21, x164_22, x164_25, x164_26, x164_27, x164_29, x164_30, x164_33, x164_35, x164_36, x164_39, x164_40, x164_41, x164_43, x164_46, x164_47, x164_48, x164_51, x164_52, x164_55, x164_56, x164_57, x164_60, x164_61, x164_62, x164_63, x164_66, x164_67, x164_68, x164_69, x164_70, x164_71, x164_72, x164_73, x164_74, x164_77, x164_78, x164_79, x164_80, x164_83, x164_84, x164_85, x164_86, x164_88, x164_91, x164_94, x164_95, x164_96, x164_97, x164_98, x164_101, x164_104, x164_107, x164_108, x164_111, x164_113, x164_114, x164_115, x164_116, x164_117, x164_118, ka_kk_i, ka_kk_n, ka_cl_i, ka_cl_r, ka_cl_n, or_true, true_or, ka_ne2, ka_ne4, ka_ne5, ka_ne10, not_false_eq_true, not_true_eq_false, if_true, if_false, ka_k_0, ka_k_1, ka_k_2, ka_k_3, ka_k_4, ka_k_5, ka_k_6, ka_k_7, ka_k_8, ka_k_9, ka_k_10, ka_k_11, ka_k_12, ka_k_13, ka_k_14, ka_k_15, ka_k_16, ka_k_17, ka_k_18, ka_k_19, ka_k_20, ka_k_21, ka_k_22, ka_k_23, ka_k_24, ka_k_25, ka_k_26, ka_k_27, ka_k_28, ka_k_29, ka_k_30, ka_k_31, ka_k_32, ka_k_33, ka_k_34, ka_k_35, ka_k_36, ka_k_37, ka_k_38, ka_k_39, ka_k_40, ka_k_41, ka_k_42, ka_k_43, ka_k_44, ka_k_45, ka_k_46, ka_k_47, ka_k_48, ka_k_49, ka_k_50, ka_k_51, ka_k_52, ka_k_53, ka_k_54, ka_k_55, ka_k_56, ka_k_57, ka_k_58, ka_k_59, ka_k_60, ka_k_61, ka_k_62, ka_k_63, ka_k_64, ka_k_65, ka_k_66, ka_k_67, ka_k_68, ka_k_69, ka_k_70, ka_k_71, ka_k_72, ka_k_73, ka_k_74, ka_k_75, ka_k_76, ka_k_77, ka_k_78, ka_k_79, ka_k_80, ka_k_81, ka_k_82, ka_k_83, ka_k_84, ka_k_85, ka_k_86, ka_k_87, ka_k_88, ka_k_89, ka_k_90, ka_k_91, ka_k_92, ka_k_93, ka_k_94, ka_k_95, ka_k_96, ka_k_97, ka_k_98, ka_k_99, ka_k_100, ka_rf_0_0, ka_rf_0_1, ka_rf_0_2, ka_rf_0_4, ka_rf_0_5, ka_rf_0_6, ka_rf_0_7, ka_rf_0_8, ka_rf_0_9, ka_rf_61_0, ka_rf_61_2, ka_rf_67_0, ka_rf_67_1, ka_rf_67_2, ka_rf_75_0, ka_rf_87_0, ka_rf_87_1, ka_rf_87_2, ka_rf_87_4, ka_rf_87_11, ka_rf_87_12, ka_rf_87_14, ka_rf_87_15, ka_rf_87_16, ka_rf_87_19, ka_rf_87_20, ka_rf_87_21, ka_rf_87_22, ka_ln_63, ka_ln_64, ka_ln_65, ka_ln_68, ka_ln_69, ka_ln_70, ka_ln_76, ka_ln_77, ka_ln_78, ka_ln_80, ka_ln_82, ka_ln_84, ka_ln_86, ka_ln_88, ka_ln_89, ka_ln_90, ka_ln_91, ka_ln_92, ka_ln_93, ka_ln_94, ka_ln_95, ka_ln_96, ka_ln_97, ka_ln_98, ka_ln_99, ka_ln_100, ka_c_0, ka_c_1, ka_c_2, ka_c_3, ka_c_4, ka_c_5, ka_c_6, ka_c_7, ka_c_8, ka_c_9, ka_c_10, ka_c_11, ka_c_12, ka_c_13, ka_c_14, ka_c_15, ka_c_16, ka_c_17, ka_c_18, ka_c_19, ka_c_20, ka_c_28, ka_c_40, ka_c_50, ka_c_87, i9, i8, h1, kn_put_r]
    · rw [kn_row_at]; rfl
  | succ n ih =>
    intro i l ii X a3 hD hN hii
    have hN8 := hD.1
    have hi : i < (X 88 9).toInt.toNat := by omega
    obtain ⟨b3, Y, hs, h88, hoff⟩ := @s164 sc d X i l ii a3 hD hi hii
    have hi1 : (ii + 1).toInt = ((i + 1 : Nat) : Int) := by rw [ka_add (by simp only [ka_t_0, ka_t_1, ka_t_2, ka_t_3, ka_t_4, ka_t_5, ka_t_6, ka_t_7, ka_t_8, ka_t_9, ka_t_10, ka_t_11, ka_t_12, ka_t_13, ka_t_14, ka_t_15, ka_t_16, ka_t_17, ka_t_18, ka_t_19, ka_t_20, ka_t_25, ka_t_26, ka_t_28, ka_t_30, ka_t_31, ka_t_32, ka_t_33, ka_t_37, ka_t_38, ka_t_39, ka_t_40, ka_t_41, ka_t_42, ka_t_43, ka_t_45, ka_t_47, ka_t_48, ka_t_50, ka_t_57, ka_t_60, ka_t_61, ka_t_62, ka_t_63, ka_t_64, ka_t_65, ka_t_69, ka_t_70, ka_t_71, ka_t_80, ka_t_85, ka_t_87, ka_t_98, ka_t_99, ka_t_100, ka_t_104, ka_t_107, ka_t_109, ka_t_110, ka_t_112, ka_t_115, ka_t_116, ka_t_117, ka_t_124, ka_t_125, ka_t_160, ka_t_200, ka_t_207, ka_t_255, ka_t_260, ka_t_400, ka_t_624, ka_t_625, ka_t_999, ka_t_9999, ka_t_10000, ka_t_20000, ka_t_20033, ka_t_999999, ka_t_1000000000, ka_t_m1, ka_t_m2, ka_t_m3, ka_t_m5, ka_t_m9, ka_t_m10, ka_t_m1000000000]; omega)]; simp only [ka_t_0, ka_t_1, ka_t_2, ka_t_3, ka_t_4, ka_t_5, ka_t_6, ka_t_7, ka_t_8, ka_t_9, ka_t_10, ka_t_11, ka_t_12, ka_t_13, ka_t_14, ka_t_15, ka_t_16, ka_t_17, ka_t_18, ka_t_19, ka_t_20, ka_t_25, ka_t_26, ka_t_28, ka_t_30, ka_t_31, ka_t_32, ka_t_33, ka_t_37, ka_t_38, ka_t_39, ka_t_40, ka_t_41, ka_t_42, ka_t_43, ka_t_45, ka_t_47, ka_t_48, ka_t_50, ka_t_57, ka_t_60, ka_t_61, ka_t_62, ka_t_63, ka_t_64, ka_t_65, ka_t_69, ka_t_70, ka_t_71, ka_t_80, ka_t_85, ka_t_87, ka_t_98, ka_t_99, ka_t_100, ka_t_104, ka_t_107, ka_t_109, ka_t_110, ka_t_112, ka_t_115, ka_t_116, ka_t_117, ka_t_124, ka_t_125, ka_t_160, ka_t_200, ka_t_207, ka_t_255, ka_t_260, ka_t_400, ka_t_624, ka_t_625, ka_t_999, ka_t_9999, ka_t_10000, ka_t_20000, ka_t_20033, ka_t_999999, ka_t_1000000000, ka_t_m1, ka_t_m2, ka_t_m3, ka_t_m5, ka_t_m9, ka_t_m10, ka_t_m1000000000]; omega
    have k := us_1_ok (l := l) hD hi
    obtain ⟨Z, hz, z88, zoff⟩ := ih (i + 1) l (ii + 1) Y b3 (by rw [h88]; exact k.2.1) (by rw [h88, ch_9 k.1]; omega) hi1
    refine ⟨Z, hs.trans hz, ?_, fun p a b c e => (zoff p a b c e).trans (hoff p a b c e)⟩
    rw [z88, h88]
    rfl
theorem sp_164 {l : Int32} (hD : dk (X 88)) : ∃ Y, ka_ex sc (d + 4) 164 0 [.ref 87, .int l, ka_nv, ka_nv] [] (ka_mem X) = some (none, ka_mem Y) ∧ Y 88 = gb (X 88) l ∧ ∀ p, ¬ p = 88 → ¬ p = 92 → ¬ p = 94 → ¬ p = 95 → Y p = X p := by
  have hN := hD.1
  have hw := hD.2.2.2.2.1
  have i8 : ka_in 8 260 := ka_inI.mpr (by decide)
  have i6 : ka_in 6 260 := ka_inI.mpr (by decide)
  have e7 : (7 * X 88 6).toInt = 7 * (X 88 6).toInt := by rw [ka_mul (by simp only [ka_t_0, ka_t_1, ka_t_2, ka_t_3, ka_t_4, ka_t_5, ka_t_6, ka_t_7, ka_t_8, ka_t_9, ka_t_10, ka_t_11, ka_t_12, ka_t_13, ka_t_14, ka_t_15, ka_t_16, ka_t_17, ka_t_18, ka_t_19, ka_t_20, ka_t_25, ka_t_26, ka_t_28, ka_t_30, ka_t_31, ka_t_32, ka_t_33, ka_t_37, ka_t_38, ka_t_39, ka_t_40, ka_t_41, ka_t_42, ka_t_43, ka_t_45, ka_t_47, ka_t_48, ka_t_50, ka_t_57, ka_t_60, ka_t_61, ka_t_62, ka_t_63, ka_t_64, ka_t_65, ka_t_69, ka_t_70, ka_t_71, ka_t_80, ka_t_85, ka_t_87, ka_t_98, ka_t_99, ka_t_100, ka_t_104, ka_t_107, ka_t_109, ka_t_110, ka_t_112, ka_t_115, ka_t_116, ka_t_117, ka_t_124, ka_t_125, ka_t_160, ka_t_200, ka_t_207, ka_t_255, ka_t_260, ka_t_400, ka_t_624, ka_t_625, ka_t_999, ka_t_9999, ka_t_10000, ka_t_20000, ka_t_20033, ka_t_999999, ka_t_1000000000, ka_t_m1, ka_t_m2, ka_t_m3, ka_t_m5, ka_t_m9, ka_t_m10, ka_t_m1000000000]; omega)]; simp only [ka_t_0, ka_t_1, ka_t_2, ka_t_3, ka_t_4, ka_t_5, ka_t_6, ka_t_7, ka_t_8, ka_t_9, ka_t_10, ka_t_11, ka_t_12, ka_t_13, ka_t_14, ka_t_15, ka_t_16, ka_t_17, ka_t_18, ka_t_19, ka_t_20, ka_t_25, ka_t_26, ka_t_28, ka_t_30, ka_t_31, ka_t_32, ka_t_33, ka_t_37, ka_t_38, ka_t_39, ka_t_40, ka_t_41, ka_t_42, ka_t_43, ka_t_45, ka_t_47, ka_t_48, ka_t_50, ka_t_57, ka_t_60, ka_t_61, ka_t_62, ka_t_63, ka_t_64, ka_t_65, ka_t_69, ka_t_70, ka_t_71, ka_t_80, ka_t_85, ka_t_87, ka_t_98, ka_t_99, ka_t_100, ka_t_104, ka_t_107, ka_t_109, ka_t_110, ka_t_112, ka_t_115, ka_t_116, ka_t_117, ka_t_124, ka_t_125, ka_t_160, ka_t_200, ka_t_207, ka_t_255, ka_t_260, ka_t_400, ka_t_624, ka_t_625, ka_t_999, ka_t_9999, ka_t_10000, ka_t_20000, ka_t_20033, ka_t_999999, ka_t_1000000000, ka_t_m1, ka_t_m2, ka_t_m3, ka_t_m5, ka_t_m9, ka_t_m10, ka_t_m1000000000]
  have hn : ¬ 7 * X 88 6 = 0 := fun q => by have := congrArg Int32.toInt q; rw [e7] at this; simp only [ka_t_0, ka_t_1, ka_t_2, ka_t_3, ka_t_4, ka_t_5, ka_t_6, ka_t_7, ka_t_8, ka_t_9, ka_t_10, ka_t_11, ka_t_12, ka_t_13, ka_t_14, ka_t_15, ka_t_16, ka_t_17, ka_t_18, ka_t_19, ka_t_20, ka_t_25, ka_t_26, ka_t_28, ka_t_30, ka_t_31, ka_t_32, ka_t_33, ka_t_37, ka_t_38, ka_t_39, ka_t_40, ka_t_41, ka_t_42, ka_t_43, ka_t_45, ka_t_47, ka_t_48, ka_t_50, ka_t_57, ka_t_60, ka_t_61, ka_t_62, ka_t_63, ka_t_64, ka_t_65, ka_t_69, ka_t_70, ka_t_71, ka_t_80, ka_t_85, ka_t_87, ka_t_98, ka_t_99, ka_t_100, ka_t_104, ka_t_107, ka_t_109, ka_t_110, ka_t_112, ka_t_115, ka_t_116, ka_t_117, ka_t_124, ka_t_125, ka_t_160, ka_t_200, ka_t_207, ka_t_255, ka_t_260, ka_t_400, ka_t_624, ka_t_625, ka_t_999, ka_t_9999, ka_t_10000, ka_t_20000, ka_t_20033, ka_t_999999, ka_t_1000000000, ka_t_m1, ka_t_m2, ka_t_m3, ka_t_m5, ka_t_m9, ka_t_m10, ka_t_m1000000000] at this; omega
  by_cases hq : X 88 8 - X 88 8 / (7 * X 88 6) * (7 * X 88 6) = 0
  · obtain ⟨Y, hY, y88, yoff⟩ := @sp_161 sc d X hD
    have k := vd_ok hD
    obtain ⟨Z, hz, z88, zoff⟩ := @sp_164l sc d (X 88 9).toInt.toNat 0 l 0 Y ka_nv (by rw [y88]; exact k.2) (by rw [y88, ch_9 k.1]; omega) rfl
    refine ⟨Z, ?_, ?_, fun p a b c e => (zoff p a b c e).trans (yoff p a b c e)⟩
    · rw [← hz]
      simp only [x164_0, x164_1, x164_4, x164_6, x164_7, x164_9, x164_10, x164_13, x164_15, x164_16, x164_17, x164_18, x164_21, x164_22, x164_25, x164_26, x164_27, x164_29, x164_30, x164_33, x164_35, x164_36, x164_39, x164_40, x164_41, x164_43, x164_46, x164_47, x164_48, x164_51, x164_52, x164_55, x164_56, x164_57, x164_60, x164_61, x164_62, x164_63, x164_66, x164_67, x164_68, x164_69, x164_70, x164_71, x164_72, x164_73, x164_74, x164_77, x164_78, x164_79, x164_80, x164_83, x164_84, x164_85, x164_86, x164_88, x164_91, x164_94, x164_95, x164_96, x164_97, x164_98, x164_101, x164_104, x164_107, x164_108, x164_111, x164_113, x164_114, x164_115, x164_116, x164_117, x164_118, ka_kk_i, ka_kk_n, ka_cl_i, ka_cl_r, ka_cl_n, or_true, true_or, ka_ne2, ka_ne4, ka_ne5, ka_ne10, not_false_eq_true, not_true_eq_false, if_true, if_false, ka_k_0, ka_k_1, ka_k_2, ka_k_3, ka_k_4, ka_k_5, ka_k_6, ka_k_7, ka_k_8, ka_k_9, ka_k_10, ka_k_11, ka_k_12, ka_k_13, ka_k_14, ka_k_15, ka_k_16, ka_k_17, ka_k_18, ka_k_19, ka_k_20, ka_k_21, ka_k_22, ka_k_23, ka_k_24, ka_k_25, ka_k_26, ka_k_27, ka_k_28, ka_k_29, ka_k_30, ka_k_31, ka_k_32, ka_k_33, ka_k_34, ka_k_35, ka_k_36, ka_k_37, ka_k_38, ka_k_39, ka_k_40, ka_k_41, ka_k_42, ka_k_43, ka_k_44, ka_k_45, ka_k_46, ka_k_47, ka_k_48, ka_k_49, ka_k_50, ka_k_51, ka_k_52, ka_k_53, ka_k_54, ka_k_55, ka_k_56, ka_k_57, ka_k_58, ka_k_59, ka_k_60, ka_k_61, ka_k_62, ka_k_63, ka_k_64, ka_k_65, ka_k_66, ka_k_67, ka_k_68, ka_k_69, ka_k_70, ka_k_71, ka_k_72, ka_k_73, ka_k_74, ka_k_75, ka_k_76, ka_k_77, ka_k_78, ka_k_79, ka_k_80, ka_k_81, ka_k_82, ka_k_83, ka_k_84, ka_k_85, ka_k_86, ka_k_87, ka_k_88, ka_k_89, ka_k_90, ka_k_91, ka_k_92, ka_k_93, ka_k_94, ka_k_95, ka_k_96, ka_k_97, ka_k_98, ka_k_99, ka_k_100, ka_rf_0_0, ka_rf_0_1, ka_rf_0_2, ka_rf_0_4, ka_rf_0_5, ka_rf_0_6, ka_rf_0_7, ka_rf_0_8, ka_rf_0_9, ka_rf_61_0, ka_rf_61_2, ka_rf_67_0, ka_rf_67_1, ka_rf_67_2, ka_rf_75_0, ka_rf_87_0, ka_rf_87_1, ka_rf_87_2, ka_rf_87_4, ka_rf_87_11, ka_rf_87_12, ka_rf_87_14, ka_rf_87_15, ka_rf_87_16, ka_rf_87_19, ka_rf_87_20, ka_rf_87_21, ka_rf_87_22, ka_ln_63, ka_ln_64, ka_ln_65, ka_ln_68, ka_ln_69, ka_ln_70, ka_ln_76, ka_ln_77, ka_ln_78, ka_ln_80, ka_ln_82, ka_ln_84, ka_ln_86, ka_ln_88, ka_ln_89, ka_ln_90, ka_ln_91, ka_ln_92, ka_ln_93, ka_ln_94, ka_ln_95, ka_ln_96, ka_ln_97, ka_ln_98, ka_ln_99, ka_ln_100, ka_c_0, ka_c_1, ka_c_2, ka_c_3, ka_c_4, ka_c_5, ka_c_6, ka_c_7, ka_c_8, ka_c_9, ka_c_10, ka_c_11, ka_c_12, ka_c_13, ka_c_14, ka_c_15, ka_c_16, ka_c_17, ka_c_18, ka_c_19, ka_c_20, ka_c_28, ka_c_40, ka_c_50, ka_c_87, i8, i6, hn, hq, hY]
    · rw [z88, y88]
      unfold gb gb_u gb_v
      rw [if_pos hq]
  · obtain ⟨Z, hz, z88, zoff⟩ := @sp_164l sc d (X 88 9).toInt.toNat 0 l 0 X ka_nv hD (by omega) rfl
    refine ⟨Z, ?_, ?_, zoff⟩
    · rw [← hz]
      simp only [x164_0, x164_1, x164_4, x164_6, x164_7, x164_9, x164_10, x164_13, x164_15, x164_16, x164_17, x164_18, x164_21, x164_22, x164_25, x164_26, x164_27, x164_29, x164_30, x164_33, x164_35, x164_36, x164_39, x164_40, x164_41, x164_43, x164_46, x164_47, x164_48, x164_51, x164_52, x164_55, x164_56, x164_57, x164_60, x164_61, x164_62, x164_63, x164_66, x164_67, x164_68, x164_69, x164_70, x164_71, x164_72, x164_73, x164_74, x164_77, x164_78, x164_79, x164_80, x164_83, x164_84, x164_85, x164_86, x164_88, x164_91, x164_94, x164_95, x164_96, x164_97, x164_98, x164_101, x164_104, x164_107, x164_108, x164_111, x164_113, x164_114, x164_115, x164_116, x164_117, x164_118, ka_kk_i, ka_kk_n, ka_cl_i, ka_cl_r, ka_cl_n, or_true, true_or, ka_ne2, ka_ne4, ka_ne5, ka_ne10, not_false_eq_true, not_true_eq_false, if_true, if_false, ka_k_0, ka_k_1, ka_k_2, ka_k_3, ka_k_4, ka_k_5, ka_k_6, ka_k_7, ka_k_8, ka_k_9, ka_k_10, ka_k_11, ka_k_12, ka_k_13, ka_k_14, ka_k_15, ka_k_16, ka_k_17, ka_k_18, ka_k_19, ka_k_20, ka_k_21, ka_k_22, ka_k_23, ka_k_24, ka_k_25, ka_k_26, ka_k_27, ka_k_28, ka_k_29, ka_k_30, ka_k_31, ka_k_32, ka_k_33, ka_k_34, ka_k_35, ka_k_36, ka_k_37, ka_k_38, ka_k_39, ka_k_40, ka_k_41, ka_k_42, ka_k_43, ka_k_44, ka_k_45, ka_k_46, ka_k_47, ka_k_48, ka_k_49, ka_k_50, ka_k_51, ka_k_52, ka_k_53, ka_k_54, ka_k_55, ka_k_56, ka_k_57, ka_k_58, ka_k_59, ka_k_60, ka_k_61, ka_k_62, ka_k_63, ka_k_64, ka_k_65, ka_k_66, ka_k_67, ka_k_68, ka_k_69, ka_k_70, ka_k_71, ka_k_72, ka_k_73, ka_k_74, ka_k_75, ka_k_76, ka_k_77, ka_k_78, ka_k_79, ka_k_80, ka_k_81, ka_k_82, ka_k_83, ka_k_84, ka_k_85, ka_k_86, ka_k_87, ka_k_88, ka_k_89, ka_k_90, ka_k_91, ka_k_92, ka_k_93, ka_k_94, ka_k_95, ka_k_96, ka_k_97, ka_k_98, ka_k_99, ka_k_100, ka_rf_0_0, ka_rf_0_1, ka_rf_0_2, ka_rf_0_4, ka_rf_0_5, ka_rf_0_6, ka_rf_0_7, ka_rf_0_8, ka_rf_0_9, ka_rf_61_0, ka_rf_61_2, ka_rf_67_0, ka_rf_67_1, ka_rf_67_2, ka_rf_75_0, ka_rf_87_0, ka_rf_87_1, ka_rf_87_2, ka_rf_87_4, ka_rf_87_11, ka_rf_87_12, ka_rf_87_14, ka_rf_87_15, ka_rf_87_16, ka_rf_87_19, ka_rf_87_20, ka_rf_87_21, ka_rf_87_22, ka_ln_63, ka_ln_64, ka_ln_65, ka_ln_68, ka_ln_69, ka_ln_70, ka_ln_76, ka_ln_77, ka_ln_78, ka_ln_80, ka_ln_82, ka_ln_84, ka_ln_86, ka_ln_88, ka_ln_89, ka_ln_90, ka_ln_91, ka_ln_92, ka_ln_93, ka_ln_94, ka_ln_95, ka_ln_96, ka_ln_97, ka_ln_98, ka_ln_99, ka_ln_100, ka_c_0, ka_c_1, ka_c_2, ka_c_3, ka_c_4, ka_c_5, ka_c_6, ka_c_7, ka_c_8, ka_c_9, ka_c_10, ka_c_11, ka_c_12, ka_c_13, ka_c_14, ka_c_15, ka_c_16, ka_c_17, ka_c_18, ka_c_19, ka_c_20, ka_c_28, ka_c_40, ka_c_50, ka_c_87, i8, i6, hn, hq]
    · rw [z88]
      unfold gb gb_u gb_v
      rw [if_neg hq]
end
