/-! act: text -/
theorem rl_q0 {b : Nat} {X : ka_X} {D : Nat → Int32} (h : rl b X D) (hD : dk D) : rl b (kn_row X b (kn_up (X b) 11 0)) (kn_up D 11 0) ∧ dk (kn_up D 11 0) := by
  have o : ∀ p, ¬ p = b → kn_row X b (kn_up (X b) 11 0) p = X p := fun p a => kn_row_off a
  have e : ∀ i, ¬ i = 11 → kn_up D 11 0 i = D i := fun i a => kn_up_ne a
  have e12 : kn_up D 11 0 11 = 0 := kn_up_at
  obtain ⟨h1, h2, h3, h4, h5, h6, h7⟩ := h
  obtain ⟨k1, k2, k3, k4, k5, k6, k7, k8, k9, k10, k11⟩ := hD
  refine ⟨⟨?_, ?_, ?_, ⟨?_, ?_⟩, ⟨?_, ?_⟩, ?_, ?_⟩, ?_, ?_, ?_, ?_, ?_, ?_, ?_, ?_, ?_, ?_, ?_⟩
  · unfold rl_s at h1 ⊢
    obtain ⟨s1, s2, s3, s4, s5, s6, s7, s8, s9⟩ := h1
    rw [kn_row_at]
    simp only [kn_up_at, kn_up_ne, Nat.reduceEqDiff, reduceCtorEq, not_false_eq_true]
    exact ⟨s1, s2, s3, s4, s5, s6, trivial, s8, s9⟩
  · intro i hi
    rw [o _ (by omega), e _ (by omega)]; exact h2 i hi
  · intro i hi f hf
    rw [e 9 (by omega)] at hi
    rw [o _ (by omega), e _ (by omega)]; exact h3 i hi f hf
  · rw [o _ (by omega), e _ (by omega)]; exact h4.1
  · intro i hi
    rw [e _ (by omega)] at hi
    rw [o _ (by omega), e _ (by omega)]; exact h4.2 i hi
  · rw [o _ (by omega), e _ (by omega)]; exact h5.1
  · intro i hi
    rw [e _ (by omega)] at hi
    rw [o _ (by omega), e _ (by omega)]; exact h5.2 i hi
  · intro i hi
    rw [e12] at hi
    simp only [ka_t_0, ka_t_1, ka_t_2, ka_t_3, ka_t_4, ka_t_5, ka_t_6, ka_t_7, ka_t_8, ka_t_9, ka_t_10, ka_t_11, ka_t_12, ka_t_13, ka_t_14, ka_t_15, ka_t_16, ka_t_17, ka_t_18, ka_t_19, ka_t_20, ka_t_25, ka_t_26, ka_t_28, ka_t_30, ka_t_31, ka_t_32, ka_t_33, ka_t_37, ka_t_38, ka_t_39, ka_t_40, ka_t_41, ka_t_42, ka_t_43, ka_t_45, ka_t_47, ka_t_48, ka_t_50, ka_t_57, ka_t_60, ka_t_61, ka_t_62, ka_t_63, ka_t_64, ka_t_65, ka_t_69, ka_t_70, ka_t_71, ka_t_80, ka_t_85, ka_t_87, ka_t_98, ka_t_99, ka_t_100, ka_t_104, ka_t_107, ka_t_109, ka_t_110, ka_t_112, ka_t_115, ka_t_116, ka_t_117, ka_t_124, ka_t_125, ka_t_160, ka_t_200, ka_t_207, ka_t_255, ka_t_260, ka_t_400, ka_t_624, ka_t_625, ka_t_999, ka_t_9999, ka_t_10000, ka_t_20000, ka_t_20033, ka_t_999999, ka_t_1000000000, ka_t_m1, ka_t_m2, ka_t_m3, ka_t_m5, ka_t_m9, ka_t_m10, ka_t_m1000000000] at hi
    omega
  · intro i hi
    rw [e _ (by omega)] at hi
    rw [o _ (by omega), e _ (by omega)]; exact h7 i hi
  · rw [e 9 (by omega)]; exact k1
  · intro k hk
    rw [e 9 (by omega)] at hk
    exact kn_ok_congr (fun f hf => e _ (by omega)) (k2 k hk)
  · intro i hi
    rw [e _ (by omega)]; exact k3 i hi
  · rw [e _ (by omega)]; exact k4
  · rw [e _ (by omega)]; exact k5
  · rw [e _ (by omega)]; exact k6
  · rw [e _ (by omega)]; exact k7
  · rw [e12]; decide
  · rw [e _ (by omega)]; exact k9
  · exact gv_ok_ch (fun i hi => e i (by omega)) k10
  · exact gv_ok_ch (fun i hi => e i (by omega)) k11
theorem rl_tx {b u L : Nat} {X Z : ka_X} {D E : Nat → Int32} (hu : u < 2) (h : rl b X D) (hD : dk D) (z : ∀ p, ¬ p = b + 3 + 3 * u → ¬ p = b + 4 + 3 * u → Z p = X p) (zs : Z (b + 3 + 3 * u) 1 = nI L) (zt : ∀ j, j < L → Z (b + 4 + 3 * u) j = mw_cd (E (107 + 50 * u + j))) (e85 : E (85 + u) = nI L) (hL : L ≤ 50) (eo : ∀ j, ¬ j = 85 + u → (j < 107 + 50 * u ∨ 157 + 50 * u ≤ j) → E j = D j) (g : gv_ok E u) : rl b Z E ∧ dk E ∧ E 8 = D 8 := by
  obtain ⟨h1, h2, h3, h4, h5, h6, h7⟩ := h
  obtain ⟨k1, k2, k3, k4, k5, k6, k7, k8, k9, k10, k11⟩ := hD
  have t85 : (E (85 + u)).toInt.toNat = L := by rw [e85, ka_nIt (by omega)]; omega
  have hT : rl_t (b + 3 + 3 * u) Z E u := by
    refine ⟨by rw [zs, e85], fun j hj => ?_⟩
    rw [t85] at hj
    rw [show b + 3 + 3 * u + 1 = b + 4 + 3 * u by omega]
    exact zt j hj
  have s10 : (D (85 + 0)).toInt ≤ 50 := k10.2.1
  have s11 : (D (85 + 1)).toInt ≤ 50 := k11.2.1
  have hT0 : rl_t (b + 3) Z E 0 ∧ gv_ok E 0 := by
    rcases (by omega : u = 0 ∨ u = 1) with rfl | rfl
    · exact ⟨hT, g⟩
    · refine ⟨⟨?_, ?_⟩, gv_ok_cg (fun i a c => eo i (by omega) (by omega)) k10⟩
      · rw [z _ (by omega) (by omega), eo _ (by omega) (by omega)]; exact h4.1
      · intro i hi
        rw [eo _ (by omega) (by omega)] at hi
        rw [z _ (by omega) (by omega), eo _ (by omega) (by omega)]; exact h4.2 i hi
  have hT1 : rl_t (b + 6) Z E 1 ∧ gv_ok E 1 := by
    rcases (by omega : u = 0 ∨ u = 1) with rfl | rfl
    · refine ⟨⟨?_, ?_⟩, gv_ok_cg (fun i a c => eo i (by omega) (by omega)) k11⟩
      · rw [z _ (by omega) (by omega), eo _ (by omega) (by omega)]; exact h5.1
      · intro i hi
        rw [eo _ (by omega) (by omega)] at hi
        rw [z _ (by omega) (by omega), eo _ (by omega) (by omega)]; exact h5.2 i hi
    · exact ⟨hT, g⟩
  refine ⟨⟨?_, ?_, ?_, hT0.1, hT1.1, ?_, ?_⟩, ⟨?_, ?_, ?_, ?_, ?_, ?_, ?_, ?_, ?_, hT0.2, hT1.2⟩, eo 8 (by omega) (by omega)⟩
  · unfold rl_s at h1 ⊢
    rw [z b (by omega) (by omega), eo 9 (by omega) (by omega), eo 8 (by omega) (by omega), eo 7 (by omega) (by omega), eo 4 (by omega) (by omega), eo 5 (by omega) (by omega), eo 6 (by omega) (by omega), eo 11 (by omega) (by omega), eo 12 (by omega) (by omega), eo 10 (by omega) (by omega)]
    exact h1
  · intro i hi
    rw [z _ (by omega) (by omega), eo _ (by omega) (by omega)]; exact h2 i hi
  · intro q hq f hf
    rw [eo 9 (by omega) (by omega)] at hq
    rw [z _ (by omega) (by omega), eo _ (by omega) (by omega)]; exact h3 q hq f hf
  · intro i hi
    rw [eo _ (by omega) (by omega)] at hi
    rw [z _ (by omega) (by omega), eo _ (by omega) (by omega)]; exact h6 i hi
  · intro i hi
    rw [eo _ (by omega) (by omega)] at hi
    rw [z _ (by omega) (by omega), eo _ (by omega) (by omega)]; exact h7 i hi
  · rw [eo 9 (by omega) (by omega)]; exact k1
  · intro q hq
    rw [eo 9 (by omega) (by omega)] at hq
    exact kn_ok_congr (fun f hf => eo _ (by omega) (by omega)) (k2 q hq)
  · intro i hi
    rw [eo _ (by omega) (by omega)]; exact k3 i hi
  · rw [eo _ (by omega) (by omega)]; exact k4
  · rw [eo _ (by omega) (by omega)]; exact k5
  · rw [eo _ (by omega) (by omega)]; exact k6
  · rw [eo _ (by omega) (by omega)]; exact k7
  · rw [eo _ (by omega) (by omega)]; exact k8
  · rw [eo _ (by omega) (by omega)]; exact k9
theorem lk_cg {f g : Nat → Int32} : ∀ {D : List Int32}, (∀ j, j < D.length → f j = g j) → lk g D → lk f D
  | [], _, _ => trivial
  | c :: D, h, l => by
    have hl : (c :: D).length = D.length + 1 := List.length_cons
    exact ⟨by rw [h _ (by omega)]; exact l.1, lk_cg (fun j hj => h j (by omega)) l.2⟩
theorem lk_map {f g : Nat → Int32} : ∀ {D : List Int32}, lk f (D.map mw_cd) → lk g D → ∀ j, j < D.length → f j = mw_cd (g j)
  | [], _, _, j, hj => absurd hj (by simp)
  | c :: D, h, l, j, hj => by
    have hl : (c :: D).length = D.length + 1 := List.length_cons
    have h1 : f (D.map mw_cd).length = mw_cd c := h.1
    rw [List.length_map] at h1
    by_cases e : j = D.length
    · subst e
      rw [h1, l.1]
    · exact lk_map h.2 l.2 j (by omega)
def cpx (f g : Nat → Int32) (b j m : Nat) : Nat → Int32 := fun i => if b + j ≤ i ∧ i < b + j + m then f (i - b) else g i
theorem cpx_0 {f g : Nat → Int32} {b j : Nat} : cpx f g b j 0 = g := by
  funext i
  unfold cpx
  rw [if_neg (by omega)]
theorem cpx_s {f g : Nat → Int32} {b j m : Nat} : cpx f (kn_up g (b + j) (f j)) b (j + 1) m = cpx f g b j (m + 1) := by
  funext i
  unfold cpx
  by_cases e : i = b + j
  · subst e
    rw [if_neg (by omega), if_pos (by omega), kn_up_at, Nat.add_sub_cancel_left]
  · by_cases w : b + (j + 1) ≤ i ∧ i < b + (j + 1) + m
    · rw [if_pos w, if_pos (by omega)]
    · rw [if_neg w, if_neg (by omega), kn_up_ne e]
theorem Inv_txt {X Y Z : ka_X} {E : Nat → Int32} (h : Inv X) (hr : rl 1 Y E) (hD : dk E) (h8 : (E 8).toInt ≤ 9999) (hY : ∀ p, (p < 1 ∨ 1 + 20 ≤ p) → ¬ (61 ≤ p ∧ p < 66) → Y p = X p) (z88 : Z 88 = E) (hZ : ∀ p, ¬ p = 88 → ¬ p = 87 → ¬ p = 93 → Z p = Y p) (z3 : Z 87 3 = Y 87 3) (z17 : Z 87 17 = Y 87 17) : Inv Z := by
  refine Inv_fr h ⟨fun p hp => (hZ p (by omega) (by omega) (by omega)).trans (hY p (by omega) (by omega)), by rw [z3, hY 87 (by omega) (by omega)], by rw [z17, hY 87 (by omega) (by omega)]⟩ ?_
  unfold I1
  rw [z88]
  exact ⟨rl_cg hr (fun p a b _ _ _ => hZ p (by omega) (by omega) (by omega)) hD.1.2, hD, h8⟩
section
variable {sc : aS} {d : Nat}
theorem s140l {u L : Nat} (hu : u < 2) (hL : L ≤ 50) : ∀ (m j : Nat) (X : ka_X) (a2 : Value), m + j = L → X 87 13 = nI L → ka_ex sc d 140 71 [.ref 87, .int (nI u), a2, .int (nI j)] [] (ka_mem X) = some (some (.int 1), ka_mem (kn_row X 88 (cpx (X 93) (X 88) (107 + 50 * u) j m))) := by
  intro m
  induction m with
  | zero =>
    intro j X a2 hm h13
    obtain rfl : j = L := by omega
    have h1 : ¬ nI j < nI j := by rw [ka_ilt]; omega
    rw [cpx_0, kn_row_self, x140_71]
    simp only [x140_0, x140_1, x140_2, x140_3, x140_4, x140_7, x140_10, x140_11, x140_12, x140_15, x140_16, x140_17, x140_20, x140_22, x140_23, x140_24, x140_25, x140_28, x140_30, x140_31, x140_32, x140_33, x140_36, x140_37, x140_38, x140_41, x140_42, x140_45, x140_48, x140_50, x140_51, x140_54, x140_55, x140_56, x140_57, x140_60, x140_62, x140_63, x140_64, x140_65, x140_68, x140_69, x140_70, x140_72, x140_73, x140_76, x140_79, x140_80, x140_83, x140_85, x140_87, x140_88, x140_89, x140_90, x140_91, x140_92, x140_93, x140_96, x140_97, x140_98, x140_99, x140_102, x140_105, x140_106, ka_kk_i, ka_kk_n, ka_cl_i, ka_cl_r, ka_cl_n, or_true, true_or, ka_ne2, ka_ne4, ka_ne5, ka_ne10, not_false_eq_true, not_true_eq_false, if_true, if_false, ka_k_0, ka_k_1, ka_k_2, ka_k_3, ka_k_4, ka_k_5, ka_k_6, ka_k_7, ka_k_8, ka_k_9, ka_k_10, ka_k_11, ka_k_12, ka_k_13, ka_k_14, ka_k_15, ka_k_16, ka_k_17, ka_k_18, ka_k_19, ka_k_20, ka_k_21, ka_k_22, ka_k_23, ka_k_24, ka_k_25, ka_k_26, ka_k_27, ka_k_28, ka_k_29, ka_k_30, ka_k_31, ka_k_32, ka_k_33, ka_k_34, ka_k_35, ka_k_36, ka_k_37, ka_k_38, ka_k_39, ka_k_40, ka_k_41, ka_k_42, ka_k_43, ka_k_44, ka_k_45, ka_k_46, ka_k_47, ka_k_48, ka_k_49, ka_k_50, ka_k_51, ka_k_52, ka_k_53, ka_k_54, ka_k_55, ka_k_56, ka_k_57, ka_k_58, ka_k_59, ka_k_60, ka_k_61, ka_k_62, ka_k_63, ka_k_64, ka_k_65, ka_k_66, ka_k_67, ka_k_68, ka_k_69, ka_k_70, ka_k_71, ka_k_72, ka_k_73, ka_k_74, ka_k_75, ka_k_76, ka_k_77, ka_k_78, ka_k_79, ka_k_80, ka_k_81, ka_k_82, ka_k_83, ka_k_84, ka_k_85, ka_k_86, ka_k_87, ka_k_88, ka_k_89, ka_k_90, ka_k_91, ka_k_92, ka_k_93, ka_k_94, ka_k_95, ka_k_96, ka_k_97, ka_k_98, ka_k_99, ka_k_100, ka_rf_0_0, ka_rf_0_1, ka_rf_0_2, ka_rf_0_4, ka_rf_0_5, ka_rf_0_6, ka_rf_0_7, ka_rf_0_8, ka_rf_0_9, ka_rf_61_0, ka_rf_61_2, ka_rf_67_0, ka_rf_67_1, ka_rf_67_2, ka_rf_75_0, ka_rf_87_0, ka_rf_87_1, ka_rf_87_2, ka_rf_87_4, ka_rf_87_11, ka_rf_87_12, ka_rf_87_14, ka_rf_87_15, ka_rf_87_16, ka_rf_87_19, ka_rf_87_20, ka_rf_87_21, ka_rf_87_22, ka_ln_63, ka_ln_64, ka_ln_65, ka_ln_68, ka_ln_69, ka_ln_70, ka_ln_76, ka_ln_77, ka_ln_78, ka_ln_80, ka_ln_82, ka_ln_84, ka_ln_86, ka_ln_88, ka_ln_89, ka_ln_90, ka_ln_91, ka_ln_92, ka_ln_93, ka_ln_94, ka_ln_95, ka_ln_96, ka_ln_97, ka_ln_98, ka_ln_99, ka_ln_100, h13, h1]
  | succ m ih =>
    intro j X a2 hm h13
    have h1 : nI j < nI L := by rw [ka_ilt, ka_nIt (by omega), ka_nIt (by omega)]; omega
    have es : nI j + 1 = nI (j + 1) := nI_s.symm
    have hb : (107 + 50 * nI u).toInt = 107 + 50 * u := by
      rcases (by omega : u = 0 ∨ u = 1) with rfl | rfl <;> decide
    obtain ⟨i1, c1⟩ := ka_ixs (a := 107 + 50 * nI u + nI j) (n := 107 + 50 * u + j) (m := 260) (by rw [ka_add (by rw [hb, ka_nIt (by omega)]; omega), hb, ka_nIt (by omega)]; omega) (by omega)
    obtain ⟨i2, c2⟩ := ka_ixs (a := nI j) (n := j) (m := 60) (ka_nIt (by omega)) (by omega)
    have hi := ih (j + 1) (kn_row X 88 (kn_up (X 88) (107 + 50 * u + j) (X 93 j))) (ka_cl a2) (by omega) (by rw [kn_row_off (by decide)]; exact h13)
    rw [kn_row_at, kn_row_off (by decide), kn_row_row, cpx_s] at hi
    rw [x140_71]
    simp only [x140_0, x140_1, x140_2, x140_3, x140_4, x140_7, x140_10, x140_11, x140_12, x140_15, x140_16, x140_17, x140_20, x140_22, x140_23, x140_24, x140_25, x140_28, x140_30, x140_31, x140_32, x140_33, x140_36, x140_37, x140_38, x140_41, x140_42, x140_45, x140_48, x140_50, x140_51, x140_54, x140_55, x140_56, x140_57, x140_60, x140_62, x140_63, x140_64, x140_65, x140_68, x140_69, x140_70, x140_72, x140_73, x140_76, x140_79, x140_80, x140_83, x140_85, x140_87, x140_88, x140_89, x140_90, x140_91, x140_92, x140_93, x140_96, x140_97, x140_98, x140_99, x140_102, x140_105, x140_106, ka_kk_i, ka_kk_n, ka_cl_i, ka_cl_r, ka_cl_n, or_true, true_or, ka_ne2, ka_ne4, ka_ne5, ka_ne10, not_false_eq_true, not_true_eq_false, if_true, if_false, ka_k_0, ka_k_1, ka_k_2, ka_k_3, ka_k_4, ka_k_5, ka_k_6, ka_k_7, ka_k_8, ka_k_9, ka_k_10, ka_k_11, ka_k_12, ka_k_13, ka_k_14, ka_k_15, ka_k_16, ka_k_17, ka_k_18, ka_k_19, ka_k_20, ka_k_21, ka_k_22, ka_k_23, ka_k_24, ka_k_25, ka_k_26, ka_k_27, ka_k_28, ka_k_29, ka_k_30, ka_k_31, ka_k_32, ka_k_33, ka_k_34, ka_k_35, ka_k_36, ka_k_37, ka_k_38, ka_k_39, ka_k_40, ka_k_41, ka_k_42, ka_k_43, ka_k_44, ka_k_45, ka_k_46, ka_k_47, ka_k_48, ka_k_49, ka_k_50, ka_k_51, ka_k_52, ka_k_53, ka_k_54, ka_k_55, ka_k_56, ka_k_57, ka_k_58, ka_k_59, ka_k_60, ka_k_61, ka_k_62, ka_k_63, ka_k_64, ka_k_65, ka_k_66, ka_k_67, ka_k_68, ka_k_69, ka_k_70, ka_k_71, ka_k_72, ka_k_73, ka_k_74, ka_k_75, ka_k_76, ka_k_77, ka_k_78, ka_k_79, ka_k_80, ka_k_81, ka_k_82, ka_k_83, ka_k_84, ka_k_85, ka_k_86, ka_k_87, ka_k_88, ka_k_89, ka_k_90, ka_k_91, ka_k_92, ka_k_93, ka_k_94, ka_k_95, ka_k_96, ka_k_97, ka_k_98, ka_k_99, ka_k_100, ka_rf_0_0, ka_rf_0_1, ka_rf_0_2, ka_rf_0_4, ka_rf_0_5, ka_rf_0_6, ka_rf_0_7, ka_rf_0_8, ka_rf_0_9, ka_rf_61_0, ka_rf_61_2, ka_rf_67_0, ka_rf_67_1, ka_rf_67_2, ka_rf_75_0, ka_rf_87_0, ka_rf_87_1, ka_rf_87_2, ka_rf_87_4, ka_rf_87_11, ka_rf_87_12, ka_rf_87_14, ka_rf_87_15, ka_rf_87_16, ka_rf_87_19, ka_rf_87_20, ka_rf_87_21, ka_rf_87_22, ka_ln_63, ka_ln_64, ka_ln_65, ka_ln_68, ka_ln_69, ka_ln_70, ka_ln_76, ka_ln_77, ka_ln_78, ka_ln_80, ka_ln_82, ka_ln_84, ka_ln_86, ka_ln_88, ka_ln_89, ka_ln_90, ka_ln_91, ka_ln_92, ka_ln_93, ka_ln_94, ka_ln_95, ka_ln_96, ka_ln_97, ka_ln_98, ka_ln_99, ka_ln_100, h13, h1, i1, c1, i2, c2, kn_put_r, es, hi]
theorem op_text {u : Int32} {X : ka_X} (h : Inv X) : op sc (d + 44) 73 140 [.ref 0, .int u, ka_nv, ka_nv] [.ref 87, .int u, ka_nv, ka_nv] X := by
  have hD := h.1.2.1
  have hN := hD.1
  have e11 : X 1 11 = X 88 11 := h.1.1.1.2.2.2.2.2.2.1
  have z11 := hD.2.2.2.2.2.2.2.1
  have i11 : ka_in 11 260 := ka_inI.mpr (by decide)
  by_cases cc : u.toInt = 0 ∨ u.toInt = 1
  · obtain ⟨n, hn, hn50⟩ : ∃ n : Nat, X 88 11 = nI n ∧ n ≤ 50 := by
      refine ⟨(X 88 11).toInt.toNat, ka_eq_lit ?_, by omega⟩
      rw [ka_nIt (by omega)]; omega
    have hnN : (X 88 11).toInt.toNat = n := by rw [hn, ka_nIt (by omega)]; omega
    have hw := h.1.1.2.2.2.2.2.1
    have hB : ∀ j, j < n → 0 ≤ (X 88 (207 + j)).toInt ∧ (X 88 (207 + j)).toInt ≤ 255 := fun j hj => (hw j (by omega)).2
    have hX10 : ∀ j, j < n → X 10 j = X 88 (207 + j) := fun j hj => (hw j (by omega)).1
    rcases cc with cc | cc
    · have hu0 : u = 0 := ka_eq_lit cc
      subst hu0
      obtain ⟨Y, y1, yo, y3⟩ := @sp_12 sc (d + 37) X 0 (fun j => X 88 (207 + j)) 10 n 1007 (Or.inl rfl) (Or.inl ⟨rfl, rfl⟩) hn50 hB ka_k_10 (ka_st_l9 ka_k_1) (by decide) hX10
      have yp : ∀ p, ¬ (61 ≤ p ∧ p < 66) → Y p = X p := fun p hp => yo p (by omega) (by omega) (by omega) (by omega)
      have hrY : rl 1 Y (X 88) := rl_cg h.1.1 (fun p a b _ _ _ => yp p (by omega)) hN.2
      obtain ⟨r1, r2⟩ := rl_q0 hrY hD
      have ey1 : Y 1 = X 1 := yp 1 (by decide)
      have ey88 : Y 88 = X 88 := yp 88 (by decide)
      generalize hY1 : kn_row Y 1 (kn_up (Y 1) 11 0) = Y1 at r1
      have y1p : ∀ p, ¬ p = 1 → Y1 p = Y p := fun p hp => by rw [← hY1, kn_row_off hp]
      have ku : ∀ q : Nat → Int32, ∀ j, kn_up q 11 0 (207 + j) = q (207 + j) := fun q j => kn_up_ne (by omega)
      have r8 : (kn_up (X 88) 11 0 8).toInt ≤ 9999 := by rw [kn_up_ne (by decide)]; exact h.1.2.2
      cases hau : au 0 (fun j => X 88 (207 + j)) n 0 [] [] true 0 with
      | inl f =>
        rw [hau] at y1
        have m88 : Y1 88 = X 88 := by rw [y1p 88 (by decide), ey88]
        obtain ⟨Z, z1, zo, zf⟩ := @sp_136 sc d 0 (fun j => X 88 (207 + j)) n (kn_row Y1 88 (kn_up (X 88) 11 0)) (by decide) hn50 hB (fun j hj => by rw [kn_row_at, ku])
        rcases zf with ⟨f2, f3, f4, f5⟩ | ⟨T, D, f3, f4⟩
        · rw [hau] at f3
          cases f3
          have nf : ¬ nI f < 0 := by rw [ka_ilt, ka_nIt (by omega)]; simp only [ka_t_0, ka_t_1, ka_t_2, ka_t_3, ka_t_4, ka_t_5, ka_t_6, ka_t_7, ka_t_8, ka_t_9, ka_t_10, ka_t_11, ka_t_12, ka_t_13, ka_t_14, ka_t_15, ka_t_16, ka_t_17, ka_t_18, ka_t_19, ka_t_20, ka_t_25, ka_t_26, ka_t_28, ka_t_30, ka_t_31, ka_t_32, ka_t_33, ka_t_37, ka_t_38, ka_t_39, ka_t_40, ka_t_41, ka_t_42, ka_t_43, ka_t_45, ka_t_47, ka_t_48, ka_t_50, ka_t_57, ka_t_60, ka_t_61, ka_t_62, ka_t_63, ka_t_64, ka_t_65, ka_t_69, ka_t_70, ka_t_71, ka_t_80, ka_t_85, ka_t_87, ka_t_98, ka_t_99, ka_t_100, ka_t_104, ka_t_107, ka_t_109, ka_t_110, ka_t_112, ka_t_115, ka_t_116, ka_t_117, ka_t_124, ka_t_125, ka_t_160, ka_t_200, ka_t_207, ka_t_255, ka_t_260, ka_t_400, ka_t_624, ka_t_625, ka_t_999, ka_t_9999, ka_t_10000, ka_t_20000, ka_t_20033, ka_t_999999, ka_t_1000000000, ka_t_m1, ka_t_m2, ka_t_m3, ka_t_m5, ka_t_m9, ka_t_m10, ka_t_m1000000000]; omega
          have z88 : Z 88 = kn_up (X 88) 11 0 := by rw [zo.1 88 (by decide) (by decide), kn_row_at]
          refine ⟨-10 - nI f, Y1, Z, ?_, ?_, Inv_txt h r1 r2 r8 (fun p a b => by rw [y1p p (by omega)]; exact yp p b) z88 (fun p a b c => by rw [zo.1 p b c, kn_row_off a]) (by rw [zo.2.1, kn_row_off (by decide)]) (by rw [zo.2.2, kn_row_off (by decide)])⟩
          · have y1' : ka_ex sc (d + 43) 12 0 [.ref 61, .ref 10, .int (nI n), .ref 1007, ka_nv, ka_nv] [] (ka_mem X) = some (some (.int (nI f)), ka_mem Y) := y1
            simp only [x73_0, x73_1, x73_4, x73_7, x73_8, x73_9, x73_12, x73_13, x73_14, x73_17, x73_18, x73_21, x73_24, x73_25, x73_28, x73_31, x73_32, x73_35, x73_37, x73_40, x73_42, x73_45, x73_46, x73_47, x73_50, x73_51, x73_54, x73_55, x73_58, x73_60, x73_61, x73_62, x73_63, x73_64, x73_67, x73_68, x73_71, x73_74, x73_77, x73_78, x73_81, x73_84, x73_85, x73_86, x73_87, x73_90, x73_93, x73_96, x73_97, ka_kk_i, ka_kk_n, ka_cl_i, ka_cl_r, ka_cl_n, or_true, true_or, ka_ne2, ka_ne4, ka_ne5, ka_ne10, not_false_eq_true, not_true_eq_false, if_true, if_false, ka_k_0, ka_k_1, ka_k_2, ka_k_3, ka_k_4, ka_k_5, ka_k_6, ka_k_7, ka_k_8, ka_k_9, ka_k_10, ka_k_11, ka_k_12, ka_k_13, ka_k_14, ka_k_15, ka_k_16, ka_k_17, ka_k_18, ka_k_19, ka_k_20, ka_k_21, ka_k_22, ka_k_23, ka_k_24, ka_k_25, ka_k_26, ka_k_27, ka_k_28, ka_k_29, ka_k_30, ka_k_31, ka_k_32, ka_k_33, ka_k_34, ka_k_35, ka_k_36, ka_k_37, ka_k_38, ka_k_39, ka_k_40, ka_k_41, ka_k_42, ka_k_43, ka_k_44, ka_k_45, ka_k_46, ka_k_47, ka_k_48, ka_k_49, ka_k_50, ka_k_51, ka_k_52, ka_k_53, ka_k_54, ka_k_55, ka_k_56, ka_k_57, ka_k_58, ka_k_59, ka_k_60, ka_k_61, ka_k_62, ka_k_63, ka_k_64, ka_k_65, ka_k_66, ka_k_67, ka_k_68, ka_k_69, ka_k_70, ka_k_71, ka_k_72, ka_k_73, ka_k_74, ka_k_75, ka_k_76, ka_k_77, ka_k_78, ka_k_79, ka_k_80, ka_k_81, ka_k_82, ka_k_83, ka_k_84, ka_k_85, ka_k_86, ka_k_87, ka_k_88, ka_k_89, ka_k_90, ka_k_91, ka_k_92, ka_k_93, ka_k_94, ka_k_95, ka_k_96, ka_k_97, ka_k_98, ka_k_99, ka_k_100, ka_rf_0_0, ka_rf_0_1, ka_rf_0_2, ka_rf_0_4, ka_rf_0_5, ka_rf_0_6, ka_rf_0_7, ka_rf_0_8, ka_rf_0_9, ka_rf_61_0, ka_rf_61_2, ka_rf_67_0, ka_rf_67_1, ka_rf_67_2, ka_rf_75_0, ka_rf_87_0, ka_rf_87_1, ka_rf_87_2, ka_rf_87_4, ka_rf_87_11, ka_rf_87_12, ka_rf_87_14, ka_rf_87_15, ka_rf_87_16, ka_rf_87_19, ka_rf_87_20, ka_rf_87_21, ka_rf_87_22, ka_ln_63, ka_ln_64, ka_ln_65, ka_ln_68, ka_ln_69, ka_ln_70, ka_ln_76, ka_ln_77, ka_ln_78, ka_ln_80, ka_ln_82, ka_ln_84, ka_ln_86, ka_ln_88, ka_ln_89, ka_ln_90, ka_ln_91, ka_ln_92, ka_ln_93, ka_ln_94, ka_ln_95, ka_ln_96, ka_ln_97, ka_ln_98, ka_ln_99, ka_ln_100, sp_100, sp_106, sp_109, sp_110, sp_111, sp_112, sp_113, sp_117, sp_191, ka_i64, ka_b_0, ka_one0, and_self, ka_lit64_69, ka_lit64_5, ka_lit64_99, ka_lit64_8, ka_lit64_48, ka_lit64_57, ka_lit64_9, ka_lit64_6, ka_lit64_3, ka_lit64_60, ka_lit64_20, ka_lit64_12, ka_lit64_4, ka_lit64_400, ka_lit64_999, ka_lit64_m1, ka_lit64_1, ka_l0, ka_t_0, ka_t_1, ka_t_3, ka_t_4, ka_t_6, ka_t_7, ka_t_9, ka_t_5, ka_t_8, ka_t_60, ka_t_69, ka_t_99, ka_t_400, ka_t_999, ka_t_m1, ka_st_r9 ka_k_1, ka_st_r10 ka_k_1, ka_st_r7 ka_k_1, ka_st_r8 ka_k_1, e11, hn, y1', kn_put_r, hY1, nf]
          · simp only [x140_0, x140_1, x140_2, x140_3, x140_4, x140_7, x140_10, x140_11, x140_12, x140_15, x140_16, x140_17, x140_20, x140_22, x140_23, x140_24, x140_25, x140_28, x140_30, x140_31, x140_32, x140_33, x140_36, x140_37, x140_38, x140_41, x140_42, x140_45, x140_48, x140_50, x140_51, x140_54, x140_55, x140_56, x140_57, x140_60, x140_62, x140_63, x140_64, x140_65, x140_68, x140_69, x140_70, x140_71, x140_72, x140_73, x140_76, x140_79, x140_80, x140_83, x140_85, x140_87, x140_88, x140_89, x140_90, x140_91, x140_92, x140_93, x140_96, x140_97, x140_98, x140_99, x140_102, x140_105, x140_106, ka_kk_i, ka_kk_n, ka_cl_i, ka_cl_r, ka_cl_n, or_true, true_or, ka_ne2, ka_ne4, ka_ne5, ka_ne10, not_false_eq_true, not_true_eq_false, if_true, if_false, ka_k_0, ka_k_1, ka_k_2, ka_k_3, ka_k_4, ka_k_5, ka_k_6, ka_k_7, ka_k_8, ka_k_9, ka_k_10, ka_k_11, ka_k_12, ka_k_13, ka_k_14, ka_k_15, ka_k_16, ka_k_17, ka_k_18, ka_k_19, ka_k_20, ka_k_21, ka_k_22, ka_k_23, ka_k_24, ka_k_25, ka_k_26, ka_k_27, ka_k_28, ka_k_29, ka_k_30, ka_k_31, ka_k_32, ka_k_33, ka_k_34, ka_k_35, ka_k_36, ka_k_37, ka_k_38, ka_k_39, ka_k_40, ka_k_41, ka_k_42, ka_k_43, ka_k_44, ka_k_45, ka_k_46, ka_k_47, ka_k_48, ka_k_49, ka_k_50, ka_k_51, ka_k_52, ka_k_53, ka_k_54, ka_k_55, ka_k_56, ka_k_57, ka_k_58, ka_k_59, ka_k_60, ka_k_61, ka_k_62, ka_k_63, ka_k_64, ka_k_65, ka_k_66, ka_k_67, ka_k_68, ka_k_69, ka_k_70, ka_k_71, ka_k_72, ka_k_73, ka_k_74, ka_k_75, ka_k_76, ka_k_77, ka_k_78, ka_k_79, ka_k_80, ka_k_81, ka_k_82, ka_k_83, ka_k_84, ka_k_85, ka_k_86, ka_k_87, ka_k_88, ka_k_89, ka_k_90, ka_k_91, ka_k_92, ka_k_93, ka_k_94, ka_k_95, ka_k_96, ka_k_97, ka_k_98, ka_k_99, ka_k_100, ka_rf_0_0, ka_rf_0_1, ka_rf_0_2, ka_rf_0_4, ka_rf_0_5, ka_rf_0_6, ka_rf_0_7, ka_rf_0_8, ka_rf_0_9, ka_rf_61_0, ka_rf_61_2, ka_rf_67_0, ka_rf_67_1, ka_rf_67_2, ka_rf_75_0, ka_rf_87_0, ka_rf_87_1, ka_rf_87_2, ka_rf_87_4, ka_rf_87_11, ka_rf_87_12, ka_rf_87_14, ka_rf_87_15, ka_rf_87_16, ka_rf_87_19, ka_rf_87_20, ka_rf_87_21, ka_rf_87_22, ka_ln_63, ka_ln_64, ka_ln_65, ka_ln_68, ka_ln_69, ka_ln_70, ka_ln_76, ka_ln_77, ka_ln_78, ka_ln_80, ka_ln_82, ka_ln_84, ka_ln_86, ka_ln_88, ka_ln_89, ka_ln_90, ka_ln_91, ka_ln_92, ka_ln_93, ka_ln_94, ka_ln_95, ka_ln_96, ka_ln_97, ka_ln_98, ka_ln_99, ka_ln_100, sp_100, sp_106, sp_109, sp_110, sp_111, sp_112, sp_113, sp_117, sp_191, ka_i64, ka_b_0, ka_one0, and_self, ka_lit64_69, ka_lit64_5, ka_lit64_99, ka_lit64_8, ka_lit64_48, ka_lit64_57, ka_lit64_9, ka_lit64_6, ka_lit64_3, ka_lit64_60, ka_lit64_20, ka_lit64_12, ka_lit64_4, ka_lit64_400, ka_lit64_999, ka_lit64_m1, ka_lit64_1, ka_l0, ka_t_0, ka_t_1, ka_t_3, ka_t_4, ka_t_6, ka_t_7, ka_t_9, ka_t_5, ka_t_8, ka_t_60, ka_t_69, ka_t_99, ka_t_400, ka_t_999, ka_t_m1, ka_lit64_69, ka_lit64_5, ka_lit64_99, ka_lit64_8, ka_lit64_48, ka_lit64_57, ka_lit64_9, ka_lit64_6, ka_lit64_3, ka_lit64_60, ka_lit64_20, ka_lit64_12, ka_lit64_4, ka_lit64_400, ka_lit64_999, ka_lit64_m1, ka_lit64_1, ka_i64, ka_l0, ka_c_0, ka_c_1, ka_c_2, ka_c_3, ka_c_4, ka_c_5, ka_c_6, ka_c_7, ka_c_8, ka_c_9, ka_c_10, ka_c_11, ka_c_12, ka_c_13, ka_c_14, ka_c_15, ka_c_16, ka_c_17, ka_c_18, ka_c_19, ka_c_20, ka_c_28, ka_c_40, ka_c_50, ka_c_87, i11, m88, hn, kn_put_r, z1, f4, nf, show ((0 : Int) ≤ 0 ∧ (0 : Int) ≤ 1) = True by decide]
        · rw [hau] at f3
          cases f3
      | inr T =>
        rw [hau] at y1
        obtain ⟨t1, t2, t3⟩ := y3 T hau
        have h52 := @sp_52 sc (d + 42) Y1 4 62 ka_k_4 ka_k_62 (by decide)
        have w62 : Y1 62 1 = nI T.length := by rw [y1p 62 (by decide)]; exact t1
        have w63 : Y1 (62 + 1) = Y 63 := y1p 63 (by decide)
        rw [w62, w63] at h52
        generalize hY2 : kn_row (kn_row Y1 4 (kn_up (Y1 4) 1 (nI T.length))) (4 + 1) (kn_cp 50 (Y 63) (Y1 (4 + 1))) = Y2 at h52
        have y2p : ∀ p, ¬ p = 4 → ¬ p = 4 + 1 → Y2 p = Y1 p := fun p a b => by rw [← hY2, kn_row_off b, kn_row_off a]
        have y2s : Y2 4 1 = nI T.length := by rw [← hY2, kn_row_off (by decide), kn_row_at, kn_up_at]
        have y2t : ∀ j, j < 50 → Y2 (4 + 1) j = Y 63 j := fun j hj => by rw [← hY2, kn_row_at]; exact if_pos hj
        have m88 : Y2 88 = X 88 := by rw [y2p 88 (by decide) (by decide), y1p 88 (by decide), ey88]
        obtain ⟨Z, z1, zo, zf⟩ := @sp_136 sc d 0 (fun j => X 88 (207 + j)) n (kn_row Y2 88 (kn_up (X 88) 11 0)) (by decide) hn50 hB (fun j hj => by rw [kn_row_at, ku])
        rcases zf with ⟨f2, f3, f4, f5⟩ | ⟨T2, D, f3, f4, f5, f6, f7, f8, f9, f10⟩
        · rw [hau] at f3
          cases f3
        · rw [hau] at f3
          cases f3
          have hlen : T.length = D.length := by rw [← f7, List.length_map]
          have z88 : Z 88 = kn_up (X 88) 11 0 := by rw [zo.1 88 (by decide) (by decide), kn_row_at]
          have nf : (-1 : Int32) < 0 := by decide
          have i85 : ka_in 85 260 := ka_inI.mpr (by decide)
          have c85 : (85 : Int32).toNatClampNeg = 85 := by decide
          have hu85 : (85 : Int32) + 0 = 85 := by decide
          have hl := @s140l sc (d + 44) 0 D.length (by decide) f9 D.length 0 (kn_row Z 88 (kn_up (kn_up (X 88) 11 0) 85 (nI D.length))) (.int (nI n)) (by omega) (by rw [kn_row_off (by decide)]; exact f5)
          rw [kn_row_at, kn_row_off (by decide), kn_row_row] at hl
          have hl' : ka_ex sc (d + 44) 140 71 [.ref 87, .int 0, .int (nI n), .int 0] [] (ka_mem (kn_row Z 88 (kn_up (kn_up (X 88) 11 0) 85 (nI D.length)))) = _ := hl
          clear hl
          generalize hE : cpx (Z 93) (kn_up (kn_up (X 88) 11 0) 85 (nI D.length)) (107 + 50 * 0) 0 D.length = E at hl'
          have eo : ∀ j, ¬ j = 85 + 0 → (j < 107 + 50 * 0 ∨ 157 + 50 * 0 ≤ j) → E j = kn_up (X 88) 11 0 j := by
            intro j a b
            rw [← hE]
            unfold cpx
            rw [if_neg (by omega), kn_up_ne a]
          have e85 : E (85 + 0) = nI D.length := by
            rw [← hE]
            unfold cpx
            rw [if_neg (by omega)]
            exact kn_up_at
          have en : ∀ j, j < D.length → E (107 + 50 * 0 + j) = Z 93 j := by
            intro j hj
            rw [← hE]
            unfold cpx
            rw [if_pos (by omega), Nat.add_sub_cancel_left]
          have hg : gv_ok E 0 := by
            have t85 : (E (85 + 0)).toInt = D.length := by rw [e85, ka_nIt (by omega)]
            refine ⟨by rw [t85]; omega, by rw [t85]; omega, fun _ => ?_⟩
            rw [t85]
            have := ev_mw (f := E) (i := 107 + 50 * 0) (D := D) (m := 0) (f8 0) (fun _ => trivial) (lk_cg (fun j hj => en j hj) f6) rfl
            exact this
          obtain ⟨s1, s2, s3⟩ := rl_tx (u := 0) (L := D.length) (Z := Y2) (E := E) (by decide) r1 r2 (fun p a b => y2p p a b) (by rw [← hlen]; exact y2s) (fun j hj => by rw [en j hj]; exact (y2t j (by omega)).trans (lk_map (by rw [f7]; exact t2) f6 j hj)) e85 f9 eo hg
          refine ⟨1, Y2, kn_row Z 88 E, ?_, ?_, Inv_txt h s1 s2 (by rw [s3]; exact r8) (fun p a b => by rw [y2p p (by omega) (by omega), y1p p (by omega)]; exact yp p b) kn_row_at (fun p a b c => by rw [kn_row_off a, zo.1 p b c, kn_row_off a]) (by rw [kn_row_off (by decide), zo.2.1, kn_row_off (by decide)]) (by rw [kn_row_off (by decide), zo.2.2, kn_row_off (by decide)])⟩
          · have y1' : ka_ex sc (d + 43) 12 0 [.ref 61, .ref 10, .int (nI n), .ref 1007, ka_nv, ka_nv] [] (ka_mem X) = some (some (.int (-1)), ka_mem Y) := y1
            simp only [x73_0, x73_1, x73_4, x73_7, x73_8, x73_9, x73_12, x73_13, x73_14, x73_17, x73_18, x73_21, x73_24, x73_25, x73_28, x73_31, x73_32, x73_35, x73_37, x73_40, x73_42, x73_45, x73_46, x73_47, x73_50, x73_51, x73_54, x73_55, x73_58, x73_60, x73_61, x73_62, x73_63, x73_64, x73_67, x73_68, x73_71, x73_74, x73_77, x73_78, x73_81, x73_84, x73_85, x73_86, x73_87, x73_90, x73_93, x73_96, x73_97, ka_kk_i, ka_kk_n, ka_cl_i, ka_cl_r, ka_cl_n, or_true, true_or, ka_ne2, ka_ne4, ka_ne5, ka_ne10, not_false_eq_true, not_true_eq_false, if_true, if_false, ka_k_0, ka_k_1, ka_k_2, ka_k_3, ka_k_4, ka_k_5, ka_k_6, ka_k_7, ka_k_8, ka_k_9, ka_k_10, ka_k_11, ka_k_12, ka_k_13, ka_k_14, ka_k_15, ka_k_16, ka_k_17, ka_k_18, ka_k_19, ka_k_20, ka_k_21, ka_k_22, ka_k_23, ka_k_24, ka_k_25, ka_k_26, ka_k_27, ka_k_28, ka_k_29, ka_k_30, ka_k_31, ka_k_32, ka_k_33, ka_k_34, ka_k_35, ka_k_36, ka_k_37, ka_k_38, ka_k_39, ka_k_40, ka_k_41, ka_k_42, ka_k_43, ka_k_44, ka_k_45, ka_k_46, ka_k_47, ka_k_48, ka_k_49, ka_k_50, ka_k_51, ka_k_52, ka_k_53, ka_k_54, ka_k_55, ka_k_56, ka_k_57, ka_k_58, ka_k_59, ka_k_60, ka_k_61, ka_k_62, ka_k_63, ka_k_64, ka_k_65, ka_k_66, ka_k_67, ka_k_68, ka_k_69, ka_k_70, ka_k_71, ka_k_72, ka_k_73, ka_k_74, ka_k_75, ka_k_76, ka_k_77, ka_k_78, ka_k_79, ka_k_80, ka_k_81, ka_k_82, ka_k_83, ka_k_84, ka_k_85, ka_k_86, ka_k_87, ka_k_88, ka_k_89, ka_k_90, ka_k_91, ka_k_92, ka_k_93, ka_k_94, ka_k_95, ka_k_96, ka_k_97, ka_k_98, ka_k_99, ka_k_100, ka_rf_0_0, ka_rf_0_1, ka_rf_0_2, ka_rf_0_4, ka_rf_0_5, ka_rf_0_6, ka_rf_0_7, ka_rf_0_8, ka_rf_0_9, ka_rf_61_0, ka_rf_61_2, ka_rf_67_0, ka_rf_67_1, ka_rf_67_2, ka_rf_75_0, ka_rf_87_0, ka_rf_87_1, ka_rf_87_2, ka_rf_87_4, ka_rf_87_11, ka_rf_87_12, ka_rf_87_14, ka_rf_87_15, ka_rf_87_16, ka_rf_87_19, ka_rf_87_20, ka_rf_87_21, ka_rf_87_22, ka_ln_63, ka_ln_64, ka_ln_65, ka_ln_68, ka_ln_69, ka_ln_70, ka_ln_76, ka_ln_77, ka_ln_78, ka_ln_80, ka_ln_82, ka_ln_84, ka_ln_86, ka_ln_88, ka_ln_89, ka_ln_90, ka_ln_91, ka_ln_92, ka_ln_93, ka_ln_94, ka_ln_95, ka_ln_96, ka_ln_97, ka_ln_98, ka_ln_99, ka_ln_100, sp_100, sp_106, sp_109, sp_110, sp_111, sp_112, sp_113, sp_117, sp_191, ka_i64, ka_b_0, ka_one0, and_self, ka_lit64_69, ka_lit64_5, ka_lit64_99, ka_lit64_8, ka_lit64_48, ka_lit64_57, ka_lit64_9, ka_lit64_6, ka_lit64_3, ka_lit64_60, ka_lit64_20, ka_lit64_12, ka_lit64_4, ka_lit64_400, ka_lit64_999, ka_lit64_m1, ka_lit64_1, ka_l0, ka_t_0, ka_t_1, ka_t_3, ka_t_4, ka_t_6, ka_t_7, ka_t_9, ka_t_5, ka_t_8, ka_t_60, ka_t_69, ka_t_99, ka_t_400, ka_t_999, ka_t_m1, ka_st_r9 ka_k_1, ka_st_r10 ka_k_1, ka_st_r7 ka_k_1, ka_st_r8 ka_k_1, e11, hn, y1', kn_put_r, hY1, nf, h52, show ka_k (1 + 3) = 5 from ka_k_4]
          · simp only [x140_0, x140_1, x140_2, x140_3, x140_4, x140_7, x140_10, x140_11, x140_12, x140_15, x140_16, x140_17, x140_20, x140_22, x140_23, x140_24, x140_25, x140_28, x140_30, x140_31, x140_32, x140_33, x140_36, x140_37, x140_38, x140_41, x140_42, x140_45, x140_48, x140_50, x140_51, x140_54, x140_55, x140_56, x140_57, x140_60, x140_62, x140_63, x140_64, x140_65, x140_68, x140_69, x140_70, x140_72, x140_73, x140_76, x140_79, x140_80, x140_83, x140_85, x140_87, x140_88, x140_89, x140_90, x140_91, x140_92, x140_93, x140_96, x140_97, x140_98, x140_99, x140_102, x140_105, x140_106, ka_kk_i, ka_kk_n, ka_cl_i, ka_cl_r, ka_cl_n, or_true, true_or, ka_ne2, ka_ne4, ka_ne5, ka_ne10, not_false_eq_true, not_true_eq_false, if_true, if_false, ka_k_0, ka_k_1, ka_k_2, ka_k_3, ka_k_4, ka_k_5, ka_k_6, ka_k_7, ka_k_8, ka_k_9, ka_k_10, ka_k_11, ka_k_12, ka_k_13, ka_k_14, ka_k_15, ka_k_16, ka_k_17, ka_k_18, ka_k_19, ka_k_20, ka_k_21, ka_k_22, ka_k_23, ka_k_24, ka_k_25, ka_k_26, ka_k_27, ka_k_28, ka_k_29, ka_k_30, ka_k_31, ka_k_32, ka_k_33, ka_k_34, ka_k_35, ka_k_36, ka_k_37, ka_k_38, ka_k_39, ka_k_40, ka_k_41, ka_k_42, ka_k_43, ka_k_44, ka_k_45, ka_k_46, ka_k_47, ka_k_48, ka_k_49, ka_k_50, ka_k_51, ka_k_52, ka_k_53, ka_k_54, ka_k_55, ka_k_56, ka_k_57, ka_k_58, ka_k_59, ka_k_60, ka_k_61, ka_k_62, ka_k_63, ka_k_64, ka_k_65, ka_k_66, ka_k_67, ka_k_68, ka_k_69, ka_k_70, ka_k_71, ka_k_72, ka_k_73, ka_k_74, ka_k_75, ka_k_76, ka_k_77, ka_k_78, ka_k_79, ka_k_80, ka_k_81, ka_k_82, ka_k_83, ka_k_84, ka_k_85, ka_k_86, ka_k_87, ka_k_88, ka_k_89, ka_k_90, ka_k_91, ka_k_92, ka_k_93, ka_k_94, ka_k_95, ka_k_96, ka_k_97, ka_k_98, ka_k_99, ka_k_100, ka_rf_0_0, ka_rf_0_1, ka_rf_0_2, ka_rf_0_4, ka_rf_0_5, ka_rf_0_6, ka_rf_0_7, ka_rf_0_8, ka_rf_0_9, ka_rf_61_0, ka_rf_61_2, ka_rf_67_0, ka_rf_67_1, ka_rf_67_2, ka_rf_75_0, ka_rf_87_0, ka_rf_87_1, ka_rf_87_2, ka_rf_87_4, ka_rf_87_11, ka_rf_87_12, ka_rf_87_14, ka_rf_87_15, ka_rf_87_16, ka_rf_87_19, ka_rf_87_20, ka_rf_87_21, ka_rf_87_22, ka_ln_63, ka_ln_64, ka_ln_65, ka_ln_68, ka_ln_69, ka_ln_70, ka_ln_76, ka_ln_77, ka_ln_78, ka_ln_80, ka_ln_82, ka_ln_84, ka_ln_86, ka_ln_88, ka_ln_89, ka_ln_90, ka_ln_91, ka_ln_92, ka_ln_93, ka_ln_94, ka_ln_95, ka_ln_96, ka_ln_97, ka_ln_98, ka_ln_99, ka_ln_100, sp_100, sp_106, sp_109, sp_110, sp_111, sp_112, sp_113, sp_117, sp_191, ka_i64, ka_b_0, ka_one0, and_self, ka_lit64_69, ka_lit64_5, ka_lit64_99, ka_lit64_8, ka_lit64_48, ka_lit64_57, ka_lit64_9, ka_lit64_6, ka_lit64_3, ka_lit64_60, ka_lit64_20, ka_lit64_12, ka_lit64_4, ka_lit64_400, ka_lit64_999, ka_lit64_m1, ka_lit64_1, ka_l0, ka_t_0, ka_t_1, ka_t_3, ka_t_4, ka_t_6, ka_t_7, ka_t_9, ka_t_5, ka_t_8, ka_t_60, ka_t_69, ka_t_99, ka_t_400, ka_t_999, ka_t_m1, ka_lit64_69, ka_lit64_5, ka_lit64_99, ka_lit64_8, ka_lit64_48, ka_lit64_57, ka_lit64_9, ka_lit64_6, ka_lit64_3, ka_lit64_60, ka_lit64_20, ka_lit64_12, ka_lit64_4, ka_lit64_400, ka_lit64_999, ka_lit64_m1, ka_lit64_1, ka_i64, ka_l0, ka_c_0, ka_c_1, ka_c_2, ka_c_3, ka_c_4, ka_c_5, ka_c_6, ka_c_7, ka_c_8, ka_c_9, ka_c_10, ka_c_11, ka_c_12, ka_c_13, ka_c_14, ka_c_15, ka_c_16, ka_c_17, ka_c_18, ka_c_19, ka_c_20, ka_c_28, ka_c_40, ka_c_50, ka_c_87, i11, m88, hn, kn_put_r, z1, f4, nf, hu85, i85, c85, f5, z88, hl', show ((0 : Int) ≤ 0 ∧ (0 : Int) ≤ 1) = True by decide]
    · have hu0 : u = 1 := ka_eq_lit cc
      subst hu0
      obtain ⟨Y, y1, yo, y3⟩ := @sp_12 sc (d + 37) X 1 (fun j => X 88 (207 + j)) 10 n 1008 (Or.inr rfl) (Or.inr ⟨rfl, rfl⟩) hn50 hB ka_k_10 (ka_st_l9 ka_k_1) (by decide) hX10
      have yp : ∀ p, ¬ (61 ≤ p ∧ p < 66) → Y p = X p := fun p hp => yo p (by omega) (by omega) (by omega) (by omega)
      have hrY : rl 1 Y (X 88) := rl_cg h.1.1 (fun p a b _ _ _ => yp p (by omega)) hN.2
      obtain ⟨r1, r2⟩ := rl_q0 hrY hD
      have ey1 : Y 1 = X 1 := yp 1 (by decide)
      have ey88 : Y 88 = X 88 := yp 88 (by decide)
      generalize hY1 : kn_row Y 1 (kn_up (Y 1) 11 0) = Y1 at r1
      have y1p : ∀ p, ¬ p = 1 → Y1 p = Y p := fun p hp => by rw [← hY1, kn_row_off hp]
      have ku : ∀ q : Nat → Int32, ∀ j, kn_up q 11 0 (207 + j) = q (207 + j) := fun q j => kn_up_ne (by omega)
      have r8 : (kn_up (X 88) 11 0 8).toInt ≤ 9999 := by rw [kn_up_ne (by decide)]; exact h.1.2.2
      cases hau : au 1 (fun j => X 88 (207 + j)) n 0 [] [] true 0 with
      | inl f =>
        rw [hau] at y1
        have m88 : Y1 88 = X 88 := by rw [y1p 88 (by decide), ey88]
        obtain ⟨Z, z1, zo, zf⟩ := @sp_136 sc d 1 (fun j => X 88 (207 + j)) n (kn_row Y1 88 (kn_up (X 88) 11 0)) (by decide) hn50 hB (fun j hj => by rw [kn_row_at, ku])
        rcases zf with ⟨f2, f3, f4, f5⟩ | ⟨T, D, f3, f4⟩
        · rw [hau] at f3
          cases f3
          have nf : ¬ nI f < 0 := by rw [ka_ilt, ka_nIt (by omega)]; simp only [ka_t_0, ka_t_1, ka_t_2, ka_t_3, ka_t_4, ka_t_5, ka_t_6, ka_t_7, ka_t_8, ka_t_9, ka_t_10, ka_t_11, ka_t_12, ka_t_13, ka_t_14, ka_t_15, ka_t_16, ka_t_17, ka_t_18, ka_t_19, ka_t_20, ka_t_25, ka_t_26, ka_t_28, ka_t_30, ka_t_31, ka_t_32, ka_t_33, ka_t_37, ka_t_38, ka_t_39, ka_t_40, ka_t_41, ka_t_42, ka_t_43, ka_t_45, ka_t_47, ka_t_48, ka_t_50, ka_t_57, ka_t_60, ka_t_61, ka_t_62, ka_t_63, ka_t_64, ka_t_65, ka_t_69, ka_t_70, ka_t_71, ka_t_80, ka_t_85, ka_t_87, ka_t_98, ka_t_99, ka_t_100, ka_t_104, ka_t_107, ka_t_109, ka_t_110, ka_t_112, ka_t_115, ka_t_116, ka_t_117, ka_t_124, ka_t_125, ka_t_160, ka_t_200, ka_t_207, ka_t_255, ka_t_260, ka_t_400, ka_t_624, ka_t_625, ka_t_999, ka_t_9999, ka_t_10000, ka_t_20000, ka_t_20033, ka_t_999999, ka_t_1000000000, ka_t_m1, ka_t_m2, ka_t_m3, ka_t_m5, ka_t_m9, ka_t_m10, ka_t_m1000000000]; omega
          have z88 : Z 88 = kn_up (X 88) 11 0 := by rw [zo.1 88 (by decide) (by decide), kn_row_at]
          refine ⟨-10 - nI f, Y1, Z, ?_, ?_, Inv_txt h r1 r2 r8 (fun p a b => by rw [y1p p (by omega)]; exact yp p b) z88 (fun p a b c => by rw [zo.1 p b c, kn_row_off a]) (by rw [zo.2.1, kn_row_off (by decide)]) (by rw [zo.2.2, kn_row_off (by decide)])⟩
          · have y1' : ka_ex sc (d + 43) 12 0 [.ref 61, .ref 10, .int (nI n), .ref 1008, ka_nv, ka_nv] [] (ka_mem X) = some (some (.int (nI f)), ka_mem Y) := y1
            simp only [x73_0, x73_1, x73_4, x73_7, x73_8, x73_9, x73_12, x73_13, x73_14, x73_17, x73_18, x73_21, x73_24, x73_25, x73_28, x73_31, x73_32, x73_35, x73_37, x73_40, x73_42, x73_45, x73_46, x73_47, x73_50, x73_51, x73_54, x73_55, x73_58, x73_60, x73_61, x73_62, x73_63, x73_64, x73_67, x73_68, x73_71, x73_74, x73_77, x73_78, x73_81, x73_84, x73_85, x73_86, x73_87, x73_90, x73_93, x73_96, x73_97, ka_kk_i, ka_kk_n, ka_cl_i, ka_cl_r, ka_cl_n, or_true, true_or, ka_ne2, ka_ne4, ka_ne5, ka_ne10, not_false_eq_true, not_true_eq_false, if_true, if_false, ka_k_0, ka_k_1, ka_k_2, ka_k_3, ka_k_4, ka_k_5, ka_k_6, ka_k_7, ka_k_8, ka_k_9, ka_k_10, ka_k_11, ka_k_12, ka_k_13, ka_k_14, ka_k_15, ka_k_16, ka_k_17, ka_k_18, ka_k_19, ka_k_20, ka_k_21, ka_k_22, ka_k_23, ka_k_24, ka_k_25, ka_k_26, ka_k_27, ka_k_28, ka_k_29, ka_k_30, ka_k_31, ka_k_32, ka_k_33, ka_k_34, ka_k_35, ka_k_36, ka_k_37, ka_k_38, ka_k_39, ka_k_40, ka_k_41, ka_k_42, ka_k_43, ka_k_44, ka_k_45, ka_k_46, ka_k_47, ka_k_48, ka_k_49, ka_k_50, ka_k_51, ka_k_52, ka_k_53, ka_k_54, ka_k_55, ka_k_56, ka_k_57, ka_k_58, ka_k_59, ka_k_60, ka_k_61, ka_k_62, ka_k_63, ka_k_64, ka_k_65, ka_k_66, ka_k_67, ka_k_68, ka_k_69, ka_k_70, ka_k_71, ka_k_72, ka_k_73, ka_k_74, ka_k_75, ka_k_76, ka_k_77, ka_k_78, ka_k_79, ka_k_80, ka_k_81, ka_k_82, ka_k_83, ka_k_84, ka_k_85, ka_k_86, ka_k_87, ka_k_88, ka_k_89, ka_k_90, ka_k_91, ka_k_92, ka_k_93, ka_k_94, ka_k_95, ka_k_96, ka_k_97, ka_k_98, ka_k_99, ka_k_100, ka_rf_0_0, ka_rf_0_1, ka_rf_0_2, ka_rf_0_4, ka_rf_0_5, ka_rf_0_6, ka_rf_0_7, ka_rf_0_8, ka_rf_0_9, ka_rf_61_0, ka_rf_61_2, ka_rf_67_0, ka_rf_67_1, ka_rf_67_2, ka_rf_75_0, ka_rf_87_0, ka_rf_87_1, ka_rf_87_2, ka_rf_87_4, ka_rf_87_11, ka_rf_87_12, ka_rf_87_14, ka_rf_87_15, ka_rf_87_16, ka_rf_87_19, ka_rf_87_20, ka_rf_87_21, ka_rf_87_22, ka_ln_63, ka_ln_64, ka_ln_65, ka_ln_68, ka_ln_69, ka_ln_70, ka_ln_76, ka_ln_77, ka_ln_78, ka_ln_80, ka_ln_82, ka_ln_84, ka_ln_86, ka_ln_88, ka_ln_89, ka_ln_90, ka_ln_91, ka_ln_92, ka_ln_93, ka_ln_94, ka_ln_95, ka_ln_96, ka_ln_97, ka_ln_98, ka_ln_99, ka_ln_100, sp_100, sp_106, sp_109, sp_110, sp_111, sp_112, sp_113, sp_117, sp_191, ka_i64, ka_b_0, ka_one0, and_self, ka_lit64_69, ka_lit64_5, ka_lit64_99, ka_lit64_8, ka_lit64_48, ka_lit64_57, ka_lit64_9, ka_lit64_6, ka_lit64_3, ka_lit64_60, ka_lit64_20, ka_lit64_12, ka_lit64_4, ka_lit64_400, ka_lit64_999, ka_lit64_m1, ka_lit64_1, ka_l0, ka_t_0, ka_t_1, ka_t_3, ka_t_4, ka_t_6, ka_t_7, ka_t_9, ka_t_5, ka_t_8, ka_t_60, ka_t_69, ka_t_99, ka_t_400, ka_t_999, ka_t_m1, ka_st_r9 ka_k_1, ka_st_r10 ka_k_1, ka_st_r7 ka_k_1, ka_st_r8 ka_k_1, e11, hn, y1', kn_put_r, hY1, nf]
          · simp only [x140_0, x140_1, x140_2, x140_3, x140_4, x140_7, x140_10, x140_11, x140_12, x140_15, x140_16, x140_17, x140_20, x140_22, x140_23, x140_24, x140_25, x140_28, x140_30, x140_31, x140_32, x140_33, x140_36, x140_37, x140_38, x140_41, x140_42, x140_45, x140_48, x140_50, x140_51, x140_54, x140_55, x140_56, x140_57, x140_60, x140_62, x140_63, x140_64, x140_65, x140_68, x140_69, x140_70, x140_71, x140_72, x140_73, x140_76, x140_79, x140_80, x140_83, x140_85, x140_87, x140_88, x140_89, x140_90, x140_91, x140_92, x140_93, x140_96, x140_97, x140_98, x140_99, x140_102, x140_105, x140_106, ka_kk_i, ka_kk_n, ka_cl_i, ka_cl_r, ka_cl_n, or_true, true_or, ka_ne2, ka_ne4, ka_ne5, ka_ne10, not_false_eq_true, not_true_eq_false, if_true, if_false, ka_k_0, ka_k_1, ka_k_2, ka_k_3, ka_k_4, ka_k_5, ka_k_6, ka_k_7, ka_k_8, ka_k_9, ka_k_10, ka_k_11, ka_k_12, ka_k_13, ka_k_14, ka_k_15, ka_k_16, ka_k_17, ka_k_18, ka_k_19, ka_k_20, ka_k_21, ka_k_22, ka_k_23, ka_k_24, ka_k_25, ka_k_26, ka_k_27, ka_k_28, ka_k_29, ka_k_30, ka_k_31, ka_k_32, ka_k_33, ka_k_34, ka_k_35, ka_k_36, ka_k_37, ka_k_38, ka_k_39, ka_k_40, ka_k_41, ka_k_42, ka_k_43, ka_k_44, ka_k_45, ka_k_46, ka_k_47, ka_k_48, ka_k_49, ka_k_50, ka_k_51, ka_k_52, ka_k_53, ka_k_54, ka_k_55, ka_k_56, ka_k_57, ka_k_58, ka_k_59, ka_k_60, ka_k_61, ka_k_62, ka_k_63, ka_k_64, ka_k_65, ka_k_66, ka_k_67, ka_k_68, ka_k_69, ka_k_70, ka_k_71, ka_k_72, ka_k_73, ka_k_74, ka_k_75, ka_k_76, ka_k_77, ka_k_78, ka_k_79, ka_k_80, ka_k_81, ka_k_82, ka_k_83, ka_k_84, ka_k_85, ka_k_86, ka_k_87, ka_k_88, ka_k_89, ka_k_90, ka_k_91, ka_k_92, ka_k_93, ka_k_94, ka_k_95, ka_k_96, ka_k_97, ka_k_98, ka_k_99, ka_k_100, ka_rf_0_0, ka_rf_0_1, ka_rf_0_2, ka_rf_0_4, ka_rf_0_5, ka_rf_0_6, ka_rf_0_7, ka_rf_0_8, ka_rf_0_9, ka_rf_61_0, ka_rf_61_2, ka_rf_67_0, ka_rf_67_1, ka_rf_67_2, ka_rf_75_0, ka_rf_87_0, ka_rf_87_1, ka_rf_87_2, ka_rf_87_4, ka_rf_87_11, ka_rf_87_12, ka_rf_87_14, ka_rf_87_15, ka_rf_87_16, ka_rf_87_19, ka_rf_87_20, ka_rf_87_21, ka_rf_87_22, ka_ln_63, ka_ln_64, ka_ln_65, ka_ln_68, ka_ln_69, ka_ln_70, ka_ln_76, ka_ln_77, ka_ln_78, ka_ln_80, ka_ln_82, ka_ln_84, ka_ln_86, ka_ln_88, ka_ln_89, ka_ln_90, ka_ln_91, ka_ln_92, ka_ln_93, ka_ln_94, ka_ln_95, ka_ln_96, ka_ln_97, ka_ln_98, ka_ln_99, ka_ln_100, sp_100, sp_106, sp_109, sp_110, sp_111, sp_112, sp_113, sp_117, sp_191, ka_i64, ka_b_0, ka_one0, and_self, ka_lit64_69, ka_lit64_5, ka_lit64_99, ka_lit64_8, ka_lit64_48, ka_lit64_57, ka_lit64_9, ka_lit64_6, ka_lit64_3, ka_lit64_60, ka_lit64_20, ka_lit64_12, ka_lit64_4, ka_lit64_400, ka_lit64_999, ka_lit64_m1, ka_lit64_1, ka_l0, ka_t_0, ka_t_1, ka_t_3, ka_t_4, ka_t_6, ka_t_7, ka_t_9, ka_t_5, ka_t_8, ka_t_60, ka_t_69, ka_t_99, ka_t_400, ka_t_999, ka_t_m1, ka_lit64_69, ka_lit64_5, ka_lit64_99, ka_lit64_8, ka_lit64_48, ka_lit64_57, ka_lit64_9, ka_lit64_6, ka_lit64_3, ka_lit64_60, ka_lit64_20, ka_lit64_12, ka_lit64_4, ka_lit64_400, ka_lit64_999, ka_lit64_m1, ka_lit64_1, ka_i64, ka_l0, ka_c_0, ka_c_1, ka_c_2, ka_c_3, ka_c_4, ka_c_5, ka_c_6, ka_c_7, ka_c_8, ka_c_9, ka_c_10, ka_c_11, ka_c_12, ka_c_13, ka_c_14, ka_c_15, ka_c_16, ka_c_17, ka_c_18, ka_c_19, ka_c_20, ka_c_28, ka_c_40, ka_c_50, ka_c_87, i11, m88, hn, kn_put_r, z1, f4, nf, show ((0 : Int) ≤ 1 ∧ (1 : Int) ≤ 1) = True by decide]
        · rw [hau] at f3
          cases f3
      | inr T =>
        rw [hau] at y1
        obtain ⟨t1, t2, t3⟩ := y3 T hau
        have h52 := @sp_52 sc (d + 42) Y1 7 62 ka_k_7 ka_k_62 (by decide)
        have w62 : Y1 62 1 = nI T.length := by rw [y1p 62 (by decide)]; exact t1
        have w63 : Y1 (62 + 1) = Y 63 := y1p 63 (by decide)
        rw [w62, w63] at h52
        generalize hY2 : kn_row (kn_row Y1 7 (kn_up (Y1 7) 1 (nI T.length))) (7 + 1) (kn_cp 50 (Y 63) (Y1 (7 + 1))) = Y2 at h52
        have y2p : ∀ p, ¬ p = 7 → ¬ p = 7 + 1 → Y2 p = Y1 p := fun p a b => by rw [← hY2, kn_row_off b, kn_row_off a]
        have y2s : Y2 7 1 = nI T.length := by rw [← hY2, kn_row_off (by decide), kn_row_at, kn_up_at]
        have y2t : ∀ j, j < 50 → Y2 (7 + 1) j = Y 63 j := fun j hj => by rw [← hY2, kn_row_at]; exact if_pos hj
        have m88 : Y2 88 = X 88 := by rw [y2p 88 (by decide) (by decide), y1p 88 (by decide), ey88]
        obtain ⟨Z, z1, zo, zf⟩ := @sp_136 sc d 1 (fun j => X 88 (207 + j)) n (kn_row Y2 88 (kn_up (X 88) 11 0)) (by decide) hn50 hB (fun j hj => by rw [kn_row_at, ku])
        rcases zf with ⟨f2, f3, f4, f5⟩ | ⟨T2, D, f3, f4, f5, f6, f7, f8, f9, f10⟩
        · rw [hau] at f3
          cases f3
        · rw [hau] at f3
          cases f3
          have hlen : T.length = D.length := by rw [← f7, List.length_map]
          have z88 : Z 88 = kn_up (X 88) 11 0 := by rw [zo.1 88 (by decide) (by decide), kn_row_at]
          have nf : (-1 : Int32) < 0 := by decide
          have i85 : ka_in 86 260 := ka_inI.mpr (by decide)
          have c85 : (86 : Int32).toNatClampNeg = 86 := by decide
          have hu85 : (85 : Int32) + 1 = 86 := by decide
          have hl := @s140l sc (d + 44) 1 D.length (by decide) f9 D.length 0 (kn_row Z 88 (kn_up (kn_up (X 88) 11 0) 86 (nI D.length))) (.int (nI n)) (by omega) (by rw [kn_row_off (by decide)]; exact f5)
          rw [kn_row_at, kn_row_off (by decide), kn_row_row] at hl
          have hl' : ka_ex sc (d + 44) 140 71 [.ref 87, .int 1, .int (nI n), .int 0] [] (ka_mem (kn_row Z 88 (kn_up (kn_up (X 88) 11 0) 86 (nI D.length)))) = _ := hl
          clear hl
          generalize hE : cpx (Z 93) (kn_up (kn_up (X 88) 11 0) 86 (nI D.length)) (107 + 50 * 1) 0 D.length = E at hl'
          have eo : ∀ j, ¬ j = 85 + 1 → (j < 107 + 50 * 1 ∨ 157 + 50 * 1 ≤ j) → E j = kn_up (X 88) 11 0 j := by
            intro j a b
            rw [← hE]
            unfold cpx
            rw [if_neg (by omega), kn_up_ne a]
          have e85 : E (85 + 1) = nI D.length := by
            rw [← hE]
            unfold cpx
            rw [if_neg (by omega)]
            exact kn_up_at
          have en : ∀ j, j < D.length → E (107 + 50 * 1 + j) = Z 93 j := by
            intro j hj
            rw [← hE]
            unfold cpx
            rw [if_pos (by omega), Nat.add_sub_cancel_left]
          have hg : gv_ok E 1 := by
            have t85 : (E (85 + 1)).toInt = D.length := by rw [e85, ka_nIt (by omega)]
            refine ⟨by rw [t85]; omega, by rw [t85]; omega, fun _ => ?_⟩
            rw [t85]
            have := ev_mw (f := E) (i := 107 + 50 * 1) (D := D) (m := 0) (f8 0) (fun _ => trivial) (lk_cg (fun j hj => en j hj) f6) rfl
            exact this
          obtain ⟨s1, s2, s3⟩ := rl_tx (u := 1) (L := D.length) (Z := Y2) (E := E) (by decide) r1 r2 (fun p a b => y2p p a b) (by rw [← hlen]; exact y2s) (fun j hj => by rw [en j hj]; exact (y2t j (by omega)).trans (lk_map (by rw [f7]; exact t2) f6 j hj)) e85 f9 eo hg
          refine ⟨1, Y2, kn_row Z 88 E, ?_, ?_, Inv_txt h s1 s2 (by rw [s3]; exact r8) (fun p a b => by rw [y2p p (by omega) (by omega), y1p p (by omega)]; exact yp p b) kn_row_at (fun p a b c => by rw [kn_row_off a, zo.1 p b c, kn_row_off a]) (by rw [kn_row_off (by decide), zo.2.1, kn_row_off (by decide)]) (by rw [kn_row_off (by decide), zo.2.2, kn_row_off (by decide)])⟩
          · have y1' : ka_ex sc (d + 43) 12 0 [.ref 61, .ref 10, .int (nI n), .ref 1008, ka_nv, ka_nv] [] (ka_mem X) = some (some (.int (-1)), ka_mem Y) := y1
            simp only [x73_0, x73_1, x73_4, x73_7, x73_8, x73_9, x73_12, x73_13, x73_14, x73_17, x73_18, x73_21, x73_24, x73_25, x73_28, x73_31, x73_32, x73_35, x73_37, x73_40, x73_42, x73_45, x73_46, x73_47, x73_50, x73_51, x73_54, x73_55, x73_58, x73_60, x73_61, x73_62, x73_63, x73_64, x73_67, x73_68, x73_71, x73_74, x73_77, x73_78, x73_81, x73_84, x73_85, x73_86, x73_87, x73_90, x73_93, x73_96, x73_97, ka_kk_i, ka_kk_n, ka_cl_i, ka_cl_r, ka_cl_n, or_true, true_or, ka_ne2, ka_ne4, ka_ne5, ka_ne10, not_false_eq_true, not_true_eq_false, if_true, if_false, ka_k_0, ka_k_1, ka_k_2, ka_k_3, ka_k_4, ka_k_5, ka_k_6, ka_k_7, ka_k_8, ka_k_9, ka_k_10, ka_k_11, ka_k_12, ka_k_13, ka_k_14, ka_k_15, ka_k_16, ka_k_17, ka_k_18, ka_k_19, ka_k_20, ka_k_21, ka_k_22, ka_k_23, ka_k_24, ka_k_25, ka_k_26, ka_k_27, ka_k_28, ka_k_29, ka_k_30, ka_k_31, ka_k_32, ka_k_33, ka_k_34, ka_k_35, ka_k_36, ka_k_37, ka_k_38, ka_k_39, ka_k_40, ka_k_41, ka_k_42, ka_k_43, ka_k_44, ka_k_45, ka_k_46, ka_k_47, ka_k_48, ka_k_49, ka_k_50, ka_k_51, ka_k_52, ka_k_53, ka_k_54, ka_k_55, ka_k_56, ka_k_57, ka_k_58, ka_k_59, ka_k_60, ka_k_61, ka_k_62, ka_k_63, ka_k_64, ka_k_65, ka_k_66, ka_k_67, ka_k_68, ka_k_69, ka_k_70, ka_k_71, ka_k_72, ka_k_73, ka_k_74, ka_k_75, ka_k_76, ka_k_77, ka_k_78, ka_k_79, ka_k_80, ka_k_81, ka_k_82, ka_k_83, ka_k_84, ka_k_85, ka_k_86, ka_k_87, ka_k_88, ka_k_89, ka_k_90, ka_k_91, ka_k_92, ka_k_93, ka_k_94, ka_k_95, ka_k_96, ka_k_97, ka_k_98, ka_k_99, ka_k_100, ka_rf_0_0, ka_rf_0_1, ka_rf_0_2, ka_rf_0_4, ka_rf_0_5, ka_rf_0_6, ka_rf_0_7, ka_rf_0_8, ka_rf_0_9, ka_rf_61_0, ka_rf_61_2, ka_rf_67_0, ka_rf_67_1, ka_rf_67_2, ka_rf_75_0, ka_rf_87_0, ka_rf_87_1, ka_rf_87_2, ka_rf_87_4, ka_rf_87_11, ka_rf_87_12, ka_rf_87_14, ka_rf_87_15, ka_rf_87_16, ka_rf_87_19, ka_rf_87_20, ka_rf_87_21, ka_rf_87_22, ka_ln_63, ka_ln_64, ka_ln_65, ka_ln_68, ka_ln_69, ka_ln_70, ka_ln_76, ka_ln_77, ka_ln_78, ka_ln_80, ka_ln_82, ka_ln_84, ka_ln_86, ka_ln_88, ka_ln_89, ka_ln_90, ka_ln_91, ka_ln_92, ka_ln_93, ka_ln_94, ka_ln_95, ka_ln_96, ka_ln_97, ka_ln_98, ka_ln_99, ka_ln_100, sp_100, sp_106, sp_109, sp_110, sp_111, sp_112, sp_113, sp_117, sp_191, ka_i64, ka_b_0, ka_one0, and_self, ka_lit64_69, ka_lit64_5, ka_lit64_99, ka_lit64_8, ka_lit64_48, ka_lit64_57, ka_lit64_9, ka_lit64_6, ka_lit64_3, ka_lit64_60, ka_lit64_20, ka_lit64_12, ka_lit64_4, ka_lit64_400, ka_lit64_999, ka_lit64_m1, ka_lit64_1, ka_l0, ka_t_0, ka_t_1, ka_t_3, ka_t_4, ka_t_6, ka_t_7, ka_t_9, ka_t_5, ka_t_8, ka_t_60, ka_t_69, ka_t_99, ka_t_400, ka_t_999, ka_t_m1, ka_st_r9 ka_k_1, ka_st_r10 ka_k_1, ka_st_r7 ka_k_1, ka_st_r8 ka_k_1, e11, hn, y1', kn_put_r, hY1, nf, h52, show ka_k (1 + 6) = 5 from ka_k_7]
          · simp only [x140_0, x140_1, x140_2, x140_3, x140_4, x140_7, x140_10, x140_11, x140_12, x140_15, x140_16, x140_17, x140_20, x140_22, x140_23, x140_24, x140_25, x140_28, x140_30, x140_31, x140_32, x140_33, x140_36, x140_37, x140_38, x140_41, x140_42, x140_45, x140_48, x140_50, x140_51, x140_54, x140_55, x140_56, x140_57, x140_60, x140_62, x140_63, x140_64, x140_65, x140_68, x140_69, x140_70, x140_72, x140_73, x140_76, x140_79, x140_80, x140_83, x140_85, x140_87, x140_88, x140_89, x140_90, x140_91, x140_92, x140_93, x140_96, x140_97, x140_98, x140_99, x140_102, x140_105, x140_106, ka_kk_i, ka_kk_n, ka_cl_i, ka_cl_r, ka_cl_n, or_true, true_or, ka_ne2, ka_ne4, ka_ne5, ka_ne10, not_false_eq_true, not_true_eq_false, if_true, if_false, ka_k_0, ka_k_1, ka_k_2, ka_k_3, ka_k_4, ka_k_5, ka_k_6, ka_k_7, ka_k_8, ka_k_9, ka_k_10, ka_k_11, ka_k_12, ka_k_13, ka_k_14, ka_k_15, ka_k_16, ka_k_17, ka_k_18, ka_k_19, ka_k_20, ka_k_21, ka_k_22, ka_k_23, ka_k_24, ka_k_25, ka_k_26, ka_k_27, ka_k_28, ka_k_29, ka_k_30, ka_k_31, ka_k_32, ka_k_33, ka_k_34, ka_k_35, ka_k_36, ka_k_37, ka_k_38, ka_k_39, ka_k_40, ka_k_41, ka_k_42, ka_k_43, ka_k_44, ka_k_45, ka_k_46, ka_k_47, ka_k_48, ka_k_49, ka_k_50, ka_k_51, ka_k_52, ka_k_53, ka_k_54, ka_k_55, ka_k_56, ka_k_57, ka_k_58, ka_k_59, ka_k_60, ka_k_61, ka_k_62, ka_k_63, ka_k_64, ka_k_65, ka_k_66, ka_k_67, ka_k_68, ka_k_69, ka_k_70, ka_k_71, ka_k_72, ka_k_73, ka_k_74, ka_k_75, ka_k_76, ka_k_77, ka_k_78, ka_k_79, ka_k_80, ka_k_81, ka_k_82, ka_k_83, ka_k_84, ka_k_85, ka_k_86, ka_k_87, ka_k_88, ka_k_89, ka_k_90, ka_k_91, ka_k_92, ka_k_93, ka_k_94, ka_k_95, ka_k_96, ka_k_97, ka_k_98, ka_k_99, ka_k_100, ka_rf_0_0, ka_rf_0_1, ka_rf_0_2, ka_rf_0_4, ka_rf_0_5, ka_rf_0_6, ka_rf_0_7, ka_rf_0_8, ka_rf_0_9, ka_rf_61_0, ka_rf_61_2, ka_rf_67_0, ka_rf_67_1, ka_rf_67_2, ka_rf_75_0, ka_rf_87_0, ka_rf_87_1, ka_rf_87_2, ka_rf_87_4, ka_rf_87_11, ka_rf_87_12, ka_rf_87_14, ka_rf_87_15, ka_rf_87_16, ka_rf_87_19, ka_rf_87_20, ka_rf_87_21, ka_rf_87_22, ka_ln_63, ka_ln_64, ka_ln_65, ka_ln_68, ka_ln_69, ka_ln_70, ka_ln_76, ka_ln_77, ka_ln_78, ka_ln_80, ka_ln_82, ka_ln_84, ka_ln_86, ka_ln_88, ka_ln_89, ka_ln_90, ka_ln_91, ka_ln_92, ka_ln_93, ka_ln_94, ka_ln_95, ka_ln_96, ka_ln_97, ka_ln_98, ka_ln_99, ka_ln_100, sp_100, sp_106, sp_109, sp_110, sp_111, sp_112, sp_113, sp_117, sp_191, ka_i64, ka_b_0, ka_one0, and_self, ka_lit64_69, ka_lit64_5, ka_lit64_99, ka_lit64_8, ka_lit64_48, ka_lit64_57, ka_lit64_9, ka_lit64_6, ka_lit64_3, ka_lit64_60, ka_lit64_20, ka_lit64_12, ka_lit64_4, ka_lit64_400, ka_lit64_999, ka_lit64_m1, ka_lit64_1, ka_l0, ka_t_0, ka_t_1, ka_t_3, ka_t_4, ka_t_6, ka_t_7, ka_t_9, ka_t_5, ka_t_8, ka_t_60, ka_t_69, ka_t_99, ka_t_400, ka_t_999, ka_t_m1, ka_lit64_69, ka_lit64_5, ka_lit64_99, ka_lit64_8, ka_lit64_48, ka_lit64_57, ka_lit64_9, ka_lit64_6, ka_lit64_3, ka_lit64_60, ka_lit64_20, ka_lit64_12, ka_lit64_4, ka_lit64_400, ka_lit64_999, ka_lit64_m1, ka_lit64_1, ka_i64, ka_l0, ka_c_0, ka_c_1, ka_c_2, ka_c_3, ka_c_4, ka_c_5, ka_c_6, ka_c_7, ka_c_8, ka_c_9, ka_c_10, ka_c_11, ka_c_12, ka_c_13, ka_c_14, ka_c_15, ka_c_16, ka_c_17, ka_c_18, ka_c_19, ka_c_20, ka_c_28, ka_c_40, ka_c_50, ka_c_87, i11, m88, hn, kn_put_r, z1, f4, nf, hu85, i85, c85, f5, z88, hl', show ((0 : Int) ≤ 1 ∧ (1 : Int) ≤ 1) = True by decide]
  · have c2 : ¬ (0 ≤ u.toInt ∧ u.toInt ≤ 1) := by omega
    exact op_e (k := 1) (v := -1000000000 - 1) (by decide) h (by simp only [x73_0, x73_1, x73_4, x73_7, x73_8, x73_9, x73_12, x73_13, x73_14, x73_17, x73_18, x73_21, x73_24, x73_25, x73_28, x73_31, x73_32, x73_35, x73_37, x73_40, x73_42, x73_45, x73_46, x73_47, x73_50, x73_51, x73_54, x73_55, x73_58, x73_60, x73_61, x73_62, x73_63, x73_64, x73_67, x73_68, x73_71, x73_74, x73_77, x73_78, x73_81, x73_84, x73_85, x73_86, x73_87, x73_90, x73_93, x73_96, x73_97, ka_kk_i, ka_kk_n, ka_cl_i, ka_cl_r, ka_cl_n, or_true, true_or, ka_ne2, ka_ne4, ka_ne5, ka_ne10, not_false_eq_true, not_true_eq_false, if_true, if_false, ka_k_0, ka_k_1, ka_k_2, ka_k_3, ka_k_4, ka_k_5, ka_k_6, ka_k_7, ka_k_8, ka_k_9, ka_k_10, ka_k_11, ka_k_12, ka_k_13, ka_k_14, ka_k_15, ka_k_16, ka_k_17, ka_k_18, ka_k_19, ka_k_20, ka_k_21, ka_k_22, ka_k_23, ka_k_24, ka_k_25, ka_k_26, ka_k_27, ka_k_28, ka_k_29, ka_k_30, ka_k_31, ka_k_32, ka_k_33, ka_k_34, ka_k_35, ka_k_36, ka_k_37, ka_k_38, ka_k_39, ka_k_40, ka_k_41, ka_k_42, ka_k_43, ka_k_44, ka_k_45, ka_k_46, ka_k_47, ka_k_48, ka_k_49, ka_k_50, ka_k_51, ka_k_52, ka_k_53, ka_k_54, ka_k_55, ka_k_56, ka_k_57, ka_k_58, ka_k_59, ka_k_60, ka_k_61, ka_k_62, ka_k_63, ka_k_64, ka_k_65, ka_k_66, ka_k_67, ka_k_68, ka_k_69, ka_k_70, ka_k_71, ka_k_72, ka_k_73, ka_k_74, ka_k_75, ka_k_76, ka_k_77, ka_k_78, ka_k_79, ka_k_80, ka_k_81, ka_k_82, ka_k_83, ka_k_84, ka_k_85, ka_k_86, ka_k_87, ka_k_88, ka_k_89, ka_k_90, ka_k_91, ka_k_92, ka_k_93, ka_k_94, ka_k_95, ka_k_96, ka_k_97, ka_k_98, ka_k_99, ka_k_100, ka_rf_0_0, ka_rf_0_1, ka_rf_0_2, ka_rf_0_4, ka_rf_0_5, ka_rf_0_6, ka_rf_0_7, ka_rf_0_8, ka_rf_0_9, ka_rf_61_0, ka_rf_61_2, ka_rf_67_0, ka_rf_67_1, ka_rf_67_2, ka_rf_75_0, ka_rf_87_0, ka_rf_87_1, ka_rf_87_2, ka_rf_87_4, ka_rf_87_11, ka_rf_87_12, ka_rf_87_14, ka_rf_87_15, ka_rf_87_16, ka_rf_87_19, ka_rf_87_20, ka_rf_87_21, ka_rf_87_22, ka_ln_63, ka_ln_64, ka_ln_65, ka_ln_68, ka_ln_69, ka_ln_70, ka_ln_76, ka_ln_77, ka_ln_78, ka_ln_80, ka_ln_82, ka_ln_84, ka_ln_86, ka_ln_88, ka_ln_89, ka_ln_90, ka_ln_91, ka_ln_92, ka_ln_93, ka_ln_94, ka_ln_95, ka_ln_96, ka_ln_97, ka_ln_98, ka_ln_99, ka_ln_100, sp_99_1, sp_99_2, sp_99_3, sp_99_4, sp_99_5, sp_116_1, sp_116_2, sp_116_3, sp_116_4, sp_116_5, sp_100, sp_106, sp_109, sp_110, sp_111, sp_112, sp_113, sp_117, sp_191, ka_i64, ka_b_0, ka_one0, and_self, ka_lit64_69, ka_lit64_5, ka_lit64_99, ka_lit64_8, ka_lit64_48, ka_lit64_57, ka_lit64_9, ka_lit64_6, ka_lit64_3, ka_lit64_60, ka_lit64_20, ka_lit64_12, ka_lit64_4, ka_lit64_400, ka_lit64_999, ka_lit64_m1, ka_lit64_1, ka_l0, ka_t_0, ka_t_1, ka_t_3, ka_t_4, ka_t_6, ka_t_7, ka_t_9, ka_t_5, ka_t_8, ka_t_60, ka_t_69, ka_t_99, ka_t_400, ka_t_999, ka_t_m1, cc]) (fun Y hY => by
      simp only [x140_0, x140_1, x140_2, x140_3, x140_4, x140_7, x140_10, x140_11, x140_12, x140_15, x140_16, x140_17, x140_20, x140_22, x140_23, x140_24, x140_25, x140_28, x140_30, x140_31, x140_32, x140_33, x140_36, x140_37, x140_38, x140_41, x140_42, x140_45, x140_48, x140_50, x140_51, x140_54, x140_55, x140_56, x140_57, x140_60, x140_62, x140_63, x140_64, x140_65, x140_68, x140_69, x140_70, x140_71, x140_72, x140_73, x140_76, x140_79, x140_80, x140_83, x140_85, x140_87, x140_88, x140_89, x140_90, x140_91, x140_92, x140_93, x140_96, x140_97, x140_98, x140_99, x140_102, x140_105, x140_106, ka_kk_i, ka_kk_n, ka_cl_i, ka_cl_r, ka_cl_n, or_true, true_or, ka_ne2, ka_ne4, ka_ne5, ka_ne10, not_false_eq_true, not_true_eq_false, if_true, if_false, ka_k_0, ka_k_1, ka_k_2, ka_k_3, ka_k_4, ka_k_5, ka_k_6, ka_k_7, ka_k_8, ka_k_9, ka_k_10, ka_k_11, ka_k_12, ka_k_13, ka_k_14, ka_k_15, ka_k_16, ka_k_17, ka_k_18, ka_k_19, ka_k_20, ka_k_21, ka_k_22, ka_k_23, ka_k_24, ka_k_25, ka_k_26, ka_k_27, ka_k_28, ka_k_29, ka_k_30, ka_k_31, ka_k_32, ka_k_33, ka_k_34, ka_k_35, ka_k_36, ka_k_37, ka_k_38, ka_k_39, ka_k_40, ka_k_41, ka_k_42, ka_k_43, ka_k_44, ka_k_45, ka_k_46, ka_k_47, ka_k_48, ka_k_49, ka_k_50, ka_k_51, ka_k_52, ka_k_53, ka_k_54, ka_k_55, ka_k_56, ka_k_57, ka_k_58, ka_k_59, ka_k_60, ka_k_61, ka_k_62, ka_k_63, ka_k_64, ka_k_65, ka_k_66, ka_k_67, ka_k_68, ka_k_69, ka_k_70, ka_k_71, ka_k_72, ka_k_73, ka_k_74, ka_k_75, ka_k_76, ka_k_77, ka_k_78, ka_k_79, ka_k_80, ka_k_81, ka_k_82, ka_k_83, ka_k_84, ka_k_85, ka_k_86, ka_k_87, ka_k_88, ka_k_89, ka_k_90, ka_k_91, ka_k_92, ka_k_93, ka_k_94, ka_k_95, ka_k_96, ka_k_97, ka_k_98, ka_k_99, ka_k_100, ka_rf_0_0, ka_rf_0_1, ka_rf_0_2, ka_rf_0_4, ka_rf_0_5, ka_rf_0_6, ka_rf_0_7, ka_rf_0_8, ka_rf_0_9, ka_rf_61_0, ka_rf_61_2, ka_rf_67_0, ka_rf_67_1, ka_rf_67_2, ka_rf_75_0, ka_rf_87_0, ka_rf_87_1, ka_rf_87_2, ka_rf_87_4, ka_rf_87_11, ka_rf_87_12, ka_rf_87_14, ka_rf_87_15, ka_rf_87_16, ka_rf_87_19, ka_rf_87_20, ka_rf_87_21, ka_rf_87_22, ka_ln_63, ka_ln_64, ka_ln_65, ka_ln_68, ka_ln_69, ka_ln_70, ka_ln_76, ka_ln_77, ka_ln_78, ka_ln_80, ka_ln_82, ka_ln_84, ka_ln_86, ka_ln_88, ka_ln_89, ka_ln_90, ka_ln_91, ka_ln_92, ka_ln_93, ka_ln_94, ka_ln_95, ka_ln_96, ka_ln_97, ka_ln_98, ka_ln_99, ka_ln_100, sp_99_1, sp_99_2, sp_99_3, sp_99_4, sp_99_5, sp_116_1, sp_116_2, sp_116_3, sp_116_4, sp_116_5, sp_100, sp_106, sp_109, sp_110, sp_111, sp_112, sp_113, sp_117, sp_191, ka_i64, ka_b_0, ka_one0, and_self, ka_lit64_69, ka_lit64_5, ka_lit64_99, ka_lit64_8, ka_lit64_48, ka_lit64_57, ka_lit64_9, ka_lit64_6, ka_lit64_3, ka_lit64_60, ka_lit64_20, ka_lit64_12, ka_lit64_4, ka_lit64_400, ka_lit64_999, ka_lit64_m1, ka_lit64_1, ka_l0, ka_t_0, ka_t_1, ka_t_3, ka_t_4, ka_t_6, ka_t_7, ka_t_9, ka_t_5, ka_t_8, ka_t_60, ka_t_69, ka_t_99, ka_t_400, ka_t_999, ka_t_m1, c2])
end
