/-! act: voice -/
theorem Inv_voice {X : ka_X} {Q Q2 r1 r2 : Nat → Int32} {L : Nat} (h : Inv X) (hL : L ≤ 40) (q3 : Q2 3 = X 87 3) (hr : ∀ j, j < L → r1 j = r2 j) : Inv (wm (vm X Q L r1) Q2 L r2) := by
  have o : ∀ p, ¬ p = 75 → ¬ p = 76 → ¬ p = 87 → ¬ p = 96 → wm (vm X Q L r1) Q2 L r2 p = X p := by
    intro p a b c e
    unfold wm vm
    rw [kn_row_off c, kn_row_off e, kn_row_off a, kn_row_off b]
  have z87 : wm (vm X Q L r1) Q2 L r2 87 = kn_up Q2 17 (nI L) := by unfold wm; rw [kn_row_at]
  have z96 : wm (vm X Q L r1) Q2 L r2 96 = r2 := by unfold wm; rw [kn_row_off (by decide), kn_row_at]
  have z75 : wm (vm X Q L r1) Q2 L r2 75 = kn_up Q 1 (nI L) := by unfold wm vm; rw [kn_row_off (by decide), kn_row_off (by decide), kn_row_at]
  have z76 : wm (vm X Q L r1) Q2 L r2 76 = r1 := by unfold wm vm; rw [kn_row_off (by decide), kn_row_off (by decide), kn_row_off (by decide), kn_row_at]
  obtain ⟨h1, h2, h3, h4, h5⟩ := h
  refine ⟨I1_cg h1 (fun p a b _ _ _ => o p (by omega) (by omega) (by omega) (by omega)) (o 88 (by decide) (by decide) (by decide) (by decide)), ?_, I3_c h3 (o 78 (by decide) (by decide) (by decide) (by decide)) (o 91 (by decide) (by decide) (by decide) (by decide)), I4_c h4 (fun p hp => o p (by omega) (by omega) (by omega) (by omega)), ?_⟩
  · unfold I2 at h2 ⊢
    rw [o 0 (by decide) (by decide) (by decide) (by decide), z87, kn_up_ne (by decide), q3, o 90 (by decide) (by decide) (by decide) (by decide)]
    refine ⟨h2.1, ?_⟩
    rcases h2.2 with h | ⟨g1, g2, g3⟩
    · exact Or.inl h
    · exact Or.inr ⟨rl_cg g1 (fun p a b _ _ _ => o p (by omega) (by omega) (by omega) (by omega)) g2.1.2, g2, g3⟩
  · unfold I5
    rw [z75, z87, z76, z96, kn_up_at, kn_up_at, ka_nIt (by omega)]
    exact ⟨rfl, ⟨by omega, by omega⟩, fun j hj => hr j (by omega)⟩
section
variable {sc : aS} {d : Nat} {X : ka_X}
theorem op_voice_0_0 {k x : Int32} (h : Inv X) (c1 : 0 ≤ k.toInt ∧ k.toInt < (X 88 9).toInt) (hK : md_kd (X 88) k.toNatClampNeg 0 = 0) : op sc (d + 12) 87 189 [.ref 0, .int k, .int 0, .int x] [.ref 87, .int k, .int 0, .int x, ka_nv] X := by
  have e1 : X 1 1 = X 88 9 := h.1.1.1.1
  have hD := h.1.2.1
  have hN := hD.1
  have hk8 : k.toNatClampNeg < 8 := by rw [ka_nc]; omega
  have hk : k.toNatClampNeg < (X 88 9).toInt.toNat := by rw [ka_nc]; omega
  have hin : ka_in k 8 := ka_inI.mpr (by omega)
  have hkk : 0 ≤ k.toInt ∧ k.toInt < 8 := by omega
  have hx : ∀ f, f < 9 → X (1 + 12 + k.toNatClampNeg) f = md_kd (X 88) k.toNatClampNeg f := h.1.1.2.2.1 _ hk
  have hok := hD.2.1 _ hk
  have t0 : ((0 : Int32).toInt) = 0 := rfl
  have la1 : ((0 : Int) ≤ 0) = True := by decide
  have la2 : ((0 : Int) ≤ 3) = True := by decide
  have z0 : ((0 : Int32) = 0) = True := by decide
  have z1 : ((0 : Int32) = 1) = False := by decide
  have z2 : ((0 : Int32) = 2) = False := by decide
  generalize hM : md_kd (X 88) k.toNatClampNeg 1 = M at *
  have x0 : X (1 + 12 + k.toNatClampNeg) 0 = 0 := (hx 0 (by decide)).trans hK
  have x1 : X (1 + 12 + k.toNatClampNeg) 1 = M := (hx 1 (by decide)).trans hM
  have oK : ∀ q : Nat → Int32, kn_row X 75 q (1 + 12 + k.toNatClampNeg) = X (1 + 12 + k.toNatClampNeg) := fun q => kn_row_off (by omega)
  generalize hQ : kn_up (kn_up (kn_up (kn_up (X 75) 1 0) 2 0) 3 M) 4 k = Q
  have q1 : Q 1 = nI 0 := by rw [← hQ]; rfl
  have q2 : Q 2 = 0 := by rw [← hQ]; rfl
  have q3 : Q 3 = M := by rw [← hQ]; rfl
  have q4 : Q 4 = k := by rw [← hQ]; rfl
  have hV : kn_row X 75 Q = vm X Q 0 (X 76) := by
    unfold vm
    rw [kn_row_self, ← q1, kn_up_id]
  have hb := @vb_0_10 sc (d + 9) X Q M k 0 0 (X 76) x q2 q3 q4 (by decide) (by decide)
  have n0 : (nI 0) = 0 := rfl
  rw [n0] at hb
  generalize hG : vm X Q (0 + 1) (kn_up (X 76) (0) 10) = G at hb
  have goff : ∀ p, ¬ p = 75 → ¬ p = 76 → G p = X p := by intro p a b; rw [← hG]; unfold vm; rw [kn_row_off a, kn_row_off b]
  have g87 : G 87 = X 87 := goff 87 (by decide) (by decide)
  have g88 : G 88 = X 88 := goff 88 (by decide) (by decide)
  have g96 : G 96 = X 96 := goff 96 (by decide) (by decide)
  have q9 : 0 ≤ (G 88 9).toInt := by rw [g88]; exact hN.1
  generalize hQ2 : kn_up (kn_up (X 87) 17 0) 18 k = Q2
  have r17 : Q2 17 = nI 0 := by rw [← hQ2]; rfl
  have r18 : Q2 18 = k := by rw [← hQ2]; rfl
  have r3 : Q2 3 = X 87 3 := by rw [← hQ2]; rfl
  have hW : kn_row G 87 Q2 = wm G Q2 0 (X 96) := by
    unfold wm
    rw [← g96, kn_row_self, ← r17, kn_up_id]
  have k0 : G 88 (13 + 9 * k.toNatClampNeg + 0) = 0 := by rw [g88]; exact hK
  have k1 : G 88 (13 + 9 * k.toNatClampNeg + 1) = M := by rw [g88]; exact hM
  have hm := @wb_0_cut_0 sc (d + 10) G Q2 M k 0 (X 96) x r18 hkk k0 k1 (by decide)
  have hi : Inv (wm G Q2 (0 + 1) (kn_up (X 96) (0) 10)) := by
    rw [← hG]
    refine Inv_voice h (by decide) r3 (fun j hj => ?_)
    rcases (by omega : j = 0) with rfl <;> rfl
  refine ⟨(x + k), G, wm G Q2 (0 + 1) (kn_up (X 96) (0) 10), ?_, ?_, hi⟩
  · simp only [x87_0, x87_1, x87_2, x87_5, x87_8, x87_9, x87_10, x87_11, x87_14, x87_17, x87_18, x87_19, x87_22, x87_23, x87_24, x87_27, x87_28, x87_29, x87_32, x87_35, x87_36, x87_37, x87_38, x87_39, x87_42, x59_0, x59_1, x59_2, x59_5, x59_6, x59_7, x59_10, x59_13, x59_14, x59_15, x59_18, x59_21, x59_22, x59_23, x59_26, x59_27, x59_28, x59_29, x59_32, x59_34, x59_35, x59_38, x87_36 (Or.inl rfl) (ka_st_k1 ka_k_1), ka_kk_i, ka_kk_n, ka_cl_i, ka_cl_r, ka_cl_n, or_true, true_or, ka_ne2, ka_ne4, ka_ne5, ka_ne10, not_false_eq_true, not_true_eq_false, if_true, if_false, ka_k_0, ka_k_1, ka_k_2, ka_k_3, ka_k_4, ka_k_5, ka_k_6, ka_k_7, ka_k_8, ka_k_9, ka_k_10, ka_k_11, ka_k_12, ka_k_13, ka_k_14, ka_k_15, ka_k_16, ka_k_17, ka_k_18, ka_k_19, ka_k_20, ka_k_21, ka_k_22, ka_k_23, ka_k_24, ka_k_25, ka_k_26, ka_k_27, ka_k_28, ka_k_29, ka_k_30, ka_k_31, ka_k_32, ka_k_33, ka_k_34, ka_k_35, ka_k_36, ka_k_37, ka_k_38, ka_k_39, ka_k_40, ka_k_41, ka_k_42, ka_k_43, ka_k_44, ka_k_45, ka_k_46, ka_k_47, ka_k_48, ka_k_49, ka_k_50, ka_k_51, ka_k_52, ka_k_53, ka_k_54, ka_k_55, ka_k_56, ka_k_57, ka_k_58, ka_k_59, ka_k_60, ka_k_61, ka_k_62, ka_k_63, ka_k_64, ka_k_65, ka_k_66, ka_k_67, ka_k_68, ka_k_69, ka_k_70, ka_k_71, ka_k_72, ka_k_73, ka_k_74, ka_k_75, ka_k_76, ka_k_77, ka_k_78, ka_k_79, ka_k_80, ka_k_81, ka_k_82, ka_k_83, ka_k_84, ka_k_85, ka_k_86, ka_k_87, ka_k_88, ka_k_89, ka_k_90, ka_k_91, ka_k_92, ka_k_93, ka_k_94, ka_k_95, ka_k_96, ka_k_97, ka_k_98, ka_k_99, ka_k_100, ka_rf_0_0, ka_rf_0_1, ka_rf_0_2, ka_rf_0_4, ka_rf_0_5, ka_rf_0_6, ka_rf_0_7, ka_rf_0_8, ka_rf_0_9, ka_rf_61_0, ka_rf_61_2, ka_rf_67_0, ka_rf_67_1, ka_rf_67_2, ka_rf_75_0, ka_rf_87_0, ka_rf_87_1, ka_rf_87_2, ka_rf_87_4, ka_rf_87_11, ka_rf_87_12, ka_rf_87_14, ka_rf_87_15, ka_rf_87_16, ka_rf_87_19, ka_rf_87_20, ka_rf_87_21, ka_rf_87_22, ka_ln_63, ka_ln_64, ka_ln_65, ka_ln_68, ka_ln_69, ka_ln_70, ka_ln_76, ka_ln_77, ka_ln_78, ka_ln_80, ka_ln_82, ka_ln_84, ka_ln_86, ka_ln_88, ka_ln_89, ka_ln_90, ka_ln_91, ka_ln_92, ka_ln_93, ka_ln_94, ka_ln_95, ka_ln_96, ka_ln_97, ka_ln_98, ka_ln_99, ka_ln_100, ka_st_r0 ka_k_1, ka_st_k1 ka_k_1, ka_st_l1 ka_k_1, ka_st_ra ka_k_1 hk8, ka_st_kn ka_k_1 hk8, sp_100, sp_106, ka_b_0, and_self, e1, c1, ka_t_0, ka_t_3, t0, la1, la2, hin, kn_put_r, kn_row_at, kn_row_row, oK, x0, x1, hQ, hV, sp_60_0_0 q2, hb]
  · simp only [x189_0, x189_1, x189_2, x189_5, x189_8, x189_9, x189_10, x189_11, x189_14, x189_17, x189_20, x189_21, x189_22, x189_25, x189_26, x189_27, x189_28, x189_31, x189_32, x189_33, x189_36, x189_37, x189_40, x189_42, x189_43, x189_46, x189_47, x189_49, x189_50, x189_53, x189_56, x189_57, x189_58, x189_61, x189_62, x189_64, x189_65, x189_68, x189_71, x189_72, x189_73, x189_76, x189_77, x189_79, x189_80, x189_83, x189_86, x189_87, x189_89, x189_90, x189_93, ka_kk_i, ka_kk_n, ka_cl_i, ka_cl_r, ka_cl_n, or_true, true_or, ka_ne2, ka_ne4, ka_ne5, ka_ne10, not_false_eq_true, not_true_eq_false, if_true, if_false, ka_k_0, ka_k_1, ka_k_2, ka_k_3, ka_k_4, ka_k_5, ka_k_6, ka_k_7, ka_k_8, ka_k_9, ka_k_10, ka_k_11, ka_k_12, ka_k_13, ka_k_14, ka_k_15, ka_k_16, ka_k_17, ka_k_18, ka_k_19, ka_k_20, ka_k_21, ka_k_22, ka_k_23, ka_k_24, ka_k_25, ka_k_26, ka_k_27, ka_k_28, ka_k_29, ka_k_30, ka_k_31, ka_k_32, ka_k_33, ka_k_34, ka_k_35, ka_k_36, ka_k_37, ka_k_38, ka_k_39, ka_k_40, ka_k_41, ka_k_42, ka_k_43, ka_k_44, ka_k_45, ka_k_46, ka_k_47, ka_k_48, ka_k_49, ka_k_50, ka_k_51, ka_k_52, ka_k_53, ka_k_54, ka_k_55, ka_k_56, ka_k_57, ka_k_58, ka_k_59, ka_k_60, ka_k_61, ka_k_62, ka_k_63, ka_k_64, ka_k_65, ka_k_66, ka_k_67, ka_k_68, ka_k_69, ka_k_70, ka_k_71, ka_k_72, ka_k_73, ka_k_74, ka_k_75, ka_k_76, ka_k_77, ka_k_78, ka_k_79, ka_k_80, ka_k_81, ka_k_82, ka_k_83, ka_k_84, ka_k_85, ka_k_86, ka_k_87, ka_k_88, ka_k_89, ka_k_90, ka_k_91, ka_k_92, ka_k_93, ka_k_94, ka_k_95, ka_k_96, ka_k_97, ka_k_98, ka_k_99, ka_k_100, ka_rf_0_0, ka_rf_0_1, ka_rf_0_2, ka_rf_0_4, ka_rf_0_5, ka_rf_0_6, ka_rf_0_7, ka_rf_0_8, ka_rf_0_9, ka_rf_61_0, ka_rf_61_2, ka_rf_67_0, ka_rf_67_1, ka_rf_67_2, ka_rf_75_0, ka_rf_87_0, ka_rf_87_1, ka_rf_87_2, ka_rf_87_4, ka_rf_87_11, ka_rf_87_12, ka_rf_87_14, ka_rf_87_15, ka_rf_87_16, ka_rf_87_19, ka_rf_87_20, ka_rf_87_21, ka_rf_87_22, ka_ln_63, ka_ln_64, ka_ln_65, ka_ln_68, ka_ln_69, ka_ln_70, ka_ln_76, ka_ln_77, ka_ln_78, ka_ln_80, ka_ln_82, ka_ln_84, ka_ln_86, ka_ln_88, ka_ln_89, ka_ln_90, ka_ln_91, ka_ln_92, ka_ln_93, ka_ln_94, ka_ln_95, ka_ln_96, ka_ln_97, ka_ln_98, ka_ln_99, ka_ln_100, sp_100, sp_106, sp_109, sp_110, sp_111, sp_112, sp_113, sp_117, sp_191, ka_i64, ka_b_0, ka_one0, and_self, ka_lit64_69, ka_lit64_5, ka_lit64_99, ka_lit64_8, ka_lit64_48, ka_lit64_57, ka_lit64_9, ka_lit64_6, ka_lit64_3, ka_lit64_60, ka_lit64_20, ka_lit64_12, ka_lit64_4, ka_lit64_400, ka_lit64_999, ka_lit64_m1, ka_lit64_1, ka_l0, ka_t_0, ka_t_1, ka_t_3, ka_t_4, ka_t_6, ka_t_7, ka_t_9, ka_t_5, ka_t_8, ka_t_60, ka_t_69, ka_t_99, ka_t_400, ka_t_999, ka_t_m1, ka_lit64_69, ka_lit64_5, ka_lit64_99, ka_lit64_8, ka_lit64_48, ka_lit64_57, ka_lit64_9, ka_lit64_6, ka_lit64_3, ka_lit64_60, ka_lit64_20, ka_lit64_12, ka_lit64_4, ka_lit64_400, ka_lit64_999, ka_lit64_m1, ka_lit64_1, ka_i64, ka_l0, sp_121' q9, g88, g87, c1, t0, la1, la2, z0, z1, z2, kn_put_r, kn_row_at, kn_row_row, hQ2, hW, sp_184w r18 hkk k0, hm]
theorem op_voice_0_1 {k x : Int32} (h : Inv X) (c1 : 0 ≤ k.toInt ∧ k.toInt < (X 88 9).toInt) (hK : md_kd (X 88) k.toNatClampNeg 0 = 0) : op sc (d + 12) 87 189 [.ref 0, .int k, .int 1, .int x] [.ref 87, .int k, .int 1, .int x, ka_nv] X := by
  have e1 : X 1 1 = X 88 9 := h.1.1.1.1
  have hD := h.1.2.1
  have hN := hD.1
  have hk8 : k.toNatClampNeg < 8 := by rw [ka_nc]; omega
  have hk : k.toNatClampNeg < (X 88 9).toInt.toNat := by rw [ka_nc]; omega
  have hin : ka_in k 8 := ka_inI.mpr (by omega)
  have hkk : 0 ≤ k.toInt ∧ k.toInt < 8 := by omega
  have hx : ∀ f, f < 9 → X (1 + 12 + k.toNatClampNeg) f = md_kd (X 88) k.toNatClampNeg f := h.1.1.2.2.1 _ hk
  have hok := hD.2.1 _ hk
  have t1 : ((1 : Int32).toInt) = 1 := rfl
  have la1 : ((0 : Int) ≤ 1) = True := by decide
  have la2 : ((1 : Int) ≤ 3) = True := by decide
  have z0 : ((1 : Int32) = 0) = False := by decide
  have z1 : ((1 : Int32) = 1) = True := by decide
  have z2 : ((1 : Int32) = 2) = False := by decide
  generalize hM : md_kd (X 88) k.toNatClampNeg 1 = M at *
  have x0 : X (1 + 12 + k.toNatClampNeg) 0 = 0 := (hx 0 (by decide)).trans hK
  have x1 : X (1 + 12 + k.toNatClampNeg) 1 = M := (hx 1 (by decide)).trans hM
  have oK : ∀ q : Nat → Int32, kn_row X 75 q (1 + 12 + k.toNatClampNeg) = X (1 + 12 + k.toNatClampNeg) := fun q => kn_row_off (by omega)
  generalize hQ : kn_up (kn_up (kn_up (kn_up (X 75) 1 0) 2 0) 3 M) 4 k = Q
  have q1 : Q 1 = nI 0 := by rw [← hQ]; rfl
  have q2 : Q 2 = 0 := by rw [← hQ]; rfl
  have q3 : Q 3 = M := by rw [← hQ]; rfl
  have q4 : Q 4 = k := by rw [← hQ]; rfl
  have hV : kn_row X 75 Q = vm X Q 0 (X 76) := by
    unfold vm
    rw [kn_row_self, ← q1, kn_up_id]
  have hb := @vb_0_11 sc (d + 8) X Q M k 0 0 (X 76) x q2 q3 q4 (by decide) (by decide)
  have n0 : (nI 0) = 0 := rfl
  rw [n0] at hb
  generalize hG : vm X Q (0 + 1 + 1) (kn_up (kn_up (X 76) (0) 11) (0 + 1) 10) = G at hb
  have goff : ∀ p, ¬ p = 75 → ¬ p = 76 → G p = X p := by intro p a b; rw [← hG]; unfold vm; rw [kn_row_off a, kn_row_off b]
  have g87 : G 87 = X 87 := goff 87 (by decide) (by decide)
  have g88 : G 88 = X 88 := goff 88 (by decide) (by decide)
  have g96 : G 96 = X 96 := goff 96 (by decide) (by decide)
  have q9 : 0 ≤ (G 88 9).toInt := by rw [g88]; exact hN.1
  generalize hQ2 : kn_up (kn_up (X 87) 17 0) 18 k = Q2
  have r17 : Q2 17 = nI 0 := by rw [← hQ2]; rfl
  have r18 : Q2 18 = k := by rw [← hQ2]; rfl
  have r3 : Q2 3 = X 87 3 := by rw [← hQ2]; rfl
  have hW : kn_row G 87 Q2 = wm G Q2 0 (X 96) := by
    unfold wm
    rw [← g96, kn_row_self, ← r17, kn_up_id]
  have k0 : G 88 (13 + 9 * k.toNatClampNeg + 0) = 0 := by rw [g88]; exact hK
  have k1 : G 88 (13 + 9 * k.toNatClampNeg + 1) = M := by rw [g88]; exact hM
  have hm := @wb_0_rings_0 sc (d + 9) G Q2 M k 0 (X 96) x r18 hkk k0 k1 (by decide)
  have hi : Inv (wm G Q2 (0 + 1 + 1) (kn_up (kn_up (X 96) (0) 11) (0 + 1) 10)) := by
    rw [← hG]
    refine Inv_voice h (by decide) r3 (fun j hj => ?_)
    rcases (by omega : j = 0 ∨ j = 1) with rfl | rfl <;> rfl
  refine ⟨((x + k) * 2), G, wm G Q2 (0 + 1 + 1) (kn_up (kn_up (X 96) (0) 11) (0 + 1) 10), ?_, ?_, hi⟩
  · simp only [x87_0, x87_1, x87_2, x87_5, x87_8, x87_9, x87_10, x87_11, x87_14, x87_17, x87_18, x87_19, x87_22, x87_23, x87_24, x87_27, x87_28, x87_29, x87_32, x87_35, x87_36, x87_37, x87_38, x87_39, x87_42, x59_0, x59_1, x59_2, x59_5, x59_6, x59_7, x59_10, x59_13, x59_14, x59_15, x59_18, x59_21, x59_22, x59_23, x59_26, x59_27, x59_28, x59_29, x59_32, x59_34, x59_35, x59_38, x87_36 (Or.inl rfl) (ka_st_k1 ka_k_1), ka_kk_i, ka_kk_n, ka_cl_i, ka_cl_r, ka_cl_n, or_true, true_or, ka_ne2, ka_ne4, ka_ne5, ka_ne10, not_false_eq_true, not_true_eq_false, if_true, if_false, ka_k_0, ka_k_1, ka_k_2, ka_k_3, ka_k_4, ka_k_5, ka_k_6, ka_k_7, ka_k_8, ka_k_9, ka_k_10, ka_k_11, ka_k_12, ka_k_13, ka_k_14, ka_k_15, ka_k_16, ka_k_17, ka_k_18, ka_k_19, ka_k_20, ka_k_21, ka_k_22, ka_k_23, ka_k_24, ka_k_25, ka_k_26, ka_k_27, ka_k_28, ka_k_29, ka_k_30, ka_k_31, ka_k_32, ka_k_33, ka_k_34, ka_k_35, ka_k_36, ka_k_37, ka_k_38, ka_k_39, ka_k_40, ka_k_41, ka_k_42, ka_k_43, ka_k_44, ka_k_45, ka_k_46, ka_k_47, ka_k_48, ka_k_49, ka_k_50, ka_k_51, ka_k_52, ka_k_53, ka_k_54, ka_k_55, ka_k_56, ka_k_57, ka_k_58, ka_k_59, ka_k_60, ka_k_61, ka_k_62, ka_k_63, ka_k_64, ka_k_65, ka_k_66, ka_k_67, ka_k_68, ka_k_69, ka_k_70, ka_k_71, ka_k_72, ka_k_73, ka_k_74, ka_k_75, ka_k_76, ka_k_77, ka_k_78, ka_k_79, ka_k_80, ka_k_81, ka_k_82, ka_k_83, ka_k_84, ka_k_85, ka_k_86, ka_k_87, ka_k_88, ka_k_89, ka_k_90, ka_k_91, ka_k_92, ka_k_93, ka_k_94, ka_k_95, ka_k_96, ka_k_97, ka_k_98, ka_k_99, ka_k_100, ka_rf_0_0, ka_rf_0_1, ka_rf_0_2, ka_rf_0_4, ka_rf_0_5, ka_rf_0_6, ka_rf_0_7, ka_rf_0_8, ka_rf_0_9, ka_rf_61_0, ka_rf_61_2, ka_rf_67_0, ka_rf_67_1, ka_rf_67_2, ka_rf_75_0, ka_rf_87_0, ka_rf_87_1, ka_rf_87_2, ka_rf_87_4, ka_rf_87_11, ka_rf_87_12, ka_rf_87_14, ka_rf_87_15, ka_rf_87_16, ka_rf_87_19, ka_rf_87_20, ka_rf_87_21, ka_rf_87_22, ka_ln_63, ka_ln_64, ka_ln_65, ka_ln_68, ka_ln_69, ka_ln_70, ka_ln_76, ka_ln_77, ka_ln_78, ka_ln_80, ka_ln_82, ka_ln_84, ka_ln_86, ka_ln_88, ka_ln_89, ka_ln_90, ka_ln_91, ka_ln_92, ka_ln_93, ka_ln_94, ka_ln_95, ka_ln_96, ka_ln_97, ka_ln_98, ka_ln_99, ka_ln_100, ka_st_r0 ka_k_1, ka_st_k1 ka_k_1, ka_st_l1 ka_k_1, ka_st_ra ka_k_1 hk8, ka_st_kn ka_k_1 hk8, sp_100, sp_106, ka_b_0, and_self, e1, c1, ka_t_0, ka_t_3, t1, la1, la2, hin, kn_put_r, kn_row_at, kn_row_row, oK, x0, x1, hQ, hV, sp_60_0_1 q2, hb]
  · simp only [x189_0, x189_1, x189_2, x189_5, x189_8, x189_9, x189_10, x189_11, x189_14, x189_17, x189_20, x189_21, x189_22, x189_25, x189_26, x189_27, x189_28, x189_31, x189_32, x189_33, x189_36, x189_37, x189_40, x189_42, x189_43, x189_46, x189_47, x189_49, x189_50, x189_53, x189_56, x189_57, x189_58, x189_61, x189_62, x189_64, x189_65, x189_68, x189_71, x189_72, x189_73, x189_76, x189_77, x189_79, x189_80, x189_83, x189_86, x189_87, x189_89, x189_90, x189_93, ka_kk_i, ka_kk_n, ka_cl_i, ka_cl_r, ka_cl_n, or_true, true_or, ka_ne2, ka_ne4, ka_ne5, ka_ne10, not_false_eq_true, not_true_eq_false, if_true, if_false, ka_k_0, ka_k_1, ka_k_2, ka_k_3, ka_k_4, ka_k_5, ka_k_6, ka_k_7, ka_k_8, ka_k_9, ka_k_10, ka_k_11, ka_k_12, ka_k_13, ka_k_14, ka_k_15, ka_k_16, ka_k_17, ka_k_18, ka_k_19, ka_k_20, ka_k_21, ka_k_22, ka_k_23, ka_k_24, ka_k_25, ka_k_26, ka_k_27, ka_k_28, ka_k_29, ka_k_30, ka_k_31, ka_k_32, ka_k_33, ka_k_34, ka_k_35, ka_k_36, ka_k_37, ka_k_38, ka_k_39, ka_k_40, ka_k_41, ka_k_42, ka_k_43, ka_k_44, ka_k_45, ka_k_46, ka_k_47, ka_k_48, ka_k_49, ka_k_50, ka_k_51, ka_k_52, ka_k_53, ka_k_54, ka_k_55, ka_k_56, ka_k_57, ka_k_58, ka_k_59, ka_k_60, ka_k_61, ka_k_62, ka_k_63, ka_k_64, ka_k_65, ka_k_66, ka_k_67, ka_k_68, ka_k_69, ka_k_70, ka_k_71, ka_k_72, ka_k_73, ka_k_74, ka_k_75, ka_k_76, ka_k_77, ka_k_78, ka_k_79, ka_k_80, ka_k_81, ka_k_82, ka_k_83, ka_k_84, ka_k_85, ka_k_86, ka_k_87, ka_k_88, ka_k_89, ka_k_90, ka_k_91, ka_k_92, ka_k_93, ka_k_94, ka_k_95, ka_k_96, ka_k_97, ka_k_98, ka_k_99, ka_k_100, ka_rf_0_0, ka_rf_0_1, ka_rf_0_2, ka_rf_0_4, ka_rf_0_5, ka_rf_0_6, ka_rf_0_7, ka_rf_0_8, ka_rf_0_9, ka_rf_61_0, ka_rf_61_2, ka_rf_67_0, ka_rf_67_1, ka_rf_67_2, ka_rf_75_0, ka_rf_87_0, ka_rf_87_1, ka_rf_87_2, ka_rf_87_4, ka_rf_87_11, ka_rf_87_12, ka_rf_87_14, ka_rf_87_15, ka_rf_87_16, ka_rf_87_19, ka_rf_87_20, ka_rf_87_21, ka_rf_87_22, ka_ln_63, ka_ln_64, ka_ln_65, ka_ln_68, ka_ln_69, ka_ln_70, ka_ln_76, ka_ln_77, ka_ln_78, ka_ln_80, ka_ln_82, ka_ln_84, ka_ln_86, ka_ln_88, ka_ln_89, ka_ln_90, ka_ln_91, ka_ln_92, ka_ln_93, ka_ln_94, ka_ln_95, ka_ln_96, ka_ln_97, ka_ln_98, ka_ln_99, ka_ln_100, sp_100, sp_106, sp_109, sp_110, sp_111, sp_112, sp_113, sp_117, sp_191, ka_i64, ka_b_0, ka_one0, and_self, ka_lit64_69, ka_lit64_5, ka_lit64_99, ka_lit64_8, ka_lit64_48, ka_lit64_57, ka_lit64_9, ka_lit64_6, ka_lit64_3, ka_lit64_60, ka_lit64_20, ka_lit64_12, ka_lit64_4, ka_lit64_400, ka_lit64_999, ka_lit64_m1, ka_lit64_1, ka_l0, ka_t_0, ka_t_1, ka_t_3, ka_t_4, ka_t_6, ka_t_7, ka_t_9, ka_t_5, ka_t_8, ka_t_60, ka_t_69, ka_t_99, ka_t_400, ka_t_999, ka_t_m1, ka_lit64_69, ka_lit64_5, ka_lit64_99, ka_lit64_8, ka_lit64_48, ka_lit64_57, ka_lit64_9, ka_lit64_6, ka_lit64_3, ka_lit64_60, ka_lit64_20, ka_lit64_12, ka_lit64_4, ka_lit64_400, ka_lit64_999, ka_lit64_m1, ka_lit64_1, ka_i64, ka_l0, sp_121' q9, g88, g87, c1, t1, la1, la2, z0, z1, z2, kn_put_r, kn_row_at, kn_row_row, hQ2, hW, sp_184w r18 hkk k0, hm]
theorem op_voice_0_2 {k x : Int32} (h : Inv X) (c1 : 0 ≤ k.toInt ∧ k.toInt < (X 88 9).toInt) (hK : md_kd (X 88) k.toNatClampNeg 0 = 0) : op sc (d + 12) 87 189 [.ref 0, .int k, .int 2, .int x] [.ref 87, .int k, .int 2, .int x, ka_nv] X := by
  have e1 : X 1 1 = X 88 9 := h.1.1.1.1
  have hD := h.1.2.1
  have hN := hD.1
  have hk8 : k.toNatClampNeg < 8 := by rw [ka_nc]; omega
  have hk : k.toNatClampNeg < (X 88 9).toInt.toNat := by rw [ka_nc]; omega
  have hin : ka_in k 8 := ka_inI.mpr (by omega)
  have hkk : 0 ≤ k.toInt ∧ k.toInt < 8 := by omega
  have hx : ∀ f, f < 9 → X (1 + 12 + k.toNatClampNeg) f = md_kd (X 88) k.toNatClampNeg f := h.1.1.2.2.1 _ hk
  have hok := hD.2.1 _ hk
  have t2 : ((2 : Int32).toInt) = 2 := rfl
  have la1 : ((0 : Int) ≤ 2) = True := by decide
  have la2 : ((2 : Int) ≤ 3) = True := by decide
  have z0 : ((2 : Int32) = 0) = False := by decide
  have z1 : ((2 : Int32) = 1) = False := by decide
  have z2 : ((2 : Int32) = 2) = True := by decide
  generalize hM : md_kd (X 88) k.toNatClampNeg 1 = M at *
  have x0 : X (1 + 12 + k.toNatClampNeg) 0 = 0 := (hx 0 (by decide)).trans hK
  have x1 : X (1 + 12 + k.toNatClampNeg) 1 = M := (hx 1 (by decide)).trans hM
  have oK : ∀ q : Nat → Int32, kn_row X 75 q (1 + 12 + k.toNatClampNeg) = X (1 + 12 + k.toNatClampNeg) := fun q => kn_row_off (by omega)
  generalize hQ : kn_up (kn_up (kn_up (kn_up (X 75) 1 0) 2 0) 3 M) 4 k = Q
  have q1 : Q 1 = nI 0 := by rw [← hQ]; rfl
  have q2 : Q 2 = 0 := by rw [← hQ]; rfl
  have q3 : Q 3 = M := by rw [← hQ]; rfl
  have q4 : Q 4 = k := by rw [← hQ]; rfl
  have hV : kn_row X 75 Q = vm X Q 0 (X 76) := by
    unfold vm
    rw [kn_row_self, ← q1, kn_up_id]
  have hb := @vb_0_12 sc (d + 9) X Q M k 0 0 (X 76) x q2 q3 q4 (by decide) (by decide)
  have n0 : (nI 0) = 0 := rfl
  rw [n0] at hb
  generalize hG : vm X Q (0 + 1) (kn_up (X 76) (0) 12) = G at hb
  have goff : ∀ p, ¬ p = 75 → ¬ p = 76 → G p = X p := by intro p a b; rw [← hG]; unfold vm; rw [kn_row_off a, kn_row_off b]
  have g87 : G 87 = X 87 := goff 87 (by decide) (by decide)
  have g88 : G 88 = X 88 := goff 88 (by decide) (by decide)
  have g96 : G 96 = X 96 := goff 96 (by decide) (by decide)
  have q9 : 0 ≤ (G 88 9).toInt := by rw [g88]; exact hN.1
  generalize hQ2 : kn_up (kn_up (X 87) 17 0) 18 k = Q2
  have r17 : Q2 17 = nI 0 := by rw [← hQ2]; rfl
  have r18 : Q2 18 = k := by rw [← hQ2]; rfl
  have r3 : Q2 3 = X 87 3 := by rw [← hQ2]; rfl
  have hW : kn_row G 87 Q2 = wm G Q2 0 (X 96) := by
    unfold wm
    rw [← g96, kn_row_self, ← r17, kn_up_id]
  have k0 : G 88 (13 + 9 * k.toNatClampNeg + 0) = 0 := by rw [g88]; exact hK
  have k1 : G 88 (13 + 9 * k.toNatClampNeg + 1) = M := by rw [g88]; exact hM
  have hm := @wb_0_grind_0 sc (d + 10) G Q2 M k 0 (X 96) x r18 hkk k0 k1 (by decide)
  have hi : Inv (wm G Q2 (0 + 1) (kn_up (X 96) (0) 12)) := by
    rw [← hG]
    refine Inv_voice h (by decide) r3 (fun j hj => ?_)
    rcases (by omega : j = 0) with rfl <;> rfl
  refine ⟨(x - M), G, wm G Q2 (0 + 1) (kn_up (X 96) (0) 12), ?_, ?_, hi⟩
  · simp only [x87_0, x87_1, x87_2, x87_5, x87_8, x87_9, x87_10, x87_11, x87_14, x87_17, x87_18, x87_19, x87_22, x87_23, x87_24, x87_27, x87_28, x87_29, x87_32, x87_35, x87_36, x87_37, x87_38, x87_39, x87_42, x59_0, x59_1, x59_2, x59_5, x59_6, x59_7, x59_10, x59_13, x59_14, x59_15, x59_18, x59_21, x59_22, x59_23, x59_26, x59_27, x59_28, x59_29, x59_32, x59_34, x59_35, x59_38, x87_36 (Or.inl rfl) (ka_st_k1 ka_k_1), ka_kk_i, ka_kk_n, ka_cl_i, ka_cl_r, ka_cl_n, or_true, true_or, ka_ne2, ka_ne4, ka_ne5, ka_ne10, not_false_eq_true, not_true_eq_false, if_true, if_false, ka_k_0, ka_k_1, ka_k_2, ka_k_3, ka_k_4, ka_k_5, ka_k_6, ka_k_7, ka_k_8, ka_k_9, ka_k_10, ka_k_11, ka_k_12, ka_k_13, ka_k_14, ka_k_15, ka_k_16, ka_k_17, ka_k_18, ka_k_19, ka_k_20, ka_k_21, ka_k_22, ka_k_23, ka_k_24, ka_k_25, ka_k_26, ka_k_27, ka_k_28, ka_k_29, ka_k_30, ka_k_31, ka_k_32, ka_k_33, ka_k_34, ka_k_35, ka_k_36, ka_k_37, ka_k_38, ka_k_39, ka_k_40, ka_k_41, ka_k_42, ka_k_43, ka_k_44, ka_k_45, ka_k_46, ka_k_47, ka_k_48, ka_k_49, ka_k_50, ka_k_51, ka_k_52, ka_k_53, ka_k_54, ka_k_55, ka_k_56, ka_k_57, ka_k_58, ka_k_59, ka_k_60, ka_k_61, ka_k_62, ka_k_63, ka_k_64, ka_k_65, ka_k_66, ka_k_67, ka_k_68, ka_k_69, ka_k_70, ka_k_71, ka_k_72, ka_k_73, ka_k_74, ka_k_75, ka_k_76, ka_k_77, ka_k_78, ka_k_79, ka_k_80, ka_k_81, ka_k_82, ka_k_83, ka_k_84, ka_k_85, ka_k_86, ka_k_87, ka_k_88, ka_k_89, ka_k_90, ka_k_91, ka_k_92, ka_k_93, ka_k_94, ka_k_95, ka_k_96, ka_k_97, ka_k_98, ka_k_99, ka_k_100, ka_rf_0_0, ka_rf_0_1, ka_rf_0_2, ka_rf_0_4, ka_rf_0_5, ka_rf_0_6, ka_rf_0_7, ka_rf_0_8, ka_rf_0_9, ka_rf_61_0, ka_rf_61_2, ka_rf_67_0, ka_rf_67_1, ka_rf_67_2, ka_rf_75_0, ka_rf_87_0, ka_rf_87_1, ka_rf_87_2, ka_rf_87_4, ka_rf_87_11, ka_rf_87_12, ka_rf_87_14, ka_rf_87_15, ka_rf_87_16, ka_rf_87_19, ka_rf_87_20, ka_rf_87_21, ka_rf_87_22, ka_ln_63, ka_ln_64, ka_ln_65, ka_ln_68, ka_ln_69, ka_ln_70, ka_ln_76, ka_ln_77, ka_ln_78, ka_ln_80, ka_ln_82, ka_ln_84, ka_ln_86, ka_ln_88, ka_ln_89, ka_ln_90, ka_ln_91, ka_ln_92, ka_ln_93, ka_ln_94, ka_ln_95, ka_ln_96, ka_ln_97, ka_ln_98, ka_ln_99, ka_ln_100, ka_st_r0 ka_k_1, ka_st_k1 ka_k_1, ka_st_l1 ka_k_1, ka_st_ra ka_k_1 hk8, ka_st_kn ka_k_1 hk8, sp_100, sp_106, ka_b_0, and_self, e1, c1, ka_t_0, ka_t_3, t2, la1, la2, hin, kn_put_r, kn_row_at, kn_row_row, oK, x0, x1, hQ, hV, sp_60_0_2 q2, hb]
  · simp only [x189_0, x189_1, x189_2, x189_5, x189_8, x189_9, x189_10, x189_11, x189_14, x189_17, x189_20, x189_21, x189_22, x189_25, x189_26, x189_27, x189_28, x189_31, x189_32, x189_33, x189_36, x189_37, x189_40, x189_42, x189_43, x189_46, x189_47, x189_49, x189_50, x189_53, x189_56, x189_57, x189_58, x189_61, x189_62, x189_64, x189_65, x189_68, x189_71, x189_72, x189_73, x189_76, x189_77, x189_79, x189_80, x189_83, x189_86, x189_87, x189_89, x189_90, x189_93, ka_kk_i, ka_kk_n, ka_cl_i, ka_cl_r, ka_cl_n, or_true, true_or, ka_ne2, ka_ne4, ka_ne5, ka_ne10, not_false_eq_true, not_true_eq_false, if_true, if_false, ka_k_0, ka_k_1, ka_k_2, ka_k_3, ka_k_4, ka_k_5, ka_k_6, ka_k_7, ka_k_8, ka_k_9, ka_k_10, ka_k_11, ka_k_12, ka_k_13, ka_k_14, ka_k_15, ka_k_16, ka_k_17, ka_k_18, ka_k_19, ka_k_20, ka_k_21, ka_k_22, ka_k_23, ka_k_24, ka_k_25, ka_k_26, ka_k_27, ka_k_28, ka_k_29, ka_k_30, ka_k_31, ka_k_32, ka_k_33, ka_k_34, ka_k_35, ka_k_36, ka_k_37, ka_k_38, ka_k_39, ka_k_40, ka_k_41, ka_k_42, ka_k_43, ka_k_44, ka_k_45, ka_k_46, ka_k_47, ka_k_48, ka_k_49, ka_k_50, ka_k_51, ka_k_52, ka_k_53, ka_k_54, ka_k_55, ka_k_56, ka_k_57, ka_k_58, ka_k_59, ka_k_60, ka_k_61, ka_k_62, ka_k_63, ka_k_64, ka_k_65, ka_k_66, ka_k_67, ka_k_68, ka_k_69, ka_k_70, ka_k_71, ka_k_72, ka_k_73, ka_k_74, ka_k_75, ka_k_76, ka_k_77, ka_k_78, ka_k_79, ka_k_80, ka_k_81, ka_k_82, ka_k_83, ka_k_84, ka_k_85, ka_k_86, ka_k_87, ka_k_88, ka_k_89, ka_k_90, ka_k_91, ka_k_92, ka_k_93, ka_k_94, ka_k_95, ka_k_96, ka_k_97, ka_k_98, ka_k_99, ka_k_100, ka_rf_0_0, ka_rf_0_1, ka_rf_0_2, ka_rf_0_4, ka_rf_0_5, ka_rf_0_6, ka_rf_0_7, ka_rf_0_8, ka_rf_0_9, ka_rf_61_0, ka_rf_61_2, ka_rf_67_0, ka_rf_67_1, ka_rf_67_2, ka_rf_75_0, ka_rf_87_0, ka_rf_87_1, ka_rf_87_2, ka_rf_87_4, ka_rf_87_11, ka_rf_87_12, ka_rf_87_14, ka_rf_87_15, ka_rf_87_16, ka_rf_87_19, ka_rf_87_20, ka_rf_87_21, ka_rf_87_22, ka_ln_63, ka_ln_64, ka_ln_65, ka_ln_68, ka_ln_69, ka_ln_70, ka_ln_76, ka_ln_77, ka_ln_78, ka_ln_80, ka_ln_82, ka_ln_84, ka_ln_86, ka_ln_88, ka_ln_89, ka_ln_90, ka_ln_91, ka_ln_92, ka_ln_93, ka_ln_94, ka_ln_95, ka_ln_96, ka_ln_97, ka_ln_98, ka_ln_99, ka_ln_100, sp_100, sp_106, sp_109, sp_110, sp_111, sp_112, sp_113, sp_117, sp_191, ka_i64, ka_b_0, ka_one0, and_self, ka_lit64_69, ka_lit64_5, ka_lit64_99, ka_lit64_8, ka_lit64_48, ka_lit64_57, ka_lit64_9, ka_lit64_6, ka_lit64_3, ka_lit64_60, ka_lit64_20, ka_lit64_12, ka_lit64_4, ka_lit64_400, ka_lit64_999, ka_lit64_m1, ka_lit64_1, ka_l0, ka_t_0, ka_t_1, ka_t_3, ka_t_4, ka_t_6, ka_t_7, ka_t_9, ka_t_5, ka_t_8, ka_t_60, ka_t_69, ka_t_99, ka_t_400, ka_t_999, ka_t_m1, ka_lit64_69, ka_lit64_5, ka_lit64_99, ka_lit64_8, ka_lit64_48, ka_lit64_57, ka_lit64_9, ka_lit64_6, ka_lit64_3, ka_lit64_60, ka_lit64_20, ka_lit64_12, ka_lit64_4, ka_lit64_400, ka_lit64_999, ka_lit64_m1, ka_lit64_1, ka_i64, ka_l0, sp_121' q9, g88, g87, c1, t2, la1, la2, z0, z1, z2, kn_put_r, kn_row_at, kn_row_row, hQ2, hW, sp_184w r18 hkk k0, hm]
theorem op_voice_0_3 {k x : Int32} (h : Inv X) (c1 : 0 ≤ k.toInt ∧ k.toInt < (X 88 9).toInt) (hK : md_kd (X 88) k.toNatClampNeg 0 = 0) : op sc (d + 12) 87 189 [.ref 0, .int k, .int 3, .int x] [.ref 87, .int k, .int 3, .int x, ka_nv] X := by
  have e1 : X 1 1 = X 88 9 := h.1.1.1.1
  have hD := h.1.2.1
  have hN := hD.1
  have hk8 : k.toNatClampNeg < 8 := by rw [ka_nc]; omega
  have hk : k.toNatClampNeg < (X 88 9).toInt.toNat := by rw [ka_nc]; omega
  have hin : ka_in k 8 := ka_inI.mpr (by omega)
  have hkk : 0 ≤ k.toInt ∧ k.toInt < 8 := by omega
  have hx : ∀ f, f < 9 → X (1 + 12 + k.toNatClampNeg) f = md_kd (X 88) k.toNatClampNeg f := h.1.1.2.2.1 _ hk
  have hok := hD.2.1 _ hk
  have t3 : ((3 : Int32).toInt) = 3 := rfl
  have la1 : ((0 : Int) ≤ 3) = True := by decide
  have la2 : ((3 : Int) ≤ 3) = True := by decide
  have z0 : ((3 : Int32) = 0) = False := by decide
  have z1 : ((3 : Int32) = 1) = False := by decide
  have z2 : ((3 : Int32) = 2) = False := by decide
  generalize hM : md_kd (X 88) k.toNatClampNeg 1 = M at *
  have x0 : X (1 + 12 + k.toNatClampNeg) 0 = 0 := (hx 0 (by decide)).trans hK
  have x1 : X (1 + 12 + k.toNatClampNeg) 1 = M := (hx 1 (by decide)).trans hM
  have oK : ∀ q : Nat → Int32, kn_row X 75 q (1 + 12 + k.toNatClampNeg) = X (1 + 12 + k.toNatClampNeg) := fun q => kn_row_off (by omega)
  generalize hQ : kn_up (kn_up (kn_up (kn_up (X 75) 1 0) 2 0) 3 M) 4 k = Q
  have q1 : Q 1 = nI 0 := by rw [← hQ]; rfl
  have q2 : Q 2 = 0 := by rw [← hQ]; rfl
  have q3 : Q 3 = M := by rw [← hQ]; rfl
  have q4 : Q 4 = k := by rw [← hQ]; rfl
  have hV : kn_row X 75 Q = vm X Q 0 (X 76) := by
    unfold vm
    rw [kn_row_self, ← q1, kn_up_id]
  have hb := @vb_0_13 sc (d + 7) X Q M k 0 0 (X 76) x q2 q3 q4 (by decide) (by decide)
  have n0 : (nI 0) = 0 := rfl
  rw [n0] at hb
  generalize hG : vm X Q (0 + 1 + 1 + 1 + 1) (kn_up (kn_up (kn_up (kn_up (X 76) (0) 13) (0 + 1) 11) (0 + 1 + 1) 10) (0 + 1 + 1 + 1) 12) = G at hb
  have goff : ∀ p, ¬ p = 75 → ¬ p = 76 → G p = X p := by intro p a b; rw [← hG]; unfold vm; rw [kn_row_off a, kn_row_off b]
  have g87 : G 87 = X 87 := goff 87 (by decide) (by decide)
  have g88 : G 88 = X 88 := goff 88 (by decide) (by decide)
  have g96 : G 96 = X 96 := goff 96 (by decide) (by decide)
  have q9 : 0 ≤ (G 88 9).toInt := by rw [g88]; exact hN.1
  generalize hQ2 : kn_up (kn_up (X 87) 17 0) 18 k = Q2
  have r17 : Q2 17 = nI 0 := by rw [← hQ2]; rfl
  have r18 : Q2 18 = k := by rw [← hQ2]; rfl
  have r3 : Q2 3 = X 87 3 := by rw [← hQ2]; rfl
  have hW : kn_row G 87 Q2 = wm G Q2 0 (X 96) := by
    unfold wm
    rw [← g96, kn_row_self, ← r17, kn_up_id]
  have k0 : G 88 (13 + 9 * k.toNatClampNeg + 0) = 0 := by rw [g88]; exact hK
  have k1 : G 88 (13 + 9 * k.toNatClampNeg + 1) = M := by rw [g88]; exact hM
  have hm := @wb_0_tells_0 sc (d + 8) G Q2 M k 0 (X 96) x r18 hkk k0 k1 (by decide)
  have hi : Inv (wm G Q2 (0 + 1 + 1 + 1 + 1) (kn_up (kn_up (kn_up (kn_up (X 96) (0) 13) (0 + 1) 11) (0 + 1 + 1) 10) (0 + 1 + 1 + 1) 12)) := by
    rw [← hG]
    refine Inv_voice h (by decide) r3 (fun j hj => ?_)
    rcases (by omega : j = 0 ∨ j = 1 ∨ j = 2 ∨ j = 3) with rfl | rfl | rfl | rfl <;> rfl
  refine ⟨(((x + k) * 2) ^^^ (x - M)), G, wm G Q2 (0 + 1 + 1 + 1 + 1) (kn_up (kn_up (kn_up (kn_up (X 96) (0) 13) (0 + 1) 11) (0 + 1 + 1) 10) (0 + 1 + 1 + 1) 12), ?_, ?_, hi⟩
  · simp only [x87_0, x87_1, x87_2, x87_5, x87_8, x87_9, x87_10, x87_11, x87_14, x87_17, x87_18, x87_19, x87_22, x87_23, x87_24, x87_27, x87_28, x87_29, x87_32, x87_35, x87_36, x87_37, x87_38, x87_39, x87_42, x59_0, x59_1, x59_2, x59_5, x59_6, x59_7, x59_10, x59_13, x59_14, x59_15, x59_18, x59_21, x59_22, x59_23, x59_26, x59_27, x59_28, x59_29, x59_32, x59_34, x59_35, x59_38, x87_36 (Or.inl rfl) (ka_st_k1 ka_k_1), ka_kk_i, ka_kk_n, ka_cl_i, ka_cl_r, ka_cl_n, or_true, true_or, ka_ne2, ka_ne4, ka_ne5, ka_ne10, not_false_eq_true, not_true_eq_false, if_true, if_false, ka_k_0, ka_k_1, ka_k_2, ka_k_3, ka_k_4, ka_k_5, ka_k_6, ka_k_7, ka_k_8, ka_k_9, ka_k_10, ka_k_11, ka_k_12, ka_k_13, ka_k_14, ka_k_15, ka_k_16, ka_k_17, ka_k_18, ka_k_19, ka_k_20, ka_k_21, ka_k_22, ka_k_23, ka_k_24, ka_k_25, ka_k_26, ka_k_27, ka_k_28, ka_k_29, ka_k_30, ka_k_31, ka_k_32, ka_k_33, ka_k_34, ka_k_35, ka_k_36, ka_k_37, ka_k_38, ka_k_39, ka_k_40, ka_k_41, ka_k_42, ka_k_43, ka_k_44, ka_k_45, ka_k_46, ka_k_47, ka_k_48, ka_k_49, ka_k_50, ka_k_51, ka_k_52, ka_k_53, ka_k_54, ka_k_55, ka_k_56, ka_k_57, ka_k_58, ka_k_59, ka_k_60, ka_k_61, ka_k_62, ka_k_63, ka_k_64, ka_k_65, ka_k_66, ka_k_67, ka_k_68, ka_k_69, ka_k_70, ka_k_71, ka_k_72, ka_k_73, ka_k_74, ka_k_75, ka_k_76, ka_k_77, ka_k_78, ka_k_79, ka_k_80, ka_k_81, ka_k_82, ka_k_83, ka_k_84, ka_k_85, ka_k_86, ka_k_87, ka_k_88, ka_k_89, ka_k_90, ka_k_91, ka_k_92, ka_k_93, ka_k_94, ka_k_95, ka_k_96, ka_k_97, ka_k_98, ka_k_99, ka_k_100, ka_rf_0_0, ka_rf_0_1, ka_rf_0_2, ka_rf_0_4, ka_rf_0_5, ka_rf_0_6, ka_rf_0_7, ka_rf_0_8, ka_rf_0_9, ka_rf_61_0, ka_rf_61_2, ka_rf_67_0, ka_rf_67_1, ka_rf_67_2, ka_rf_75_0, ka_rf_87_0, ka_rf_87_1, ka_rf_87_2, ka_rf_87_4, ka_rf_87_11, ka_rf_87_12, ka_rf_87_14, ka_rf_87_15, ka_rf_87_16, ka_rf_87_19, ka_rf_87_20, ka_rf_87_21, ka_rf_87_22, ka_ln_63, ka_ln_64, ka_ln_65, ka_ln_68, ka_ln_69, ka_ln_70, ka_ln_76, ka_ln_77, ka_ln_78, ka_ln_80, ka_ln_82, ka_ln_84, ka_ln_86, ka_ln_88, ka_ln_89, ka_ln_90, ka_ln_91, ka_ln_92, ka_ln_93, ka_ln_94, ka_ln_95, ka_ln_96, ka_ln_97, ka_ln_98, ka_ln_99, ka_ln_100, ka_st_r0 ka_k_1, ka_st_k1 ka_k_1, ka_st_l1 ka_k_1, ka_st_ra ka_k_1 hk8, ka_st_kn ka_k_1 hk8, sp_100, sp_106, ka_b_0, and_self, e1, c1, ka_t_0, ka_t_3, t3, la1, la2, hin, kn_put_r, kn_row_at, kn_row_row, oK, x0, x1, hQ, hV, sp_60_0_3 q2, hb]
  · simp only [x189_0, x189_1, x189_2, x189_5, x189_8, x189_9, x189_10, x189_11, x189_14, x189_17, x189_20, x189_21, x189_22, x189_25, x189_26, x189_27, x189_28, x189_31, x189_32, x189_33, x189_36, x189_37, x189_40, x189_42, x189_43, x189_46, x189_47, x189_49, x189_50, x189_53, x189_56, x189_57, x189_58, x189_61, x189_62, x189_64, x189_65, x189_68, x189_71, x189_72, x189_73, x189_76, x189_77, x189_79, x189_80, x189_83, x189_86, x189_87, x189_89, x189_90, x189_93, ka_kk_i, ka_kk_n, ka_cl_i, ka_cl_r, ka_cl_n, or_true, true_or, ka_ne2, ka_ne4, ka_ne5, ka_ne10, not_false_eq_true, not_true_eq_false, if_true, if_false, ka_k_0, ka_k_1, ka_k_2, ka_k_3, ka_k_4, ka_k_5, ka_k_6, ka_k_7, ka_k_8, ka_k_9, ka_k_10, ka_k_11, ka_k_12, ka_k_13, ka_k_14, ka_k_15, ka_k_16, ka_k_17, ka_k_18, ka_k_19, ka_k_20, ka_k_21, ka_k_22, ka_k_23, ka_k_24, ka_k_25, ka_k_26, ka_k_27, ka_k_28, ka_k_29, ka_k_30, ka_k_31, ka_k_32, ka_k_33, ka_k_34, ka_k_35, ka_k_36, ka_k_37, ka_k_38, ka_k_39, ka_k_40, ka_k_41, ka_k_42, ka_k_43, ka_k_44, ka_k_45, ka_k_46, ka_k_47, ka_k_48, ka_k_49, ka_k_50, ka_k_51, ka_k_52, ka_k_53, ka_k_54, ka_k_55, ka_k_56, ka_k_57, ka_k_58, ka_k_59, ka_k_60, ka_k_61, ka_k_62, ka_k_63, ka_k_64, ka_k_65, ka_k_66, ka_k_67, ka_k_68, ka_k_69, ka_k_70, ka_k_71, ka_k_72, ka_k_73, ka_k_74, ka_k_75, ka_k_76, ka_k_77, ka_k_78, ka_k_79, ka_k_80, ka_k_81, ka_k_82, ka_k_83, ka_k_84, ka_k_85, ka_k_86, ka_k_87, ka_k_88, ka_k_89, ka_k_90, ka_k_91, ka_k_92, ka_k_93, ka_k_94, ka_k_95, ka_k_96, ka_k_97, ka_k_98, ka_k_99, ka_k_100, ka_rf_0_0, ka_rf_0_1, ka_rf_0_2, ka_rf_0_4, ka_rf_0_5, ka_rf_0_6, ka_rf_0_7, ka_rf_0_8, ka_rf_0_9, ka_rf_61_0, ka_rf_61_2, ka_rf_67_0, ka_rf_67_1, ka_rf_67_2, ka_rf_75_0, ka_rf_87_0, ka_rf_87_1, ka_rf_87_2, ka_rf_87_4, ka_rf_87_11, ka_rf_87_12, ka_rf_87_14, ka_rf_87_15, ka_rf_87_16, ka_rf_87_19, ka_rf_87_20, ka_rf_87_21, ka_rf_87_22, ka_ln_63, ka_ln_64, ka_ln_65, ka_ln_68, ka_ln_69, ka_ln_70, ka_ln_76, ka_ln_77, ka_ln_78, ka_ln_80, ka_ln_82, ka_ln_84, ka_ln_86, ka_ln_88, ka_ln_89, ka_ln_90, ka_ln_91, ka_ln_92, ka_ln_93, ka_ln_94, ka_ln_95, ka_ln_96, ka_ln_97, ka_ln_98, ka_ln_99, ka_ln_100, sp_100, sp_106, sp_109, sp_110, sp_111, sp_112, sp_113, sp_117, sp_191, ka_i64, ka_b_0, ka_one0, and_self, ka_lit64_69, ka_lit64_5, ka_lit64_99, ka_lit64_8, ka_lit64_48, ka_lit64_57, ka_lit64_9, ka_lit64_6, ka_lit64_3, ka_lit64_60, ka_lit64_20, ka_lit64_12, ka_lit64_4, ka_lit64_400, ka_lit64_999, ka_lit64_m1, ka_lit64_1, ka_l0, ka_t_0, ka_t_1, ka_t_3, ka_t_4, ka_t_6, ka_t_7, ka_t_9, ka_t_5, ka_t_8, ka_t_60, ka_t_69, ka_t_99, ka_t_400, ka_t_999, ka_t_m1, ka_lit64_69, ka_lit64_5, ka_lit64_99, ka_lit64_8, ka_lit64_48, ka_lit64_57, ka_lit64_9, ka_lit64_6, ka_lit64_3, ka_lit64_60, ka_lit64_20, ka_lit64_12, ka_lit64_4, ka_lit64_400, ka_lit64_999, ka_lit64_m1, ka_lit64_1, ka_i64, ka_l0, sp_121' q9, g88, g87, c1, t3, la1, la2, z0, z1, z2, kn_put_r, kn_row_at, kn_row_row, hQ2, hW, sp_184w r18 hkk k0, hm]
theorem op_voice_1_0 {k x : Int32} (h : Inv X) (c1 : 0 ≤ k.toInt ∧ k.toInt < (X 88 9).toInt) (hK : md_kd (X 88) k.toNatClampNeg 0 = 1) : op sc (d + 12) 87 189 [.ref 0, .int k, .int 0, .int x] [.ref 87, .int k, .int 0, .int x, ka_nv] X := by
  have e1 : X 1 1 = X 88 9 := h.1.1.1.1
  have hD := h.1.2.1
  have hN := hD.1
  have hk8 : k.toNatClampNeg < 8 := by rw [ka_nc]; omega
  have hk : k.toNatClampNeg < (X 88 9).toInt.toNat := by rw [ka_nc]; omega
  have hin : ka_in k 8 := ka_inI.mpr (by omega)
  have hkk : 0 ≤ k.toInt ∧ k.toInt < 8 := by omega
  have hx : ∀ f, f < 9 → X (1 + 12 + k.toNatClampNeg) f = md_kd (X 88) k.toNatClampNeg f := h.1.1.2.2.1 _ hk
  have hok := hD.2.1 _ hk
  have t0 : ((0 : Int32).toInt) = 0 := rfl
  have la1 : ((0 : Int) ≤ 0) = True := by decide
  have la2 : ((0 : Int) ≤ 3) = True := by decide
  have z0 : ((0 : Int32) = 0) = True := by decide
  have z1 : ((0 : Int32) = 1) = False := by decide
  have z2 : ((0 : Int32) = 2) = False := by decide
  generalize hM : md_kd (X 88) k.toNatClampNeg 1 = M at *
  have x0 : X (1 + 12 + k.toNatClampNeg) 0 = 1 := (hx 0 (by decide)).trans hK
  have x1 : X (1 + 12 + k.toNatClampNeg) 1 = M := (hx 1 (by decide)).trans hM
  have oK : ∀ q : Nat → Int32, kn_row X 75 q (1 + 12 + k.toNatClampNeg) = X (1 + 12 + k.toNatClampNeg) := fun q => kn_row_off (by omega)
  generalize hQ : kn_up (kn_up (kn_up (kn_up (X 75) 1 0) 2 1) 3 M) 4 k = Q
  have q1 : Q 1 = nI 0 := by rw [← hQ]; rfl
  have q2 : Q 2 = 1 := by rw [← hQ]; rfl
  have q3 : Q 3 = M := by rw [← hQ]; rfl
  have q4 : Q 4 = k := by rw [← hQ]; rfl
  have hV : kn_row X 75 Q = vm X Q 0 (X 76) := by
    unfold vm
    rw [kn_row_self, ← q1, kn_up_id]
  have hb := @vb_1_10 sc (d + 9) X Q M k 0 0 (X 76) x q2 q3 q4 (by decide) (by decide)
  have n0 : (nI 0) = 0 := rfl
  rw [n0] at hb
  generalize hG : vm X Q (0 + 1) (kn_up (X 76) (0) 10) = G at hb
  have goff : ∀ p, ¬ p = 75 → ¬ p = 76 → G p = X p := by intro p a b; rw [← hG]; unfold vm; rw [kn_row_off a, kn_row_off b]
  have g87 : G 87 = X 87 := goff 87 (by decide) (by decide)
  have g88 : G 88 = X 88 := goff 88 (by decide) (by decide)
  have g96 : G 96 = X 96 := goff 96 (by decide) (by decide)
  have q9 : 0 ≤ (G 88 9).toInt := by rw [g88]; exact hN.1
  generalize hQ2 : kn_up (kn_up (X 87) 17 0) 18 k = Q2
  have r17 : Q2 17 = nI 0 := by rw [← hQ2]; rfl
  have r18 : Q2 18 = k := by rw [← hQ2]; rfl
  have r3 : Q2 3 = X 87 3 := by rw [← hQ2]; rfl
  have hW : kn_row G 87 Q2 = wm G Q2 0 (X 96) := by
    unfold wm
    rw [← g96, kn_row_self, ← r17, kn_up_id]
  have k0 : G 88 (13 + 9 * k.toNatClampNeg + 0) = 1 := by rw [g88]; exact hK
  have k1 : G 88 (13 + 9 * k.toNatClampNeg + 1) = M := by rw [g88]; exact hM
  have hm := @wb_1_cut_1 sc (d + 9) G Q2 M k 0 (X 96) x r18 hkk k0 k1 (by decide)
  have hi : Inv (wm G Q2 (0 + 1) (kn_up (X 96) (0) 10)) := by
    rw [← hG]
    refine Inv_voice h (by decide) r3 (fun j hj => ?_)
    rcases (by omega : j = 0) with rfl <;> rfl
  refine ⟨(x + k), G, wm G Q2 (0 + 1) (kn_up (X 96) (0) 10), ?_, ?_, hi⟩
  · simp only [x87_0, x87_1, x87_2, x87_5, x87_8, x87_9, x87_10, x87_11, x87_14, x87_17, x87_18, x87_19, x87_22, x87_23, x87_24, x87_27, x87_28, x87_29, x87_32, x87_35, x87_36, x87_37, x87_38, x87_39, x87_42, x59_0, x59_1, x59_2, x59_5, x59_6, x59_7, x59_10, x59_13, x59_14, x59_15, x59_18, x59_21, x59_22, x59_23, x59_26, x59_27, x59_28, x59_29, x59_32, x59_34, x59_35, x59_38, x87_36 (Or.inl rfl) (ka_st_k1 ka_k_1), ka_kk_i, ka_kk_n, ka_cl_i, ka_cl_r, ka_cl_n, or_true, true_or, ka_ne2, ka_ne4, ka_ne5, ka_ne10, not_false_eq_true, not_true_eq_false, if_true, if_false, ka_k_0, ka_k_1, ka_k_2, ka_k_3, ka_k_4, ka_k_5, ka_k_6, ka_k_7, ka_k_8, ka_k_9, ka_k_10, ka_k_11, ka_k_12, ka_k_13, ka_k_14, ka_k_15, ka_k_16, ka_k_17, ka_k_18, ka_k_19, ka_k_20, ka_k_21, ka_k_22, ka_k_23, ka_k_24, ka_k_25, ka_k_26, ka_k_27, ka_k_28, ka_k_29, ka_k_30, ka_k_31, ka_k_32, ka_k_33, ka_k_34, ka_k_35, ka_k_36, ka_k_37, ka_k_38, ka_k_39, ka_k_40, ka_k_41, ka_k_42, ka_k_43, ka_k_44, ka_k_45, ka_k_46, ka_k_47, ka_k_48, ka_k_49, ka_k_50, ka_k_51, ka_k_52, ka_k_53, ka_k_54, ka_k_55, ka_k_56, ka_k_57, ka_k_58, ka_k_59, ka_k_60, ka_k_61, ka_k_62, ka_k_63, ka_k_64, ka_k_65, ka_k_66, ka_k_67, ka_k_68, ka_k_69, ka_k_70, ka_k_71, ka_k_72, ka_k_73, ka_k_74, ka_k_75, ka_k_76, ka_k_77, ka_k_78, ka_k_79, ka_k_80, ka_k_81, ka_k_82, ka_k_83, ka_k_84, ka_k_85, ka_k_86, ka_k_87, ka_k_88, ka_k_89, ka_k_90, ka_k_91, ka_k_92, ka_k_93, ka_k_94, ka_k_95, ka_k_96, ka_k_97, ka_k_98, ka_k_99, ka_k_100, ka_rf_0_0, ka_rf_0_1, ka_rf_0_2, ka_rf_0_4, ka_rf_0_5, ka_rf_0_6, ka_rf_0_7, ka_rf_0_8, ka_rf_0_9, ka_rf_61_0, ka_rf_61_2, ka_rf_67_0, ka_rf_67_1, ka_rf_67_2, ka_rf_75_0, ka_rf_87_0, ka_rf_87_1, ka_rf_87_2, ka_rf_87_4, ka_rf_87_11, ka_rf_87_12, ka_rf_87_14, ka_rf_87_15, ka_rf_87_16, ka_rf_87_19, ka_rf_87_20, ka_rf_87_21, ka_rf_87_22, ka_ln_63, ka_ln_64, ka_ln_65, ka_ln_68, ka_ln_69, ka_ln_70, ka_ln_76, ka_ln_77, ka_ln_78, ka_ln_80, ka_ln_82, ka_ln_84, ka_ln_86, ka_ln_88, ka_ln_89, ka_ln_90, ka_ln_91, ka_ln_92, ka_ln_93, ka_ln_94, ka_ln_95, ka_ln_96, ka_ln_97, ka_ln_98, ka_ln_99, ka_ln_100, ka_st_r0 ka_k_1, ka_st_k1 ka_k_1, ka_st_l1 ka_k_1, ka_st_ra ka_k_1 hk8, ka_st_kn ka_k_1 hk8, sp_100, sp_106, ka_b_0, and_self, e1, c1, ka_t_0, ka_t_3, t0, la1, la2, hin, kn_put_r, kn_row_at, kn_row_row, oK, x0, x1, hQ, hV, sp_60_1_0 q2, hb]
  · simp only [x189_0, x189_1, x189_2, x189_5, x189_8, x189_9, x189_10, x189_11, x189_14, x189_17, x189_20, x189_21, x189_22, x189_25, x189_26, x189_27, x189_28, x189_31, x189_32, x189_33, x189_36, x189_37, x189_40, x189_42, x189_43, x189_46, x189_47, x189_49, x189_50, x189_53, x189_56, x189_57, x189_58, x189_61, x189_62, x189_64, x189_65, x189_68, x189_71, x189_72, x189_73, x189_76, x189_77, x189_79, x189_80, x189_83, x189_86, x189_87, x189_89, x189_90, x189_93, ka_kk_i, ka_kk_n, ka_cl_i, ka_cl_r, ka_cl_n, or_true, true_or, ka_ne2, ka_ne4, ka_ne5, ka_ne10, not_false_eq_true, not_true_eq_false, if_true, if_false, ka_k_0, ka_k_1, ka_k_2, ka_k_3, ka_k_4, ka_k_5, ka_k_6, ka_k_7, ka_k_8, ka_k_9, ka_k_10, ka_k_11, ka_k_12, ka_k_13, ka_k_14, ka_k_15, ka_k_16, ka_k_17, ka_k_18, ka_k_19, ka_k_20, ka_k_21, ka_k_22, ka_k_23, ka_k_24, ka_k_25, ka_k_26, ka_k_27, ka_k_28, ka_k_29, ka_k_30, ka_k_31, ka_k_32, ka_k_33, ka_k_34, ka_k_35, ka_k_36, ka_k_37, ka_k_38, ka_k_39, ka_k_40, ka_k_41, ka_k_42, ka_k_43, ka_k_44, ka_k_45, ka_k_46, ka_k_47, ka_k_48, ka_k_49, ka_k_50, ka_k_51, ka_k_52, ka_k_53, ka_k_54, ka_k_55, ka_k_56, ka_k_57, ka_k_58, ka_k_59, ka_k_60, ka_k_61, ka_k_62, ka_k_63, ka_k_64, ka_k_65, ka_k_66, ka_k_67, ka_k_68, ka_k_69, ka_k_70, ka_k_71, ka_k_72, ka_k_73, ka_k_74, ka_k_75, ka_k_76, ka_k_77, ka_k_78, ka_k_79, ka_k_80, ka_k_81, ka_k_82, ka_k_83, ka_k_84, ka_k_85, ka_k_86, ka_k_87, ka_k_88, ka_k_89, ka_k_90, ka_k_91, ka_k_92, ka_k_93, ka_k_94, ka_k_95, ka_k_96, ka_k_97, ka_k_98, ka_k_99, ka_k_100, ka_rf_0_0, ka_rf_0_1, ka_rf_0_2, ka_rf_0_4, ka_rf_0_5, ka_rf_0_6, ka_rf_0_7, ka_rf_0_8, ka_rf_0_9, ka_rf_61_0, ka_rf_61_2, ka_rf_67_0, ka_rf_67_1, ka_rf_67_2, ka_rf_75_0, ka_rf_87_0, ka_rf_87_1, ka_rf_87_2, ka_rf_87_4, ka_rf_87_11, ka_rf_87_12, ka_rf_87_14, ka_rf_87_15, ka_rf_87_16, ka_rf_87_19, ka_rf_87_20, ka_rf_87_21, ka_rf_87_22, ka_ln_63, ka_ln_64, ka_ln_65, ka_ln_68, ka_ln_69, ka_ln_70, ka_ln_76, ka_ln_77, ka_ln_78, ka_ln_80, ka_ln_82, ka_ln_84, ka_ln_86, ka_ln_88, ka_ln_89, ka_ln_90, ka_ln_91, ka_ln_92, ka_ln_93, ka_ln_94, ka_ln_95, ka_ln_96, ka_ln_97, ka_ln_98, ka_ln_99, ka_ln_100, sp_100, sp_106, sp_109, sp_110, sp_111, sp_112, sp_113, sp_117, sp_191, ka_i64, ka_b_0, ka_one0, and_self, ka_lit64_69, ka_lit64_5, ka_lit64_99, ka_lit64_8, ka_lit64_48, ka_lit64_57, ka_lit64_9, ka_lit64_6, ka_lit64_3, ka_lit64_60, ka_lit64_20, ka_lit64_12, ka_lit64_4, ka_lit64_400, ka_lit64_999, ka_lit64_m1, ka_lit64_1, ka_l0, ka_t_0, ka_t_1, ka_t_3, ka_t_4, ka_t_6, ka_t_7, ka_t_9, ka_t_5, ka_t_8, ka_t_60, ka_t_69, ka_t_99, ka_t_400, ka_t_999, ka_t_m1, ka_lit64_69, ka_lit64_5, ka_lit64_99, ka_lit64_8, ka_lit64_48, ka_lit64_57, ka_lit64_9, ka_lit64_6, ka_lit64_3, ka_lit64_60, ka_lit64_20, ka_lit64_12, ka_lit64_4, ka_lit64_400, ka_lit64_999, ka_lit64_m1, ka_lit64_1, ka_i64, ka_l0, sp_121' q9, g88, g87, c1, t0, la1, la2, z0, z1, z2, kn_put_r, kn_row_at, kn_row_row, hQ2, hW, sp_184w r18 hkk k0, hm]
theorem op_voice_1_1 {k x : Int32} (h : Inv X) (c1 : 0 ≤ k.toInt ∧ k.toInt < (X 88 9).toInt) (hK : md_kd (X 88) k.toNatClampNeg 0 = 1) : op sc (d + 12) 87 189 [.ref 0, .int k, .int 1, .int x] [.ref 87, .int k, .int 1, .int x, ka_nv] X := by
  have e1 : X 1 1 = X 88 9 := h.1.1.1.1
  have hD := h.1.2.1
  have hN := hD.1
  have hk8 : k.toNatClampNeg < 8 := by rw [ka_nc]; omega
  have hk : k.toNatClampNeg < (X 88 9).toInt.toNat := by rw [ka_nc]; omega
  have hin : ka_in k 8 := ka_inI.mpr (by omega)
  have hkk : 0 ≤ k.toInt ∧ k.toInt < 8 := by omega
  have hx : ∀ f, f < 9 → X (1 + 12 + k.toNatClampNeg) f = md_kd (X 88) k.toNatClampNeg f := h.1.1.2.2.1 _ hk
  have hok := hD.2.1 _ hk
  have t1 : ((1 : Int32).toInt) = 1 := rfl
  have la1 : ((0 : Int) ≤ 1) = True := by decide
  have la2 : ((1 : Int) ≤ 3) = True := by decide
  have z0 : ((1 : Int32) = 0) = False := by decide
  have z1 : ((1 : Int32) = 1) = True := by decide
  have z2 : ((1 : Int32) = 2) = False := by decide
  generalize hM : md_kd (X 88) k.toNatClampNeg 1 = M at *
  have x0 : X (1 + 12 + k.toNatClampNeg) 0 = 1 := (hx 0 (by decide)).trans hK
  have x1 : X (1 + 12 + k.toNatClampNeg) 1 = M := (hx 1 (by decide)).trans hM
  have oK : ∀ q : Nat → Int32, kn_row X 75 q (1 + 12 + k.toNatClampNeg) = X (1 + 12 + k.toNatClampNeg) := fun q => kn_row_off (by omega)
  generalize hQ : kn_up (kn_up (kn_up (kn_up (X 75) 1 0) 2 1) 3 M) 4 k = Q
  have q1 : Q 1 = nI 0 := by rw [← hQ]; rfl
  have q2 : Q 2 = 1 := by rw [← hQ]; rfl
  have q3 : Q 3 = M := by rw [← hQ]; rfl
  have q4 : Q 4 = k := by rw [← hQ]; rfl
  have hV : kn_row X 75 Q = vm X Q 0 (X 76) := by
    unfold vm
    rw [kn_row_self, ← q1, kn_up_id]
  have hb := @vb_1_20 sc (d + 7) X Q M k 0 0 (X 76) x q2 q3 q4 (by decide) (by decide)
  have n0 : (nI 0) = 0 := rfl
  rw [n0] at hb
  generalize hG : vm X Q (0 + 1 + 1 + 1 + 1) (kn_up (kn_up (kn_up (kn_up (X 76) (0) 20) (0 + 1) 11) (0 + 1 + 1) 10) (0 + 1 + 1 + 1) 12) = G at hb
  have goff : ∀ p, ¬ p = 75 → ¬ p = 76 → G p = X p := by intro p a b; rw [← hG]; unfold vm; rw [kn_row_off a, kn_row_off b]
  have g87 : G 87 = X 87 := goff 87 (by decide) (by decide)
  have g88 : G 88 = X 88 := goff 88 (by decide) (by decide)
  have g96 : G 96 = X 96 := goff 96 (by decide) (by decide)
  have q9 : 0 ≤ (G 88 9).toInt := by rw [g88]; exact hN.1
  generalize hQ2 : kn_up (kn_up (X 87) 17 0) 18 k = Q2
  have r17 : Q2 17 = nI 0 := by rw [← hQ2]; rfl
  have r18 : Q2 18 = k := by rw [← hQ2]; rfl
  have r3 : Q2 3 = X 87 3 := by rw [← hQ2]; rfl
  have hW : kn_row G 87 Q2 = wm G Q2 0 (X 96) := by
    unfold wm
    rw [← g96, kn_row_self, ← r17, kn_up_id]
  have k0 : G 88 (13 + 9 * k.toNatClampNeg + 0) = 1 := by rw [g88]; exact hK
  have k1 : G 88 (13 + 9 * k.toNatClampNeg + 1) = M := by rw [g88]; exact hM
  have hm := @wb_1_rings_1 sc (d + 7) G Q2 M k 0 (X 96) x r18 hkk k0 k1 (by decide)
  have hi : Inv (wm G Q2 (0 + 1 + 1 + 1 + 1) (kn_up (kn_up (kn_up (kn_up (X 96) (0) 20) (0 + 1) 11) (0 + 1 + 1) 10) (0 + 1 + 1 + 1) 12)) := by
    rw [← hG]
    refine Inv_voice h (by decide) r3 (fun j hj => ?_)
    rcases (by omega : j = 0 ∨ j = 1 ∨ j = 2 ∨ j = 3) with rfl | rfl | rfl | rfl <;> rfl
  refine ⟨(((x + k) * 2) - (1 - M)), G, wm G Q2 (0 + 1 + 1 + 1 + 1) (kn_up (kn_up (kn_up (kn_up (X 96) (0) 20) (0 + 1) 11) (0 + 1 + 1) 10) (0 + 1 + 1 + 1) 12), ?_, ?_, hi⟩
  · simp only [x87_0, x87_1, x87_2, x87_5, x87_8, x87_9, x87_10, x87_11, x87_14, x87_17, x87_18, x87_19, x87_22, x87_23, x87_24, x87_27, x87_28, x87_29, x87_32, x87_35, x87_36, x87_37, x87_38, x87_39, x87_42, x59_0, x59_1, x59_2, x59_5, x59_6, x59_7, x59_10, x59_13, x59_14, x59_15, x59_18, x59_21, x59_22, x59_23, x59_26, x59_27, x59_28, x59_29, x59_32, x59_34, x59_35, x59_38, x87_36 (Or.inl rfl) (ka_st_k1 ka_k_1), ka_kk_i, ka_kk_n, ka_cl_i, ka_cl_r, ka_cl_n, or_true, true_or, ka_ne2, ka_ne4, ka_ne5, ka_ne10, not_false_eq_true, not_true_eq_false, if_true, if_false, ka_k_0, ka_k_1, ka_k_2, ka_k_3, ka_k_4, ka_k_5, ka_k_6, ka_k_7, ka_k_8, ka_k_9, ka_k_10, ka_k_11, ka_k_12, ka_k_13, ka_k_14, ka_k_15, ka_k_16, ka_k_17, ka_k_18, ka_k_19, ka_k_20, ka_k_21, ka_k_22, ka_k_23, ka_k_24, ka_k_25, ka_k_26, ka_k_27, ka_k_28, ka_k_29, ka_k_30, ka_k_31, ka_k_32, ka_k_33, ka_k_34, ka_k_35, ka_k_36, ka_k_37, ka_k_38, ka_k_39, ka_k_40, ka_k_41, ka_k_42, ka_k_43, ka_k_44, ka_k_45, ka_k_46, ka_k_47, ka_k_48, ka_k_49, ka_k_50, ka_k_51, ka_k_52, ka_k_53, ka_k_54, ka_k_55, ka_k_56, ka_k_57, ka_k_58, ka_k_59, ka_k_60, ka_k_61, ka_k_62, ka_k_63, ka_k_64, ka_k_65, ka_k_66, ka_k_67, ka_k_68, ka_k_69, ka_k_70, ka_k_71, ka_k_72, ka_k_73, ka_k_74, ka_k_75, ka_k_76, ka_k_77, ka_k_78, ka_k_79, ka_k_80, ka_k_81, ka_k_82, ka_k_83, ka_k_84, ka_k_85, ka_k_86, ka_k_87, ka_k_88, ka_k_89, ka_k_90, ka_k_91, ka_k_92, ka_k_93, ka_k_94, ka_k_95, ka_k_96, ka_k_97, ka_k_98, ka_k_99, ka_k_100, ka_rf_0_0, ka_rf_0_1, ka_rf_0_2, ka_rf_0_4, ka_rf_0_5, ka_rf_0_6, ka_rf_0_7, ka_rf_0_8, ka_rf_0_9, ka_rf_61_0, ka_rf_61_2, ka_rf_67_0, ka_rf_67_1, ka_rf_67_2, ka_rf_75_0, ka_rf_87_0, ka_rf_87_1, ka_rf_87_2, ka_rf_87_4, ka_rf_87_11, ka_rf_87_12, ka_rf_87_14, ka_rf_87_15, ka_rf_87_16, ka_rf_87_19, ka_rf_87_20, ka_rf_87_21, ka_rf_87_22, ka_ln_63, ka_ln_64, ka_ln_65, ka_ln_68, ka_ln_69, ka_ln_70, ka_ln_76, ka_ln_77, ka_ln_78, ka_ln_80, ka_ln_82, ka_ln_84, ka_ln_86, ka_ln_88, ka_ln_89, ka_ln_90, ka_ln_91, ka_ln_92, ka_ln_93, ka_ln_94, ka_ln_95, ka_ln_96, ka_ln_97, ka_ln_98, ka_ln_99, ka_ln_100, ka_st_r0 ka_k_1, ka_st_k1 ka_k_1, ka_st_l1 ka_k_1, ka_st_ra ka_k_1 hk8, ka_st_kn ka_k_1 hk8, sp_100, sp_106, ka_b_0, and_self, e1, c1, ka_t_0, ka_t_3, t1, la1, la2, hin, kn_put_r, kn_row_at, kn_row_row, oK, x0, x1, hQ, hV, sp_60_1_1 q2, hb]
  · simp only [x189_0, x189_1, x189_2, x189_5, x189_8, x189_9, x189_10, x189_11, x189_14, x189_17, x189_20, x189_21, x189_22, x189_25, x189_26, x189_27, x189_28, x189_31, x189_32, x189_33, x189_36, x189_37, x189_40, x189_42, x189_43, x189_46, x189_47, x189_49, x189_50, x189_53, x189_56, x189_57, x189_58, x189_61, x189_62, x189_64, x189_65, x189_68, x189_71, x189_72, x189_73, x189_76, x189_77, x189_79, x189_80, x189_83, x189_86, x189_87, x189_89, x189_90, x189_93, ka_kk_i, ka_kk_n, ka_cl_i, ka_cl_r, ka_cl_n, or_true, true_or, ka_ne2, ka_ne4, ka_ne5, ka_ne10, not_false_eq_true, not_true_eq_false, if_true, if_false, ka_k_0, ka_k_1, ka_k_2, ka_k_3, ka_k_4, ka_k_5, ka_k_6, ka_k_7, ka_k_8, ka_k_9, ka_k_10, ka_k_11, ka_k_12, ka_k_13, ka_k_14, ka_k_15, ka_k_16, ka_k_17, ka_k_18, ka_k_19, ka_k_20, ka_k_21, ka_k_22, ka_k_23, ka_k_24, ka_k_25, ka_k_26, ka_k_27, ka_k_28, ka_k_29, ka_k_30, ka_k_31, ka_k_32, ka_k_33, ka_k_34, ka_k_35, ka_k_36, ka_k_37, ka_k_38, ka_k_39, ka_k_40, ka_k_41, ka_k_42, ka_k_43, ka_k_44, ka_k_45, ka_k_46, ka_k_47, ka_k_48, ka_k_49, ka_k_50, ka_k_51, ka_k_52, ka_k_53, ka_k_54, ka_k_55, ka_k_56, ka_k_57, ka_k_58, ka_k_59, ka_k_60, ka_k_61, ka_k_62, ka_k_63, ka_k_64, ka_k_65, ka_k_66, ka_k_67, ka_k_68, ka_k_69, ka_k_70, ka_k_71, ka_k_72, ka_k_73, ka_k_74, ka_k_75, ka_k_76, ka_k_77, ka_k_78, ka_k_79, ka_k_80, ka_k_81, ka_k_82, ka_k_83, ka_k_84, ka_k_85, ka_k_86, ka_k_87, ka_k_88, ka_k_89, ka_k_90, ka_k_91, ka_k_92, ka_k_93, ka_k_94, ka_k_95, ka_k_96, ka_k_97, ka_k_98, ka_k_99, ka_k_100, ka_rf_0_0, ka_rf_0_1, ka_rf_0_2, ka_rf_0_4, ka_rf_0_5, ka_rf_0_6, ka_rf_0_7, ka_rf_0_8, ka_rf_0_9, ka_rf_61_0, ka_rf_61_2, ka_rf_67_0, ka_rf_67_1, ka_rf_67_2, ka_rf_75_0, ka_rf_87_0, ka_rf_87_1, ka_rf_87_2, ka_rf_87_4, ka_rf_87_11, ka_rf_87_12, ka_rf_87_14, ka_rf_87_15, ka_rf_87_16, ka_rf_87_19, ka_rf_87_20, ka_rf_87_21, ka_rf_87_22, ka_ln_63, ka_ln_64, ka_ln_65, ka_ln_68, ka_ln_69, ka_ln_70, ka_ln_76, ka_ln_77, ka_ln_78, ka_ln_80, ka_ln_82, ka_ln_84, ka_ln_86, ka_ln_88, ka_ln_89, ka_ln_90, ka_ln_91, ka_ln_92, ka_ln_93, ka_ln_94, ka_ln_95, ka_ln_96, ka_ln_97, ka_ln_98, ka_ln_99, ka_ln_100, sp_100, sp_106, sp_109, sp_110, sp_111, sp_112, sp_113, sp_117, sp_191, ka_i64, ka_b_0, ka_one0, and_self, ka_lit64_69, ka_lit64_5, ka_lit64_99, ka_lit64_8, ka_lit64_48, ka_lit64_57, ka_lit64_9, ka_lit64_6, ka_lit64_3, ka_lit64_60, ka_lit64_20, ka_lit64_12, ka_lit64_4, ka_lit64_400, ka_lit64_999, ka_lit64_m1, ka_lit64_1, ka_l0, ka_t_0, ka_t_1, ka_t_3, ka_t_4, ka_t_6, ka_t_7, ka_t_9, ka_t_5, ka_t_8, ka_t_60, ka_t_69, ka_t_99, ka_t_400, ka_t_999, ka_t_m1, ka_lit64_69, ka_lit64_5, ka_lit64_99, ka_lit64_8, ka_lit64_48, ka_lit64_57, ka_lit64_9, ka_lit64_6, ka_lit64_3, ka_lit64_60, ka_lit64_20, ka_lit64_12, ka_lit64_4, ka_lit64_400, ka_lit64_999, ka_lit64_m1, ka_lit64_1, ka_i64, ka_l0, sp_121' q9, g88, g87, c1, t1, la1, la2, z0, z1, z2, kn_put_r, kn_row_at, kn_row_row, hQ2, hW, sp_184w r18 hkk k0, hm]
theorem op_voice_1_2 {k x : Int32} (h : Inv X) (c1 : 0 ≤ k.toInt ∧ k.toInt < (X 88 9).toInt) (hK : md_kd (X 88) k.toNatClampNeg 0 = 1) : op sc (d + 12) 87 189 [.ref 0, .int k, .int 2, .int x] [.ref 87, .int k, .int 2, .int x, ka_nv] X := by
  have e1 : X 1 1 = X 88 9 := h.1.1.1.1
  have hD := h.1.2.1
  have hN := hD.1
  have hk8 : k.toNatClampNeg < 8 := by rw [ka_nc]; omega
  have hk : k.toNatClampNeg < (X 88 9).toInt.toNat := by rw [ka_nc]; omega
  have hin : ka_in k 8 := ka_inI.mpr (by omega)
  have hkk : 0 ≤ k.toInt ∧ k.toInt < 8 := by omega
  have hx : ∀ f, f < 9 → X (1 + 12 + k.toNatClampNeg) f = md_kd (X 88) k.toNatClampNeg f := h.1.1.2.2.1 _ hk
  have hok := hD.2.1 _ hk
  have t2 : ((2 : Int32).toInt) = 2 := rfl
  have la1 : ((0 : Int) ≤ 2) = True := by decide
  have la2 : ((2 : Int) ≤ 3) = True := by decide
  have z0 : ((2 : Int32) = 0) = False := by decide
  have z1 : ((2 : Int32) = 1) = False := by decide
  have z2 : ((2 : Int32) = 2) = True := by decide
  generalize hM : md_kd (X 88) k.toNatClampNeg 1 = M at *
  have x0 : X (1 + 12 + k.toNatClampNeg) 0 = 1 := (hx 0 (by decide)).trans hK
  have x1 : X (1 + 12 + k.toNatClampNeg) 1 = M := (hx 1 (by decide)).trans hM
  have oK : ∀ q : Nat → Int32, kn_row X 75 q (1 + 12 + k.toNatClampNeg) = X (1 + 12 + k.toNatClampNeg) := fun q => kn_row_off (by omega)
  generalize hQ : kn_up (kn_up (kn_up (kn_up (X 75) 1 0) 2 1) 3 M) 4 k = Q
  have q1 : Q 1 = nI 0 := by rw [← hQ]; rfl
  have q2 : Q 2 = 1 := by rw [← hQ]; rfl
  have q3 : Q 3 = M := by rw [← hQ]; rfl
  have q4 : Q 4 = k := by rw [← hQ]; rfl
  have hV : kn_row X 75 Q = vm X Q 0 (X 76) := by
    unfold vm
    rw [kn_row_self, ← q1, kn_up_id]
  have hb := @vb_1_12 sc (d + 9) X Q M k 0 0 (X 76) x q2 q3 q4 (by decide) (by decide)
  have n0 : (nI 0) = 0 := rfl
  rw [n0] at hb
  generalize hG : vm X Q (0 + 1) (kn_up (X 76) (0) 12) = G at hb
  have goff : ∀ p, ¬ p = 75 → ¬ p = 76 → G p = X p := by intro p a b; rw [← hG]; unfold vm; rw [kn_row_off a, kn_row_off b]
  have g87 : G 87 = X 87 := goff 87 (by decide) (by decide)
  have g88 : G 88 = X 88 := goff 88 (by decide) (by decide)
  have g96 : G 96 = X 96 := goff 96 (by decide) (by decide)
  have q9 : 0 ≤ (G 88 9).toInt := by rw [g88]; exact hN.1
  generalize hQ2 : kn_up (kn_up (X 87) 17 0) 18 k = Q2
  have r17 : Q2 17 = nI 0 := by rw [← hQ2]; rfl
  have r18 : Q2 18 = k := by rw [← hQ2]; rfl
  have r3 : Q2 3 = X 87 3 := by rw [← hQ2]; rfl
  have hW : kn_row G 87 Q2 = wm G Q2 0 (X 96) := by
    unfold wm
    rw [← g96, kn_row_self, ← r17, kn_up_id]
  have k0 : G 88 (13 + 9 * k.toNatClampNeg + 0) = 1 := by rw [g88]; exact hK
  have k1 : G 88 (13 + 9 * k.toNatClampNeg + 1) = M := by rw [g88]; exact hM
  have hm := @wb_1_grind_1 sc (d + 9) G Q2 M k 0 (X 96) x r18 hkk k0 k1 (by decide)
  have hi : Inv (wm G Q2 (0 + 1) (kn_up (X 96) (0) 12)) := by
    rw [← hG]
    refine Inv_voice h (by decide) r3 (fun j hj => ?_)
    rcases (by omega : j = 0) with rfl <;> rfl
  refine ⟨(x - M), G, wm G Q2 (0 + 1) (kn_up (X 96) (0) 12), ?_, ?_, hi⟩
  · simp only [x87_0, x87_1, x87_2, x87_5, x87_8, x87_9, x87_10, x87_11, x87_14, x87_17, x87_18, x87_19, x87_22, x87_23, x87_24, x87_27, x87_28, x87_29, x87_32, x87_35, x87_36, x87_37, x87_38, x87_39, x87_42, x59_0, x59_1, x59_2, x59_5, x59_6, x59_7, x59_10, x59_13, x59_14, x59_15, x59_18, x59_21, x59_22, x59_23, x59_26, x59_27, x59_28, x59_29, x59_32, x59_34, x59_35, x59_38, x87_36 (Or.inl rfl) (ka_st_k1 ka_k_1), ka_kk_i, ka_kk_n, ka_cl_i, ka_cl_r, ka_cl_n, or_true, true_or, ka_ne2, ka_ne4, ka_ne5, ka_ne10, not_false_eq_true, not_true_eq_false, if_true, if_false, ka_k_0, ka_k_1, ka_k_2, ka_k_3, ka_k_4, ka_k_5, ka_k_6, ka_k_7, ka_k_8, ka_k_9, ka_k_10, ka_k_11, ka_k_12, ka_k_13, ka_k_14, ka_k_15, ka_k_16, ka_k_17, ka_k_18, ka_k_19, ka_k_20, ka_k_21, ka_k_22, ka_k_23, ka_k_24, ka_k_25, ka_k_26, ka_k_27, ka_k_28, ka_k_29, ka_k_30, ka_k_31, ka_k_32, ka_k_33, ka_k_34, ka_k_35, ka_k_36, ka_k_37, ka_k_38, ka_k_39, ka_k_40, ka_k_41, ka_k_42, ka_k_43, ka_k_44, ka_k_45, ka_k_46, ka_k_47, ka_k_48, ka_k_49, ka_k_50, ka_k_51, ka_k_52, ka_k_53, ka_k_54, ka_k_55, ka_k_56, ka_k_57, ka_k_58, ka_k_59, ka_k_60, ka_k_61, ka_k_62, ka_k_63, ka_k_64, ka_k_65, ka_k_66, ka_k_67, ka_k_68, ka_k_69, ka_k_70, ka_k_71, ka_k_72, ka_k_73, ka_k_74, ka_k_75, ka_k_76, ka_k_77, ka_k_78, ka_k_79, ka_k_80, ka_k_81, ka_k_82, ka_k_83, ka_k_84, ka_k_85, ka_k_86, ka_k_87, ka_k_88, ka_k_89, ka_k_90, ka_k_91, ka_k_92, ka_k_93, ka_k_94, ka_k_95, ka_k_96, ka_k_97, ka_k_98, ka_k_99, ka_k_100, ka_rf_0_0, ka_rf_0_1, ka_rf_0_2, ka_rf_0_4, ka_rf_0_5, ka_rf_0_6, ka_rf_0_7, ka_rf_0_8, ka_rf_0_9, ka_rf_61_0, ka_rf_61_2, ka_rf_67_0, ka_rf_67_1, ka_rf_67_2, ka_rf_75_0, ka_rf_87_0, ka_rf_87_1, ka_rf_87_2, ka_rf_87_4, ka_rf_87_11, ka_rf_87_12, ka_rf_87_14, ka_rf_87_15, ka_rf_87_16, ka_rf_87_19, ka_rf_87_20, ka_rf_87_21, ka_rf_87_22, ka_ln_63, ka_ln_64, ka_ln_65, ka_ln_68, ka_ln_69, ka_ln_70, ka_ln_76, ka_ln_77, ka_ln_78, ka_ln_80, ka_ln_82, ka_ln_84, ka_ln_86, ka_ln_88, ka_ln_89, ka_ln_90, ka_ln_91, ka_ln_92, ka_ln_93, ka_ln_94, ka_ln_95, ka_ln_96, ka_ln_97, ka_ln_98, ka_ln_99, ka_ln_100, ka_st_r0 ka_k_1, ka_st_k1 ka_k_1, ka_st_l1 ka_k_1, ka_st_ra ka_k_1 hk8, ka_st_kn ka_k_1 hk8, sp_100, sp_106, ka_b_0, and_self, e1, c1, ka_t_0, ka_t_3, t2, la1, la2, hin, kn_put_r, kn_row_at, kn_row_row, oK, x0, x1, hQ, hV, sp_60_1_2 q2, hb]
  · simp only [x189_0, x189_1, x189_2, x189_5, x189_8, x189_9, x189_10, x189_11, x189_14, x189_17, x189_20, x189_21, x189_22, x189_25, x189_26, x189_27, x189_28, x189_31, x189_32, x189_33, x189_36, x189_37, x189_40, x189_42, x189_43, x189_46, x189_47, x189_49, x189_50, x189_53, x189_56, x189_57, x189_58, x189_61, x189_62, x189_64, x189_65, x189_68, x189_71, x189_72, x189_73, x189_76, x189_77, x189_79, x189_80, x189_83, x189_86, x189_87, x189_89, x189_90, x189_93, ka_kk_i, ka_kk_n, ka_cl_i, ka_cl_r, ka_cl_n, or_true, true_or, ka_ne2, ka_ne4, ka_ne5, ka_ne10, not_false_eq_true, not_true_eq_false, if_true, if_false, ka_k_0, ka_k_1, ka_k_2, ka_k_3, ka_k_4, ka_k_5, ka_k_6, ka_k_7, ka_k_8, ka_k_9, ka_k_10, ka_k_11, ka_k_12, ka_k_13, ka_k_14, ka_k_15, ka_k_16, ka_k_17, ka_k_18, ka_k_19, ka_k_20, ka_k_21, ka_k_22, ka_k_23, ka_k_24, ka_k_25, ka_k_26, ka_k_27, ka_k_28, ka_k_29, ka_k_30, ka_k_31, ka_k_32, ka_k_33, ka_k_34, ka_k_35, ka_k_36, ka_k_37, ka_k_38, ka_k_39, ka_k_40, ka_k_41, ka_k_42, ka_k_43, ka_k_44, ka_k_45, ka_k_46, ka_k_47, ka_k_48, ka_k_49, ka_k_50, ka_k_51, ka_k_52, ka_k_53, ka_k_54, ka_k_55, ka_k_56, ka_k_57, ka_k_58, ka_k_59, ka_k_60, ka_k_61, ka_k_62, ka_k_63, ka_k_64, ka_k_65, ka_k_66, ka_k_67, ka_k_68, ka_k_69, ka_k_70, ka_k_71, ka_k_72, ka_k_73, ka_k_74, ka_k_75, ka_k_76, ka_k_77, ka_k_78, ka_k_79, ka_k_80, ka_k_81, ka_k_82, ka_k_83, ka_k_84, ka_k_85, ka_k_86, ka_k_87, ka_k_88, ka_k_89, ka_k_90, ka_k_91, ka_k_92, ka_k_93, ka_k_94, ka_k_95, ka_k_96, ka_k_97, ka_k_98, ka_k_99, ka_k_100, ka_rf_0_0, ka_rf_0_1, ka_rf_0_2, ka_rf_0_4, ka_rf_0_5, ka_rf_0_6, ka_rf_0_7, ka_rf_0_8, ka_rf_0_9, ka_rf_61_0, ka_rf_61_2, ka_rf_67_0, ka_rf_67_1, ka_rf_67_2, ka_rf_75_0, ka_rf_87_0, ka_rf_87_1, ka_rf_87_2, ka_rf_87_4, ka_rf_87_11, ka_rf_87_12, ka_rf_87_14, ka_rf_87_15, ka_rf_87_16, ka_rf_87_19, ka_rf_87_20, ka_rf_87_21, ka_rf_87_22, ka_ln_63, ka_ln_64, ka_ln_65, ka_ln_68, ka_ln_69, ka_ln_70, ka_ln_76, ka_ln_77, ka_ln_78, ka_ln_80, ka_ln_82, ka_ln_84, ka_ln_86, ka_ln_88, ka_ln_89, ka_ln_90, ka_ln_91, ka_ln_92, ka_ln_93, ka_ln_94, ka_ln_95, ka_ln_96, ka_ln_97, ka_ln_98, ka_ln_99, ka_ln_100, sp_100, sp_106, sp_109, sp_110, sp_111, sp_112, sp_113, sp_117, sp_191, ka_i64, ka_b_0, ka_one0, and_self, ka_lit64_69, ka_lit64_5, ka_lit64_99, ka_lit64_8, ka_lit64_48, ka_lit64_57, ka_lit64_9, ka_lit64_6, ka_lit64_3, ka_lit64_60, ka_lit64_20, ka_lit64_12, ka_lit64_4, ka_lit64_400, ka_lit64_999, ka_lit64_m1, ka_lit64_1, ka_l0, ka_t_0, ka_t_1, ka_t_3, ka_t_4, ka_t_6, ka_t_7, ka_t_9, ka_t_5, ka_t_8, ka_t_60, ka_t_69, ka_t_99, ka_t_400, ka_t_999, ka_t_m1, ka_lit64_69, ka_lit64_5, ka_lit64_99, ka_lit64_8, ka_lit64_48, ka_lit64_57, ka_lit64_9, ka_lit64_6, ka_lit64_3, ka_lit64_60, ka_lit64_20, ka_lit64_12, ka_lit64_4, ka_lit64_400, ka_lit64_999, ka_lit64_m1, ka_lit64_1, ka_i64, ka_l0, sp_121' q9, g88, g87, c1, t2, la1, la2, z0, z1, z2, kn_put_r, kn_row_at, kn_row_row, hQ2, hW, sp_184w r18 hkk k0, hm]
theorem op_voice_1_3 {k x : Int32} (h : Inv X) (c1 : 0 ≤ k.toInt ∧ k.toInt < (X 88 9).toInt) (hK : md_kd (X 88) k.toNatClampNeg 0 = 1) : op sc (d + 12) 87 189 [.ref 0, .int k, .int 3, .int x] [.ref 87, .int k, .int 3, .int x, ka_nv] X := by
  have e1 : X 1 1 = X 88 9 := h.1.1.1.1
  have hD := h.1.2.1
  have hN := hD.1
  have hk8 : k.toNatClampNeg < 8 := by rw [ka_nc]; omega
  have hk : k.toNatClampNeg < (X 88 9).toInt.toNat := by rw [ka_nc]; omega
  have hin : ka_in k 8 := ka_inI.mpr (by omega)
  have hkk : 0 ≤ k.toInt ∧ k.toInt < 8 := by omega
  have hx : ∀ f, f < 9 → X (1 + 12 + k.toNatClampNeg) f = md_kd (X 88) k.toNatClampNeg f := h.1.1.2.2.1 _ hk
  have hok := hD.2.1 _ hk
  have t3 : ((3 : Int32).toInt) = 3 := rfl
  have la1 : ((0 : Int) ≤ 3) = True := by decide
  have la2 : ((3 : Int) ≤ 3) = True := by decide
  have z0 : ((3 : Int32) = 0) = False := by decide
  have z1 : ((3 : Int32) = 1) = False := by decide
  have z2 : ((3 : Int32) = 2) = False := by decide
  generalize hM : md_kd (X 88) k.toNatClampNeg 1 = M at *
  have x0 : X (1 + 12 + k.toNatClampNeg) 0 = 1 := (hx 0 (by decide)).trans hK
  have x1 : X (1 + 12 + k.toNatClampNeg) 1 = M := (hx 1 (by decide)).trans hM
  have oK : ∀ q : Nat → Int32, kn_row X 75 q (1 + 12 + k.toNatClampNeg) = X (1 + 12 + k.toNatClampNeg) := fun q => kn_row_off (by omega)
  generalize hQ : kn_up (kn_up (kn_up (kn_up (X 75) 1 0) 2 1) 3 M) 4 k = Q
  have q1 : Q 1 = nI 0 := by rw [← hQ]; rfl
  have q2 : Q 2 = 1 := by rw [← hQ]; rfl
  have q3 : Q 3 = M := by rw [← hQ]; rfl
  have q4 : Q 4 = k := by rw [← hQ]; rfl
  have hV : kn_row X 75 Q = vm X Q 0 (X 76) := by
    unfold vm
    rw [kn_row_self, ← q1, kn_up_id]
  have hb := @vb_1_13 sc (d + 6) X Q M k 0 0 (X 76) x q2 q3 q4 (by decide) (by decide)
  have n0 : (nI 0) = 0 := rfl
  rw [n0] at hb
  generalize hG : vm X Q (0 + 1 + 1 + 1 + 1 + 1 + 1) (kn_up (kn_up (kn_up (kn_up (kn_up (kn_up (X 76) (0) 13) (0 + 1) 20) (0 + 1 + 1) 11) (0 + 1 + 1 + 1) 10) (0 + 1 + 1 + 1 + 1) 12) (0 + 1 + 1 + 1 + 1 + 1) 12) = G at hb
  have goff : ∀ p, ¬ p = 75 → ¬ p = 76 → G p = X p := by intro p a b; rw [← hG]; unfold vm; rw [kn_row_off a, kn_row_off b]
  have g87 : G 87 = X 87 := goff 87 (by decide) (by decide)
  have g88 : G 88 = X 88 := goff 88 (by decide) (by decide)
  have g96 : G 96 = X 96 := goff 96 (by decide) (by decide)
  have q9 : 0 ≤ (G 88 9).toInt := by rw [g88]; exact hN.1
  generalize hQ2 : kn_up (kn_up (X 87) 17 0) 18 k = Q2
  have r17 : Q2 17 = nI 0 := by rw [← hQ2]; rfl
  have r18 : Q2 18 = k := by rw [← hQ2]; rfl
  have r3 : Q2 3 = X 87 3 := by rw [← hQ2]; rfl
  have hW : kn_row G 87 Q2 = wm G Q2 0 (X 96) := by
    unfold wm
    rw [← g96, kn_row_self, ← r17, kn_up_id]
  have k0 : G 88 (13 + 9 * k.toNatClampNeg + 0) = 1 := by rw [g88]; exact hK
  have k1 : G 88 (13 + 9 * k.toNatClampNeg + 1) = M := by rw [g88]; exact hM
  have hm := @wb_1_tells_1 sc (d + 5) G Q2 M k 0 (X 96) x r18 hkk k0 k1 (by decide)
  have hi : Inv (wm G Q2 (0 + 1 + 1 + 1 + 1 + 1 + 1) (kn_up (kn_up (kn_up (kn_up (kn_up (kn_up (X 96) (0) 13) (0 + 1) 20) (0 + 1 + 1) 11) (0 + 1 + 1 + 1) 10) (0 + 1 + 1 + 1 + 1) 12) (0 + 1 + 1 + 1 + 1 + 1) 12)) := by
    rw [← hG]
    refine Inv_voice h (by decide) r3 (fun j hj => ?_)
    rcases (by omega : j = 0 ∨ j = 1 ∨ j = 2 ∨ j = 3 ∨ j = 4 ∨ j = 5) with rfl | rfl | rfl | rfl | rfl | rfl <;> rfl
  refine ⟨((((x + k) * 2) - (1 - M)) ^^^ (x - M)), G, wm G Q2 (0 + 1 + 1 + 1 + 1 + 1 + 1) (kn_up (kn_up (kn_up (kn_up (kn_up (kn_up (X 96) (0) 13) (0 + 1) 20) (0 + 1 + 1) 11) (0 + 1 + 1 + 1) 10) (0 + 1 + 1 + 1 + 1) 12) (0 + 1 + 1 + 1 + 1 + 1) 12), ?_, ?_, hi⟩
  · simp only [x87_0, x87_1, x87_2, x87_5, x87_8, x87_9, x87_10, x87_11, x87_14, x87_17, x87_18, x87_19, x87_22, x87_23, x87_24, x87_27, x87_28, x87_29, x87_32, x87_35, x87_36, x87_37, x87_38, x87_39, x87_42, x59_0, x59_1, x59_2, x59_5, x59_6, x59_7, x59_10, x59_13, x59_14, x59_15, x59_18, x59_21, x59_22, x59_23, x59_26, x59_27, x59_28, x59_29, x59_32, x59_34, x59_35, x59_38, x87_36 (Or.inl rfl) (ka_st_k1 ka_k_1), ka_kk_i, ka_kk_n, ka_cl_i, ka_cl_r, ka_cl_n, or_true, true_or, ka_ne2, ka_ne4, ka_ne5, ka_ne10, not_false_eq_true, not_true_eq_false, if_true, if_false, ka_k_0, ka_k_1, ka_k_2, ka_k_3, ka_k_4, ka_k_5, ka_k_6, ka_k_7, ka_k_8, ka_k_9, ka_k_10, ka_k_11, ka_k_12, ka_k_13, ka_k_14, ka_k_15, ka_k_16, ka_k_17, ka_k_18, ka_k_19, ka_k_20, ka_k_21, ka_k_22, ka_k_23, ka_k_24, ka_k_25, ka_k_26, ka_k_27, ka_k_28, ka_k_29, ka_k_30, ka_k_31, ka_k_32, ka_k_33, ka_k_34, ka_k_35, ka_k_36, ka_k_37, ka_k_38, ka_k_39, ka_k_40, ka_k_41, ka_k_42, ka_k_43, ka_k_44, ka_k_45, ka_k_46, ka_k_47, ka_k_48, ka_k_49, ka_k_50, ka_k_51, ka_k_52, ka_k_53, ka_k_54, ka_k_55, ka_k_56, ka_k_57, ka_k_58, ka_k_59, ka_k_60, ka_k_61, ka_k_62, ka_k_63, ka_k_64, ka_k_65, ka_k_66, ka_k_67, ka_k_68, ka_k_69, ka_k_70, ka_k_71, ka_k_72, ka_k_73, ka_k_74, ka_k_75, ka_k_76, ka_k_77, ka_k_78, ka_k_79, ka_k_80, ka_k_81, ka_k_82, ka_k_83, ka_k_84, ka_k_85, ka_k_86, ka_k_87, ka_k_88, ka_k_89, ka_k_90, ka_k_91, ka_k_92, ka_k_93, ka_k_94, ka_k_95, ka_k_96, ka_k_97, ka_k_98, ka_k_99, ka_k_100, ka_rf_0_0, ka_rf_0_1, ka_rf_0_2, ka_rf_0_4, ka_rf_0_5, ka_rf_0_6, ka_rf_0_7, ka_rf_0_8, ka_rf_0_9, ka_rf_61_0, ka_rf_61_2, ka_rf_67_0, ka_rf_67_1, ka_rf_67_2, ka_rf_75_0, ka_rf_87_0, ka_rf_87_1, ka_rf_87_2, ka_rf_87_4, ka_rf_87_11, ka_rf_87_12, ka_rf_87_14, ka_rf_87_15, ka_rf_87_16, ka_rf_87_19, ka_rf_87_20, ka_rf_87_21, ka_rf_87_22, ka_ln_63, ka_ln_64, ka_ln_65, ka_ln_68, ka_ln_69, ka_ln_70, ka_ln_76, ka_ln_77, ka_ln_78, ka_ln_80, ka_ln_82, ka_ln_84, ka_ln_86, ka_ln_88, ka_ln_89, ka_ln_90, ka_ln_91, ka_ln_92, ka_ln_93, ka_ln_94, ka_ln_95, ka_ln_96, ka_ln_97, ka_ln_98, ka_ln_99, ka_ln_100, ka_st_r0 ka_k_1, ka_st_k1 ka_k_1, ka_st_l1 ka_k_1, ka_st_ra ka_k_1 hk8, ka_st_kn ka_k_1 hk8, sp_100, sp_106, ka_b_0, and_self, e1, c1, ka_t_0, ka_t_3, t3, la1, la2, hin, kn_put_r, kn_row_at, kn_row_row, oK, x0, x1, hQ, hV, sp_60_1_3 q2, hb]
  · simp only [x189_0, x189_1, x189_2, x189_5, x189_8, x189_9, x189_10, x189_11, x189_14, x189_17, x189_20, x189_21, x189_22, x189_25, x189_26, x189_27, x189_28, x189_31, x189_32, x189_33, x189_36, x189_37, x189_40, x189_42, x189_43, x189_46, x189_47, x189_49, x189_50, x189_53, x189_56, x189_57, x189_58, x189_61, x189_62, x189_64, x189_65, x189_68, x189_71, x189_72, x189_73, x189_76, x189_77, x189_79, x189_80, x189_83, x189_86, x189_87, x189_89, x189_90, x189_93, ka_kk_i, ka_kk_n, ka_cl_i, ka_cl_r, ka_cl_n, or_true, true_or, ka_ne2, ka_ne4, ka_ne5, ka_ne10, not_false_eq_true, not_true_eq_false, if_true, if_false, ka_k_0, ka_k_1, ka_k_2, ka_k_3, ka_k_4, ka_k_5, ka_k_6, ka_k_7, ka_k_8, ka_k_9, ka_k_10, ka_k_11, ka_k_12, ka_k_13, ka_k_14, ka_k_15, ka_k_16, ka_k_17, ka_k_18, ka_k_19, ka_k_20, ka_k_21, ka_k_22, ka_k_23, ka_k_24, ka_k_25, ka_k_26, ka_k_27, ka_k_28, ka_k_29, ka_k_30, ka_k_31, ka_k_32, ka_k_33, ka_k_34, ka_k_35, ka_k_36, ka_k_37, ka_k_38, ka_k_39, ka_k_40, ka_k_41, ka_k_42, ka_k_43, ka_k_44, ka_k_45, ka_k_46, ka_k_47, ka_k_48, ka_k_49, ka_k_50, ka_k_51, ka_k_52, ka_k_53, ka_k_54, ka_k_55, ka_k_56, ka_k_57, ka_k_58, ka_k_59, ka_k_60, ka_k_61, ka_k_62, ka_k_63, ka_k_64, ka_k_65, ka_k_66, ka_k_67, ka_k_68, ka_k_69, ka_k_70, ka_k_71, ka_k_72, ka_k_73, ka_k_74, ka_k_75, ka_k_76, ka_k_77, ka_k_78, ka_k_79, ka_k_80, ka_k_81, ka_k_82, ka_k_83, ka_k_84, ka_k_85, ka_k_86, ka_k_87, ka_k_88, ka_k_89, ka_k_90, ka_k_91, ka_k_92, ka_k_93, ka_k_94, ka_k_95, ka_k_96, ka_k_97, ka_k_98, ka_k_99, ka_k_100, ka_rf_0_0, ka_rf_0_1, ka_rf_0_2, ka_rf_0_4, ka_rf_0_5, ka_rf_0_6, ka_rf_0_7, ka_rf_0_8, ka_rf_0_9, ka_rf_61_0, ka_rf_61_2, ka_rf_67_0, ka_rf_67_1, ka_rf_67_2, ka_rf_75_0, ka_rf_87_0, ka_rf_87_1, ka_rf_87_2, ka_rf_87_4, ka_rf_87_11, ka_rf_87_12, ka_rf_87_14, ka_rf_87_15, ka_rf_87_16, ka_rf_87_19, ka_rf_87_20, ka_rf_87_21, ka_rf_87_22, ka_ln_63, ka_ln_64, ka_ln_65, ka_ln_68, ka_ln_69, ka_ln_70, ka_ln_76, ka_ln_77, ka_ln_78, ka_ln_80, ka_ln_82, ka_ln_84, ka_ln_86, ka_ln_88, ka_ln_89, ka_ln_90, ka_ln_91, ka_ln_92, ka_ln_93, ka_ln_94, ka_ln_95, ka_ln_96, ka_ln_97, ka_ln_98, ka_ln_99, ka_ln_100, sp_100, sp_106, sp_109, sp_110, sp_111, sp_112, sp_113, sp_117, sp_191, ka_i64, ka_b_0, ka_one0, and_self, ka_lit64_69, ka_lit64_5, ka_lit64_99, ka_lit64_8, ka_lit64_48, ka_lit64_57, ka_lit64_9, ka_lit64_6, ka_lit64_3, ka_lit64_60, ka_lit64_20, ka_lit64_12, ka_lit64_4, ka_lit64_400, ka_lit64_999, ka_lit64_m1, ka_lit64_1, ka_l0, ka_t_0, ka_t_1, ka_t_3, ka_t_4, ka_t_6, ka_t_7, ka_t_9, ka_t_5, ka_t_8, ka_t_60, ka_t_69, ka_t_99, ka_t_400, ka_t_999, ka_t_m1, ka_lit64_69, ka_lit64_5, ka_lit64_99, ka_lit64_8, ka_lit64_48, ka_lit64_57, ka_lit64_9, ka_lit64_6, ka_lit64_3, ka_lit64_60, ka_lit64_20, ka_lit64_12, ka_lit64_4, ka_lit64_400, ka_lit64_999, ka_lit64_m1, ka_lit64_1, ka_i64, ka_l0, sp_121' q9, g88, g87, c1, t3, la1, la2, z0, z1, z2, kn_put_r, kn_row_at, kn_row_row, hQ2, hW, sp_184w r18 hkk k0, hm]
theorem op_voice_2_0 {k x : Int32} (h : Inv X) (c1 : 0 ≤ k.toInt ∧ k.toInt < (X 88 9).toInt) (hK : md_kd (X 88) k.toNatClampNeg 0 = 2) : op sc (d + 12) 87 189 [.ref 0, .int k, .int 0, .int x] [.ref 87, .int k, .int 0, .int x, ka_nv] X := by
  have e1 : X 1 1 = X 88 9 := h.1.1.1.1
  have hD := h.1.2.1
  have hN := hD.1
  have hk8 : k.toNatClampNeg < 8 := by rw [ka_nc]; omega
  have hk : k.toNatClampNeg < (X 88 9).toInt.toNat := by rw [ka_nc]; omega
  have hin : ka_in k 8 := ka_inI.mpr (by omega)
  have hkk : 0 ≤ k.toInt ∧ k.toInt < 8 := by omega
  have hx : ∀ f, f < 9 → X (1 + 12 + k.toNatClampNeg) f = md_kd (X 88) k.toNatClampNeg f := h.1.1.2.2.1 _ hk
  have hok := hD.2.1 _ hk
  have t0 : ((0 : Int32).toInt) = 0 := rfl
  have la1 : ((0 : Int) ≤ 0) = True := by decide
  have la2 : ((0 : Int) ≤ 3) = True := by decide
  have z0 : ((0 : Int32) = 0) = True := by decide
  have z1 : ((0 : Int32) = 1) = False := by decide
  have z2 : ((0 : Int32) = 2) = False := by decide
  generalize hM : md_kd (X 88) k.toNatClampNeg 1 = M at *
  have x0 : X (1 + 12 + k.toNatClampNeg) 0 = 2 := (hx 0 (by decide)).trans hK
  have x1 : X (1 + 12 + k.toNatClampNeg) 1 = M := (hx 1 (by decide)).trans hM
  have oK : ∀ q : Nat → Int32, kn_row X 75 q (1 + 12 + k.toNatClampNeg) = X (1 + 12 + k.toNatClampNeg) := fun q => kn_row_off (by omega)
  generalize hQ : kn_up (kn_up (kn_up (kn_up (X 75) 1 0) 2 2) 3 M) 4 k = Q
  have q1 : Q 1 = nI 0 := by rw [← hQ]; rfl
  have q2 : Q 2 = 2 := by rw [← hQ]; rfl
  have q3 : Q 3 = M := by rw [← hQ]; rfl
  have q4 : Q 4 = k := by rw [← hQ]; rfl
  have hV : kn_row X 75 Q = vm X Q 0 (X 76) := by
    unfold vm
    rw [kn_row_self, ← q1, kn_up_id]
  have hb := @vb_2_30 sc (d + 8) X Q M k 0 0 (X 76) x q2 q3 q4 (by decide) (by decide)
  have n0 : (nI 0) = 0 := rfl
  rw [n0] at hb
  generalize hG : vm X Q (0 + 1 + 1) (kn_up (kn_up (X 76) (0) 30) (0 + 1) 10) = G at hb
  have goff : ∀ p, ¬ p = 75 → ¬ p = 76 → G p = X p := by intro p a b; rw [← hG]; unfold vm; rw [kn_row_off a, kn_row_off b]
  have g87 : G 87 = X 87 := goff 87 (by decide) (by decide)
  have g88 : G 88 = X 88 := goff 88 (by decide) (by decide)
  have g96 : G 96 = X 96 := goff 96 (by decide) (by decide)
  have q9 : 0 ≤ (G 88 9).toInt := by rw [g88]; exact hN.1
  generalize hQ2 : kn_up (kn_up (X 87) 17 0) 18 k = Q2
  have r17 : Q2 17 = nI 0 := by rw [← hQ2]; rfl
  have r18 : Q2 18 = k := by rw [← hQ2]; rfl
  have r3 : Q2 3 = X 87 3 := by rw [← hQ2]; rfl
  have hW : kn_row G 87 Q2 = wm G Q2 0 (X 96) := by
    unfold wm
    rw [← g96, kn_row_self, ← r17, kn_up_id]
  have k0 : G 88 (13 + 9 * k.toNatClampNeg + 0) = 2 := by rw [g88]; exact hK
  have k1 : G 88 (13 + 9 * k.toNatClampNeg + 1) = M := by rw [g88]; exact hM
  have hm := @wb_2_cut_2 sc (d + 9) G Q2 M k 0 (X 96) x r18 hkk k0 k1 (by decide)
  have hi : Inv (wm G Q2 (0 + 1 + 1) (kn_up (kn_up (X 96) (0) 30) (0 + 1) 10)) := by
    rw [← hG]
    refine Inv_voice h (by decide) r3 (fun j hj => ?_)
    rcases (by omega : j = 0 ∨ j = 1) with rfl | rfl <;> rfl
  refine ⟨((x + k) * 3), G, wm G Q2 (0 + 1 + 1) (kn_up (kn_up (X 96) (0) 30) (0 + 1) 10), ?_, ?_, hi⟩
  · simp only [x87_0, x87_1, x87_2, x87_5, x87_8, x87_9, x87_10, x87_11, x87_14, x87_17, x87_18, x87_19, x87_22, x87_23, x87_24, x87_27, x87_28, x87_29, x87_32, x87_35, x87_36, x87_37, x87_38, x87_39, x87_42, x59_0, x59_1, x59_2, x59_5, x59_6, x59_7, x59_10, x59_13, x59_14, x59_15, x59_18, x59_21, x59_22, x59_23, x59_26, x59_27, x59_28, x59_29, x59_32, x59_34, x59_35, x59_38, x87_36 (Or.inl rfl) (ka_st_k1 ka_k_1), ka_kk_i, ka_kk_n, ka_cl_i, ka_cl_r, ka_cl_n, or_true, true_or, ka_ne2, ka_ne4, ka_ne5, ka_ne10, not_false_eq_true, not_true_eq_false, if_true, if_false, ka_k_0, ka_k_1, ka_k_2, ka_k_3, ka_k_4, ka_k_5, ka_k_6, ka_k_7, ka_k_8, ka_k_9, ka_k_10, ka_k_11, ka_k_12, ka_k_13, ka_k_14, ka_k_15, ka_k_16, ka_k_17, ka_k_18, ka_k_19, ka_k_20, ka_k_21, ka_k_22, ka_k_23, ka_k_24, ka_k_25, ka_k_26, ka_k_27, ka_k_28, ka_k_29, ka_k_30, ka_k_31, ka_k_32, ka_k_33, ka_k_34, ka_k_35, ka_k_36, ka_k_37, ka_k_38, ka_k_39, ka_k_40, ka_k_41, ka_k_42, ka_k_43, ka_k_44, ka_k_45, ka_k_46, ka_k_47, ka_k_48, ka_k_49, ka_k_50, ka_k_51, ka_k_52, ka_k_53, ka_k_54, ka_k_55, ka_k_56, ka_k_57, ka_k_58, ka_k_59, ka_k_60, ka_k_61, ka_k_62, ka_k_63, ka_k_64, ka_k_65, ka_k_66, ka_k_67, ka_k_68, ka_k_69, ka_k_70, ka_k_71, ka_k_72, ka_k_73, ka_k_74, ka_k_75, ka_k_76, ka_k_77, ka_k_78, ka_k_79, ka_k_80, ka_k_81, ka_k_82, ka_k_83, ka_k_84, ka_k_85, ka_k_86, ka_k_87, ka_k_88, ka_k_89, ka_k_90, ka_k_91, ka_k_92, ka_k_93, ka_k_94, ka_k_95, ka_k_96, ka_k_97, ka_k_98, ka_k_99, ka_k_100, ka_rf_0_0, ka_rf_0_1, ka_rf_0_2, ka_rf_0_4, ka_rf_0_5, ka_rf_0_6, ka_rf_0_7, ka_rf_0_8, ka_rf_0_9, ka_rf_61_0, ka_rf_61_2, ka_rf_67_0, ka_rf_67_1, ka_rf_67_2, ka_rf_75_0, ka_rf_87_0, ka_rf_87_1, ka_rf_87_2, ka_rf_87_4, ka_rf_87_11, ka_rf_87_12, ka_rf_87_14, ka_rf_87_15, ka_rf_87_16, ka_rf_87_19, ka_rf_87_20, ka_rf_87_21, ka_rf_87_22, ka_ln_63, ka_ln_64, ka_ln_65, ka_ln_68, ka_ln_69, ka_ln_70, ka_ln_76, ka_ln_77, ka_ln_78, ka_ln_80, ka_ln_82, ka_ln_84, ka_ln_86, ka_ln_88, ka_ln_89, ka_ln_90, ka_ln_91, ka_ln_92, ka_ln_93, ka_ln_94, ka_ln_95, ka_ln_96, ka_ln_97, ka_ln_98, ka_ln_99, ka_ln_100, ka_st_r0 ka_k_1, ka_st_k1 ka_k_1, ka_st_l1 ka_k_1, ka_st_ra ka_k_1 hk8, ka_st_kn ka_k_1 hk8, sp_100, sp_106, ka_b_0, and_self, e1, c1, ka_t_0, ka_t_3, t0, la1, la2, hin, kn_put_r, kn_row_at, kn_row_row, oK, x0, x1, hQ, hV, sp_60_2_0 q2, hb]
  · simp only [x189_0, x189_1, x189_2, x189_5, x189_8, x189_9, x189_10, x189_11, x189_14, x189_17, x189_20, x189_21, x189_22, x189_25, x189_26, x189_27, x189_28, x189_31, x189_32, x189_33, x189_36, x189_37, x189_40, x189_42, x189_43, x189_46, x189_47, x189_49, x189_50, x189_53, x189_56, x189_57, x189_58, x189_61, x189_62, x189_64, x189_65, x189_68, x189_71, x189_72, x189_73, x189_76, x189_77, x189_79, x189_80, x189_83, x189_86, x189_87, x189_89, x189_90, x189_93, ka_kk_i, ka_kk_n, ka_cl_i, ka_cl_r, ka_cl_n, or_true, true_or, ka_ne2, ka_ne4, ka_ne5, ka_ne10, not_false_eq_true, not_true_eq_false, if_true, if_false, ka_k_0, ka_k_1, ka_k_2, ka_k_3, ka_k_4, ka_k_5, ka_k_6, ka_k_7, ka_k_8, ka_k_9, ka_k_10, ka_k_11, ka_k_12, ka_k_13, ka_k_14, ka_k_15, ka_k_16, ka_k_17, ka_k_18, ka_k_19, ka_k_20, ka_k_21, ka_k_22, ka_k_23, ka_k_24, ka_k_25, ka_k_26, ka_k_27, ka_k_28, ka_k_29, ka_k_30, ka_k_31, ka_k_32, ka_k_33, ka_k_34, ka_k_35, ka_k_36, ka_k_37, ka_k_38, ka_k_39, ka_k_40, ka_k_41, ka_k_42, ka_k_43, ka_k_44, ka_k_45, ka_k_46, ka_k_47, ka_k_48, ka_k_49, ka_k_50, ka_k_51, ka_k_52, ka_k_53, ka_k_54, ka_k_55, ka_k_56, ka_k_57, ka_k_58, ka_k_59, ka_k_60, ka_k_61, ka_k_62, ka_k_63, ka_k_64, ka_k_65, ka_k_66, ka_k_67, ka_k_68, ka_k_69, ka_k_70, ka_k_71, ka_k_72, ka_k_73, ka_k_74, ka_k_75, ka_k_76, ka_k_77, ka_k_78, ka_k_79, ka_k_80, ka_k_81, ka_k_82, ka_k_83, ka_k_84, ka_k_85, ka_k_86, ka_k_87, ka_k_88, ka_k_89, ka_k_90, ka_k_91, ka_k_92, ka_k_93, ka_k_94, ka_k_95, ka_k_96, ka_k_97, ka_k_98, ka_k_99, ka_k_100, ka_rf_0_0, ka_rf_0_1, ka_rf_0_2, ka_rf_0_4, ka_rf_0_5, ka_rf_0_6, ka_rf_0_7, ka_rf_0_8, ka_rf_0_9, ka_rf_61_0, ka_rf_61_2, ka_rf_67_0, ka_rf_67_1, ka_rf_67_2, ka_rf_75_0, ka_rf_87_0, ka_rf_87_1, ka_rf_87_2, ka_rf_87_4, ka_rf_87_11, ka_rf_87_12, ka_rf_87_14, ka_rf_87_15, ka_rf_87_16, ka_rf_87_19, ka_rf_87_20, ka_rf_87_21, ka_rf_87_22, ka_ln_63, ka_ln_64, ka_ln_65, ka_ln_68, ka_ln_69, ka_ln_70, ka_ln_76, ka_ln_77, ka_ln_78, ka_ln_80, ka_ln_82, ka_ln_84, ka_ln_86, ka_ln_88, ka_ln_89, ka_ln_90, ka_ln_91, ka_ln_92, ka_ln_93, ka_ln_94, ka_ln_95, ka_ln_96, ka_ln_97, ka_ln_98, ka_ln_99, ka_ln_100, sp_100, sp_106, sp_109, sp_110, sp_111, sp_112, sp_113, sp_117, sp_191, ka_i64, ka_b_0, ka_one0, and_self, ka_lit64_69, ka_lit64_5, ka_lit64_99, ka_lit64_8, ka_lit64_48, ka_lit64_57, ka_lit64_9, ka_lit64_6, ka_lit64_3, ka_lit64_60, ka_lit64_20, ka_lit64_12, ka_lit64_4, ka_lit64_400, ka_lit64_999, ka_lit64_m1, ka_lit64_1, ka_l0, ka_t_0, ka_t_1, ka_t_3, ka_t_4, ka_t_6, ka_t_7, ka_t_9, ka_t_5, ka_t_8, ka_t_60, ka_t_69, ka_t_99, ka_t_400, ka_t_999, ka_t_m1, ka_lit64_69, ka_lit64_5, ka_lit64_99, ka_lit64_8, ka_lit64_48, ka_lit64_57, ka_lit64_9, ka_lit64_6, ka_lit64_3, ka_lit64_60, ka_lit64_20, ka_lit64_12, ka_lit64_4, ka_lit64_400, ka_lit64_999, ka_lit64_m1, ka_lit64_1, ka_i64, ka_l0, sp_121' q9, g88, g87, c1, t0, la1, la2, z0, z1, z2, kn_put_r, kn_row_at, kn_row_row, hQ2, hW, sp_184w r18 hkk k0, hm]
theorem op_voice_2_1 {k x : Int32} (h : Inv X) (c1 : 0 ≤ k.toInt ∧ k.toInt < (X 88 9).toInt) (hK : md_kd (X 88) k.toNatClampNeg 0 = 2) : op sc (d + 12) 87 189 [.ref 0, .int k, .int 1, .int x] [.ref 87, .int k, .int 1, .int x, ka_nv] X := by
  have e1 : X 1 1 = X 88 9 := h.1.1.1.1
  have hD := h.1.2.1
  have hN := hD.1
  have hk8 : k.toNatClampNeg < 8 := by rw [ka_nc]; omega
  have hk : k.toNatClampNeg < (X 88 9).toInt.toNat := by rw [ka_nc]; omega
  have hin : ka_in k 8 := ka_inI.mpr (by omega)
  have hkk : 0 ≤ k.toInt ∧ k.toInt < 8 := by omega
  have hx : ∀ f, f < 9 → X (1 + 12 + k.toNatClampNeg) f = md_kd (X 88) k.toNatClampNeg f := h.1.1.2.2.1 _ hk
  have hok := hD.2.1 _ hk
  have t1 : ((1 : Int32).toInt) = 1 := rfl
  have la1 : ((0 : Int) ≤ 1) = True := by decide
  have la2 : ((1 : Int) ≤ 3) = True := by decide
  have z0 : ((1 : Int32) = 0) = False := by decide
  have z1 : ((1 : Int32) = 1) = True := by decide
  have z2 : ((1 : Int32) = 2) = False := by decide
  generalize hM : md_kd (X 88) k.toNatClampNeg 1 = M at *
  have x0 : X (1 + 12 + k.toNatClampNeg) 0 = 2 := (hx 0 (by decide)).trans hK
  have x1 : X (1 + 12 + k.toNatClampNeg) 1 = M := (hx 1 (by decide)).trans hM
  have oK : ∀ q : Nat → Int32, kn_row X 75 q (1 + 12 + k.toNatClampNeg) = X (1 + 12 + k.toNatClampNeg) := fun q => kn_row_off (by omega)
  generalize hQ : kn_up (kn_up (kn_up (kn_up (X 75) 1 0) 2 2) 3 M) 4 k = Q
  have q1 : Q 1 = nI 0 := by rw [← hQ]; rfl
  have q2 : Q 2 = 2 := by rw [← hQ]; rfl
  have q3 : Q 3 = M := by rw [← hQ]; rfl
  have q4 : Q 4 = k := by rw [← hQ]; rfl
  have hV : kn_row X 75 Q = vm X Q 0 (X 76) := by
    unfold vm
    rw [kn_row_self, ← q1, kn_up_id]
  have hb := @vb_2_11 sc (d + 7) X Q M k 0 0 (X 76) x q2 q3 q4 (by decide) (by decide)
  have n0 : (nI 0) = 0 := rfl
  rw [n0] at hb
  generalize hG : vm X Q (0 + 1 + 1 + 1) (kn_up (kn_up (kn_up (X 76) (0) 11) (0 + 1) 30) (0 + 1 + 1) 10) = G at hb
  have goff : ∀ p, ¬ p = 75 → ¬ p = 76 → G p = X p := by intro p a b; rw [← hG]; unfold vm; rw [kn_row_off a, kn_row_off b]
  have g87 : G 87 = X 87 := goff 87 (by decide) (by decide)
  have g88 : G 88 = X 88 := goff 88 (by decide) (by decide)
  have g96 : G 96 = X 96 := goff 96 (by decide) (by decide)
  have q9 : 0 ≤ (G 88 9).toInt := by rw [g88]; exact hN.1
  generalize hQ2 : kn_up (kn_up (X 87) 17 0) 18 k = Q2
  have r17 : Q2 17 = nI 0 := by rw [← hQ2]; rfl
  have r18 : Q2 18 = k := by rw [← hQ2]; rfl
  have r3 : Q2 3 = X 87 3 := by rw [← hQ2]; rfl
  have hW : kn_row G 87 Q2 = wm G Q2 0 (X 96) := by
    unfold wm
    rw [← g96, kn_row_self, ← r17, kn_up_id]
  have k0 : G 88 (13 + 9 * k.toNatClampNeg + 0) = 2 := by rw [g88]; exact hK
  have k1 : G 88 (13 + 9 * k.toNatClampNeg + 1) = M := by rw [g88]; exact hM
  have hm := @wb_2_rings_2 sc (d + 7) G Q2 M k 0 (X 96) x r18 hkk k0 k1 (by decide)
  have hi : Inv (wm G Q2 (0 + 1 + 1 + 1) (kn_up (kn_up (kn_up (X 96) (0) 11) (0 + 1) 30) (0 + 1 + 1) 10)) := by
    rw [← hG]
    refine Inv_voice h (by decide) r3 (fun j hj => ?_)
    rcases (by omega : j = 0 ∨ j = 1 ∨ j = 2) with rfl | rfl | rfl <;> rfl
  refine ⟨(((x + k) * 3) * 2), G, wm G Q2 (0 + 1 + 1 + 1) (kn_up (kn_up (kn_up (X 96) (0) 11) (0 + 1) 30) (0 + 1 + 1) 10), ?_, ?_, hi⟩
  · simp only [x87_0, x87_1, x87_2, x87_5, x87_8, x87_9, x87_10, x87_11, x87_14, x87_17, x87_18, x87_19, x87_22, x87_23, x87_24, x87_27, x87_28, x87_29, x87_32, x87_35, x87_36, x87_37, x87_38, x87_39, x87_42, x59_0, x59_1, x59_2, x59_5, x59_6, x59_7, x59_10, x59_13, x59_14, x59_15, x59_18, x59_21, x59_22, x59_23, x59_26, x59_27, x59_28, x59_29, x59_32, x59_34, x59_35, x59_38, x87_36 (Or.inl rfl) (ka_st_k1 ka_k_1), ka_kk_i, ka_kk_n, ka_cl_i, ka_cl_r, ka_cl_n, or_true, true_or, ka_ne2, ka_ne4, ka_ne5, ka_ne10, not_false_eq_true, not_true_eq_false, if_true, if_false, ka_k_0, ka_k_1, ka_k_2, ka_k_3, ka_k_4, ka_k_5, ka_k_6, ka_k_7, ka_k_8, ka_k_9, ka_k_10, ka_k_11, ka_k_12, ka_k_13, ka_k_14, ka_k_15, ka_k_16, ka_k_17, ka_k_18, ka_k_19, ka_k_20, ka_k_21, ka_k_22, ka_k_23, ka_k_24, ka_k_25, ka_k_26, ka_k_27, ka_k_28, ka_k_29, ka_k_30, ka_k_31, ka_k_32, ka_k_33, ka_k_34, ka_k_35, ka_k_36, ka_k_37, ka_k_38, ka_k_39, ka_k_40, ka_k_41, ka_k_42, ka_k_43, ka_k_44, ka_k_45, ka_k_46, ka_k_47, ka_k_48, ka_k_49, ka_k_50, ka_k_51, ka_k_52, ka_k_53, ka_k_54, ka_k_55, ka_k_56, ka_k_57, ka_k_58, ka_k_59, ka_k_60, ka_k_61, ka_k_62, ka_k_63, ka_k_64, ka_k_65, ka_k_66, ka_k_67, ka_k_68, ka_k_69, ka_k_70, ka_k_71, ka_k_72, ka_k_73, ka_k_74, ka_k_75, ka_k_76, ka_k_77, ka_k_78, ka_k_79, ka_k_80, ka_k_81, ka_k_82, ka_k_83, ka_k_84, ka_k_85, ka_k_86, ka_k_87, ka_k_88, ka_k_89, ka_k_90, ka_k_91, ka_k_92, ka_k_93, ka_k_94, ka_k_95, ka_k_96, ka_k_97, ka_k_98, ka_k_99, ka_k_100, ka_rf_0_0, ka_rf_0_1, ka_rf_0_2, ka_rf_0_4, ka_rf_0_5, ka_rf_0_6, ka_rf_0_7, ka_rf_0_8, ka_rf_0_9, ka_rf_61_0, ka_rf_61_2, ka_rf_67_0, ka_rf_67_1, ka_rf_67_2, ka_rf_75_0, ka_rf_87_0, ka_rf_87_1, ka_rf_87_2, ka_rf_87_4, ka_rf_87_11, ka_rf_87_12, ka_rf_87_14, ka_rf_87_15, ka_rf_87_16, ka_rf_87_19, ka_rf_87_20, ka_rf_87_21, ka_rf_87_22, ka_ln_63, ka_ln_64, ka_ln_65, ka_ln_68, ka_ln_69, ka_ln_70, ka_ln_76, ka_ln_77, ka_ln_78, ka_ln_80, ka_ln_82, ka_ln_84, ka_ln_86, ka_ln_88, ka_ln_89, ka_ln_90, ka_ln_91, ka_ln_92, ka_ln_93, ka_ln_94, ka_ln_95, ka_ln_96, ka_ln_97, ka_ln_98, ka_ln_99, ka_ln_100, ka_st_r0 ka_k_1, ka_st_k1 ka_k_1, ka_st_l1 ka_k_1, ka_st_ra ka_k_1 hk8, ka_st_kn ka_k_1 hk8, sp_100, sp_106, ka_b_0, and_self, e1, c1, ka_t_0, ka_t_3, t1, la1, la2, hin, kn_put_r, kn_row_at, kn_row_row, oK, x0, x1, hQ, hV, sp_60_2_1 q2, hb]
  · simp only [x189_0, x189_1, x189_2, x189_5, x189_8, x189_9, x189_10, x189_11, x189_14, x189_17, x189_20, x189_21, x189_22, x189_25, x189_26, x189_27, x189_28, x189_31, x189_32, x189_33, x189_36, x189_37, x189_40, x189_42, x189_43, x189_46, x189_47, x189_49, x189_50, x189_53, x189_56, x189_57, x189_58, x189_61, x189_62, x189_64, x189_65, x189_68, x189_71, x189_72, x189_73, x189_76, x189_77, x189_79, x189_80, x189_83, x189_86, x189_87, x189_89, x189_90, x189_93, ka_kk_i, ka_kk_n, ka_cl_i, ka_cl_r, ka_cl_n, or_true, true_or, ka_ne2, ka_ne4, ka_ne5, ka_ne10, not_false_eq_true, not_true_eq_false, if_true, if_false, ka_k_0, ka_k_1, ka_k_2, ka_k_3, ka_k_4, ka_k_5, ka_k_6, ka_k_7, ka_k_8, ka_k_9, ka_k_10, ka_k_11, ka_k_12, ka_k_13, ka_k_14, ka_k_15, ka_k_16, ka_k_17, ka_k_18, ka_k_19, ka_k_20, ka_k_21, ka_k_22, ka_k_23, ka_k_24, ka_k_25, ka_k_26, ka_k_27, ka_k_28, ka_k_29, ka_k_30, ka_k_31, ka_k_32, ka_k_33, ka_k_34, ka_k_35, ka_k_36, ka_k_37, ka_k_38, ka_k_39, ka_k_40, ka_k_41, ka_k_42, ka_k_43, ka_k_44, ka_k_45, ka_k_46, ka_k_47, ka_k_48, ka_k_49, ka_k_50, ka_k_51, ka_k_52, ka_k_53, ka_k_54, ka_k_55, ka_k_56, ka_k_57, ka_k_58, ka_k_59, ka_k_60, ka_k_61, ka_k_62, ka_k_63, ka_k_64, ka_k_65, ka_k_66, ka_k_67, ka_k_68, ka_k_69, ka_k_70, ka_k_71, ka_k_72, ka_k_73, ka_k_74, ka_k_75, ka_k_76, ka_k_77, ka_k_78, ka_k_79, ka_k_80, ka_k_81, ka_k_82, ka_k_83, ka_k_84, ka_k_85, ka_k_86, ka_k_87, ka_k_88, ka_k_89, ka_k_90, ka_k_91, ka_k_92, ka_k_93, ka_k_94, ka_k_95, ka_k_96, ka_k_97, ka_k_98, ka_k_99, ka_k_100, ka_rf_0_0, ka_rf_0_1, ka_rf_0_2, ka_rf_0_4, ka_rf_0_5, ka_rf_0_6, ka_rf_0_7, ka_rf_0_8, ka_rf_0_9, ka_rf_61_0, ka_rf_61_2, ka_rf_67_0, ka_rf_67_1, ka_rf_67_2, ka_rf_75_0, ka_rf_87_0, ka_rf_87_1, ka_rf_87_2, ka_rf_87_4, ka_rf_87_11, ka_rf_87_12, ka_rf_87_14, ka_rf_87_15, ka_rf_87_16, ka_rf_87_19, ka_rf_87_20, ka_rf_87_21, ka_rf_87_22, ka_ln_63, ka_ln_64, ka_ln_65, ka_ln_68, ka_ln_69, ka_ln_70, ka_ln_76, ka_ln_77, ka_ln_78, ka_ln_80, ka_ln_82, ka_ln_84, ka_ln_86, ka_ln_88, ka_ln_89, ka_ln_90, ka_ln_91, ka_ln_92, ka_ln_93, ka_ln_94, ka_ln_95, ka_ln_96, ka_ln_97, ka_ln_98, ka_ln_99, ka_ln_100, sp_100, sp_106, sp_109, sp_110, sp_111, sp_112, sp_113, sp_117, sp_191, ka_i64, ka_b_0, ka_one0, and_self, ka_lit64_69, ka_lit64_5, ka_lit64_99, ka_lit64_8, ka_lit64_48, ka_lit64_57, ka_lit64_9, ka_lit64_6, ka_lit64_3, ka_lit64_60, ka_lit64_20, ka_lit64_12, ka_lit64_4, ka_lit64_400, ka_lit64_999, ka_lit64_m1, ka_lit64_1, ka_l0, ka_t_0, ka_t_1, ka_t_3, ka_t_4, ka_t_6, ka_t_7, ka_t_9, ka_t_5, ka_t_8, ka_t_60, ka_t_69, ka_t_99, ka_t_400, ka_t_999, ka_t_m1, ka_lit64_69, ka_lit64_5, ka_lit64_99, ka_lit64_8, ka_lit64_48, ka_lit64_57, ka_lit64_9, ka_lit64_6, ka_lit64_3, ka_lit64_60, ka_lit64_20, ka_lit64_12, ka_lit64_4, ka_lit64_400, ka_lit64_999, ka_lit64_m1, ka_lit64_1, ka_i64, ka_l0, sp_121' q9, g88, g87, c1, t1, la1, la2, z0, z1, z2, kn_put_r, kn_row_at, kn_row_row, hQ2, hW, sp_184w r18 hkk k0, hm]
theorem op_voice_2_2 {k x : Int32} (h : Inv X) (c1 : 0 ≤ k.toInt ∧ k.toInt < (X 88 9).toInt) (hK : md_kd (X 88) k.toNatClampNeg 0 = 2) : op sc (d + 12) 87 189 [.ref 0, .int k, .int 2, .int x] [.ref 87, .int k, .int 2, .int x, ka_nv] X := by
  have e1 : X 1 1 = X 88 9 := h.1.1.1.1
  have hD := h.1.2.1
  have hN := hD.1
  have hk8 : k.toNatClampNeg < 8 := by rw [ka_nc]; omega
  have hk : k.toNatClampNeg < (X 88 9).toInt.toNat := by rw [ka_nc]; omega
  have hin : ka_in k 8 := ka_inI.mpr (by omega)
  have hkk : 0 ≤ k.toInt ∧ k.toInt < 8 := by omega
  have hx : ∀ f, f < 9 → X (1 + 12 + k.toNatClampNeg) f = md_kd (X 88) k.toNatClampNeg f := h.1.1.2.2.1 _ hk
  have hok := hD.2.1 _ hk
  have t2 : ((2 : Int32).toInt) = 2 := rfl
  have la1 : ((0 : Int) ≤ 2) = True := by decide
  have la2 : ((2 : Int) ≤ 3) = True := by decide
  have z0 : ((2 : Int32) = 0) = False := by decide
  have z1 : ((2 : Int32) = 1) = False := by decide
  have z2 : ((2 : Int32) = 2) = True := by decide
  generalize hM : md_kd (X 88) k.toNatClampNeg 1 = M at *
  have x0 : X (1 + 12 + k.toNatClampNeg) 0 = 2 := (hx 0 (by decide)).trans hK
  have x1 : X (1 + 12 + k.toNatClampNeg) 1 = M := (hx 1 (by decide)).trans hM
  have oK : ∀ q : Nat → Int32, kn_row X 75 q (1 + 12 + k.toNatClampNeg) = X (1 + 12 + k.toNatClampNeg) := fun q => kn_row_off (by omega)
  generalize hQ : kn_up (kn_up (kn_up (kn_up (X 75) 1 0) 2 2) 3 M) 4 k = Q
  have q1 : Q 1 = nI 0 := by rw [← hQ]; rfl
  have q2 : Q 2 = 2 := by rw [← hQ]; rfl
  have q3 : Q 3 = M := by rw [← hQ]; rfl
  have q4 : Q 4 = k := by rw [← hQ]; rfl
  have hV : kn_row X 75 Q = vm X Q 0 (X 76) := by
    unfold vm
    rw [kn_row_self, ← q1, kn_up_id]
  have hb := @vb_2_12 sc (d + 9) X Q M k 0 0 (X 76) x q2 q3 q4 (by decide) (by decide)
  have n0 : (nI 0) = 0 := rfl
  rw [n0] at hb
  generalize hG : vm X Q (0 + 1) (kn_up (X 76) (0) 12) = G at hb
  have goff : ∀ p, ¬ p = 75 → ¬ p = 76 → G p = X p := by intro p a b; rw [← hG]; unfold vm; rw [kn_row_off a, kn_row_off b]
  have g87 : G 87 = X 87 := goff 87 (by decide) (by decide)
  have g88 : G 88 = X 88 := goff 88 (by decide) (by decide)
  have g96 : G 96 = X 96 := goff 96 (by decide) (by decide)
  have q9 : 0 ≤ (G 88 9).toInt := by rw [g88]; exact hN.1
  generalize hQ2 : kn_up (kn_up (X 87) 17 0) 18 k = Q2
  have r17 : Q2 17 = nI 0 := by rw [← hQ2]; rfl
  have r18 : Q2 18 = k := by rw [← hQ2]; rfl
  have r3 : Q2 3 = X 87 3 := by rw [← hQ2]; rfl
  have hW : kn_row G 87 Q2 = wm G Q2 0 (X 96) := by
    unfold wm
    rw [← g96, kn_row_self, ← r17, kn_up_id]
  have k0 : G 88 (13 + 9 * k.toNatClampNeg + 0) = 2 := by rw [g88]; exact hK
  have k1 : G 88 (13 + 9 * k.toNatClampNeg + 1) = M := by rw [g88]; exact hM
  have hm := @wb_2_grind_2 sc (d + 9) G Q2 M k 0 (X 96) x r18 hkk k0 k1 (by decide)
  have hi : Inv (wm G Q2 (0 + 1) (kn_up (X 96) (0) 12)) := by
    rw [← hG]
    refine Inv_voice h (by decide) r3 (fun j hj => ?_)
    rcases (by omega : j = 0) with rfl <;> rfl
  refine ⟨(x - M), G, wm G Q2 (0 + 1) (kn_up (X 96) (0) 12), ?_, ?_, hi⟩
  · simp only [x87_0, x87_1, x87_2, x87_5, x87_8, x87_9, x87_10, x87_11, x87_14, x87_17, x87_18, x87_19, x87_22, x87_23, x87_24, x87_27, x87_28, x87_29, x87_32, x87_35, x87_36, x87_37, x87_38, x87_39, x87_42, x59_0, x59_1, x59_2, x59_5, x59_6, x59_7, x59_10, x59_13, x59_14, x59_15, x59_18, x59_21, x59_22, x59_23, x59_26, x59_27, x59_28, x59_29, x59_32, x59_34, x59_35, x59_38, x87_36 (Or.inl rfl) (ka_st_k1 ka_k_1), ka_kk_i, ka_kk_n, ka_cl_i, ka_cl_r, ka_cl_n, or_true, true_or, ka_ne2, ka_ne4, ka_ne5, ka_ne10, not_false_eq_true, not_true_eq_false, if_true, if_false, ka_k_0, ka_k_1, ka_k_2, ka_k_3, ka_k_4, ka_k_5, ka_k_6, ka_k_7, ka_k_8, ka_k_9, ka_k_10, ka_k_11, ka_k_12, ka_k_13, ka_k_14, ka_k_15, ka_k_16, ka_k_17, ka_k_18, ka_k_19, ka_k_20, ka_k_21, ka_k_22, ka_k_23, ka_k_24, ka_k_25, ka_k_26, ka_k_27, ka_k_28, ka_k_29, ka_k_30, ka_k_31, ka_k_32, ka_k_33, ka_k_34, ka_k_35, ka_k_36, ka_k_37, ka_k_38, ka_k_39, ka_k_40, ka_k_41, ka_k_42, ka_k_43, ka_k_44, ka_k_45, ka_k_46, ka_k_47, ka_k_48, ka_k_49, ka_k_50, ka_k_51, ka_k_52, ka_k_53, ka_k_54, ka_k_55, ka_k_56, ka_k_57, ka_k_58, ka_k_59, ka_k_60, ka_k_61, ka_k_62, ka_k_63, ka_k_64, ka_k_65, ka_k_66, ka_k_67, ka_k_68, ka_k_69, ka_k_70, ka_k_71, ka_k_72, ka_k_73, ka_k_74, ka_k_75, ka_k_76, ka_k_77, ka_k_78, ka_k_79, ka_k_80, ka_k_81, ka_k_82, ka_k_83, ka_k_84, ka_k_85, ka_k_86, ka_k_87, ka_k_88, ka_k_89, ka_k_90, ka_k_91, ka_k_92, ka_k_93, ka_k_94, ka_k_95, ka_k_96, ka_k_97, ka_k_98, ka_k_99, ka_k_100, ka_rf_0_0, ka_rf_0_1, ka_rf_0_2, ka_rf_0_4, ka_rf_0_5, ka_rf_0_6, ka_rf_0_7, ka_rf_0_8, ka_rf_0_9, ka_rf_61_0, ka_rf_61_2, ka_rf_67_0, ka_rf_67_1, ka_rf_67_2, ka_rf_75_0, ka_rf_87_0, ka_rf_87_1, ka_rf_87_2, ka_rf_87_4, ka_rf_87_11, ka_rf_87_12, ka_rf_87_14, ka_rf_87_15, ka_rf_87_16, ka_rf_87_19, ka_rf_87_20, ka_rf_87_21, ka_rf_87_22, ka_ln_63, ka_ln_64, ka_ln_65, ka_ln_68, ka_ln_69, ka_ln_70, ka_ln_76, ka_ln_77, ka_ln_78, ka_ln_80, ka_ln_82, ka_ln_84, ka_ln_86, ka_ln_88, ka_ln_89, ka_ln_90, ka_ln_91, ka_ln_92, ka_ln_93, ka_ln_94, ka_ln_95, ka_ln_96, ka_ln_97, ka_ln_98, ka_ln_99, ka_ln_100, ka_st_r0 ka_k_1, ka_st_k1 ka_k_1, ka_st_l1 ka_k_1, ka_st_ra ka_k_1 hk8, ka_st_kn ka_k_1 hk8, sp_100, sp_106, ka_b_0, and_self, e1, c1, ka_t_0, ka_t_3, t2, la1, la2, hin, kn_put_r, kn_row_at, kn_row_row, oK, x0, x1, hQ, hV, sp_60_2_2 q2, hb]
  · simp only [x189_0, x189_1, x189_2, x189_5, x189_8, x189_9, x189_10, x189_11, x189_14, x189_17, x189_20, x189_21, x189_22, x189_25, x189_26, x189_27, x189_28, x189_31, x189_32, x189_33, x189_36, x189_37, x189_40, x189_42, x189_43, x189_46, x189_47, x189_49, x189_50, x189_53, x189_56, x189_57, x189_58, x189_61, x189_62, x189_64, x189_65, x189_68, x189_71, x189_72, x189_73, x189_76, x189_77, x189_79, x189_80, x189_83, x189_86, x189_87, x189_89, x189_90, x189_93, ka_kk_i, ka_kk_n, ka_cl_i, ka_cl_r, ka_cl_n, or_true, true_or, ka_ne2, ka_ne4, ka_ne5, ka_ne10, not_false_eq_true, not_true_eq_false, if_true, if_false, ka_k_0, ka_k_1, ka_k_2, ka_k_3, ka_k_4, ka_k_5, ka_k_6, ka_k_7, ka_k_8, ka_k_9, ka_k_10, ka_k_11, ka_k_12, ka_k_13, ka_k_14, ka_k_15, ka_k_16, ka_k_17, ka_k_18, ka_k_19, ka_k_20, ka_k_21, ka_k_22, ka_k_23, ka_k_24, ka_k_25, ka_k_26, ka_k_27, ka_k_28, ka_k_29, ka_k_30, ka_k_31, ka_k_32, ka_k_33, ka_k_34, ka_k_35, ka_k_36, ka_k_37, ka_k_38, ka_k_39, ka_k_40, ka_k_41, ka_k_42, ka_k_43, ka_k_44, ka_k_45, ka_k_46, ka_k_47, ka_k_48, ka_k_49, ka_k_50, ka_k_51, ka_k_52, ka_k_53, ka_k_54, ka_k_55, ka_k_56, ka_k_57, ka_k_58, ka_k_59, ka_k_60, ka_k_61, ka_k_62, ka_k_63, ka_k_64, ka_k_65, ka_k_66, ka_k_67, ka_k_68, ka_k_69, ka_k_70, ka_k_71, ka_k_72, ka_k_73, ka_k_74, ka_k_75, ka_k_76, ka_k_77, ka_k_78, ka_k_79, ka_k_80, ka_k_81, ka_k_82, ka_k_83, ka_k_84, ka_k_85, ka_k_86, ka_k_87, ka_k_88, ka_k_89, ka_k_90, ka_k_91, ka_k_92, ka_k_93, ka_k_94, ka_k_95, ka_k_96, ka_k_97, ka_k_98, ka_k_99, ka_k_100, ka_rf_0_0, ka_rf_0_1, ka_rf_0_2, ka_rf_0_4, ka_rf_0_5, ka_rf_0_6, ka_rf_0_7, ka_rf_0_8, ka_rf_0_9, ka_rf_61_0, ka_rf_61_2, ka_rf_67_0, ka_rf_67_1, ka_rf_67_2, ka_rf_75_0, ka_rf_87_0, ka_rf_87_1, ka_rf_87_2, ka_rf_87_4, ka_rf_87_11, ka_rf_87_12, ka_rf_87_14, ka_rf_87_15, ka_rf_87_16, ka_rf_87_19, ka_rf_87_20, ka_rf_87_21, ka_rf_87_22, ka_ln_63, ka_ln_64, ka_ln_65, ka_ln_68, ka_ln_69, ka_ln_70, ka_ln_76, ka_ln_77, ka_ln_78, ka_ln_80, ka_ln_82, ka_ln_84, ka_ln_86, ka_ln_88, ka_ln_89, ka_ln_90, ka_ln_91, ka_ln_92, ka_ln_93, ka_ln_94, ka_ln_95, ka_ln_96, ka_ln_97, ka_ln_98, ka_ln_99, ka_ln_100, sp_100, sp_106, sp_109, sp_110, sp_111, sp_112, sp_113, sp_117, sp_191, ka_i64, ka_b_0, ka_one0, and_self, ka_lit64_69, ka_lit64_5, ka_lit64_99, ka_lit64_8, ka_lit64_48, ka_lit64_57, ka_lit64_9, ka_lit64_6, ka_lit64_3, ka_lit64_60, ka_lit64_20, ka_lit64_12, ka_lit64_4, ka_lit64_400, ka_lit64_999, ka_lit64_m1, ka_lit64_1, ka_l0, ka_t_0, ka_t_1, ka_t_3, ka_t_4, ka_t_6, ka_t_7, ka_t_9, ka_t_5, ka_t_8, ka_t_60, ka_t_69, ka_t_99, ka_t_400, ka_t_999, ka_t_m1, ka_lit64_69, ka_lit64_5, ka_lit64_99, ka_lit64_8, ka_lit64_48, ka_lit64_57, ka_lit64_9, ka_lit64_6, ka_lit64_3, ka_lit64_60, ka_lit64_20, ka_lit64_12, ka_lit64_4, ka_lit64_400, ka_lit64_999, ka_lit64_m1, ka_lit64_1, ka_i64, ka_l0, sp_121' q9, g88, g87, c1, t2, la1, la2, z0, z1, z2, kn_put_r, kn_row_at, kn_row_row, hQ2, hW, sp_184w r18 hkk k0, hm]
theorem op_voice_2_3 {k x : Int32} (h : Inv X) (c1 : 0 ≤ k.toInt ∧ k.toInt < (X 88 9).toInt) (hK : md_kd (X 88) k.toNatClampNeg 0 = 2) : op sc (d + 12) 87 189 [.ref 0, .int k, .int 3, .int x] [.ref 87, .int k, .int 3, .int x, ka_nv] X := by
  have e1 : X 1 1 = X 88 9 := h.1.1.1.1
  have hD := h.1.2.1
  have hN := hD.1
  have hk8 : k.toNatClampNeg < 8 := by rw [ka_nc]; omega
  have hk : k.toNatClampNeg < (X 88 9).toInt.toNat := by rw [ka_nc]; omega
  have hin : ka_in k 8 := ka_inI.mpr (by omega)
  have hkk : 0 ≤ k.toInt ∧ k.toInt < 8 := by omega
  have hx : ∀ f, f < 9 → X (1 + 12 + k.toNatClampNeg) f = md_kd (X 88) k.toNatClampNeg f := h.1.1.2.2.1 _ hk
  have hok := hD.2.1 _ hk
  have t3 : ((3 : Int32).toInt) = 3 := rfl
  have la1 : ((0 : Int) ≤ 3) = True := by decide
  have la2 : ((3 : Int) ≤ 3) = True := by decide
  have z0 : ((3 : Int32) = 0) = False := by decide
  have z1 : ((3 : Int32) = 1) = False := by decide
  have z2 : ((3 : Int32) = 2) = False := by decide
  generalize hM : md_kd (X 88) k.toNatClampNeg 1 = M at *
  have x0 : X (1 + 12 + k.toNatClampNeg) 0 = 2 := (hx 0 (by decide)).trans hK
  have x1 : X (1 + 12 + k.toNatClampNeg) 1 = M := (hx 1 (by decide)).trans hM
  have oK : ∀ q : Nat → Int32, kn_row X 75 q (1 + 12 + k.toNatClampNeg) = X (1 + 12 + k.toNatClampNeg) := fun q => kn_row_off (by omega)
  generalize hQ : kn_up (kn_up (kn_up (kn_up (X 75) 1 0) 2 2) 3 M) 4 k = Q
  have q1 : Q 1 = nI 0 := by rw [← hQ]; rfl
  have q2 : Q 2 = 2 := by rw [← hQ]; rfl
  have q3 : Q 3 = M := by rw [← hQ]; rfl
  have q4 : Q 4 = k := by rw [← hQ]; rfl
  have hV : kn_row X 75 Q = vm X Q 0 (X 76) := by
    unfold vm
    rw [kn_row_self, ← q1, kn_up_id]
  have hb := @vb_2_13 sc (d + 6) X Q M k 0 0 (X 76) x q2 q3 q4 (by decide) (by decide)
  have n0 : (nI 0) = 0 := rfl
  rw [n0] at hb
  generalize hG : vm X Q (0 + 1 + 1 + 1 + 1 + 1) (kn_up (kn_up (kn_up (kn_up (kn_up (X 76) (0) 13) (0 + 1) 11) (0 + 1 + 1) 30) (0 + 1 + 1 + 1) 10) (0 + 1 + 1 + 1 + 1) 12) = G at hb
  have goff : ∀ p, ¬ p = 75 → ¬ p = 76 → G p = X p := by intro p a b; rw [← hG]; unfold vm; rw [kn_row_off a, kn_row_off b]
  have g87 : G 87 = X 87 := goff 87 (by decide) (by decide)
  have g88 : G 88 = X 88 := goff 88 (by decide) (by decide)
  have g96 : G 96 = X 96 := goff 96 (by decide) (by decide)
  have q9 : 0 ≤ (G 88 9).toInt := by rw [g88]; exact hN.1
  generalize hQ2 : kn_up (kn_up (X 87) 17 0) 18 k = Q2
  have r17 : Q2 17 = nI 0 := by rw [← hQ2]; rfl
  have r18 : Q2 18 = k := by rw [← hQ2]; rfl
  have r3 : Q2 3 = X 87 3 := by rw [← hQ2]; rfl
  have hW : kn_row G 87 Q2 = wm G Q2 0 (X 96) := by
    unfold wm
    rw [← g96, kn_row_self, ← r17, kn_up_id]
  have k0 : G 88 (13 + 9 * k.toNatClampNeg + 0) = 2 := by rw [g88]; exact hK
  have k1 : G 88 (13 + 9 * k.toNatClampNeg + 1) = M := by rw [g88]; exact hM
  have hm := @wb_2_tells_2 sc (d + 5) G Q2 M k 0 (X 96) x r18 hkk k0 k1 (by decide)
  have hi : Inv (wm G Q2 (0 + 1 + 1 + 1 + 1 + 1) (kn_up (kn_up (kn_up (kn_up (kn_up (X 96) (0) 13) (0 + 1) 11) (0 + 1 + 1) 30) (0 + 1 + 1 + 1) 10) (0 + 1 + 1 + 1 + 1) 12)) := by
    rw [← hG]
    refine Inv_voice h (by decide) r3 (fun j hj => ?_)
    rcases (by omega : j = 0 ∨ j = 1 ∨ j = 2 ∨ j = 3 ∨ j = 4) with rfl | rfl | rfl | rfl | rfl <;> rfl
  refine ⟨((((x + k) * 3) * 2) ^^^ (x - M)), G, wm G Q2 (0 + 1 + 1 + 1 + 1 + 1) (kn_up (kn_up (kn_up (kn_up (kn_up (X 96) (0) 13) (0 + 1) 11) (0 + 1 + 1) 30) (0 + 1 + 1 + 1) 10) (0 + 1 + 1 + 1 + 1) 12), ?_, ?_, hi⟩
  · simp only [x87_0, x87_1, x87_2, x87_5, x87_8, x87_9, x87_10, x87_11, x87_14, x87_17, x87_18, x87_19, x87_22, x87_23, x87_24, x87_27, x87_28, x87_29, x87_32, x87_35, x87_36, x87_37, x87_38, x87_39, x87_42, x59_0, x59_1, x59_2, x59_5, x59_6, x59_7, x59_10, x59_13, x59_14, x59_15, x59_18, x59_21, x59_22, x59_23, x59_26, x59_27, x59_28, x59_29, x59_32, x59_34, x59_35, x59_38, x87_36 (Or.inl rfl) (ka_st_k1 ka_k_1), ka_kk_i, ka_kk_n, ka_cl_i, ka_cl_r, ka_cl_n, or_true, true_or, ka_ne2, ka_ne4, ka_ne5, ka_ne10, not_false_eq_true, not_true_eq_false, if_true, if_false, ka_k_0, ka_k_1, ka_k_2, ka_k_3, ka_k_4, ka_k_5, ka_k_6, ka_k_7, ka_k_8, ka_k_9, ka_k_10, ka_k_11, ka_k_12, ka_k_13, ka_k_14, ka_k_15, ka_k_16, ka_k_17, ka_k_18, ka_k_19, ka_k_20, ka_k_21, ka_k_22, ka_k_23, ka_k_24, ka_k_25, ka_k_26, ka_k_27, ka_k_28, ka_k_29, ka_k_30, ka_k_31, ka_k_32, ka_k_33, ka_k_34, ka_k_35, ka_k_36, ka_k_37, ka_k_38, ka_k_39, ka_k_40, ka_k_41, ka_k_42, ka_k_43, ka_k_44, ka_k_45, ka_k_46, ka_k_47, ka_k_48, ka_k_49, ka_k_50, ka_k_51, ka_k_52, ka_k_53, ka_k_54, ka_k_55, ka_k_56, ka_k_57, ka_k_58, ka_k_59, ka_k_60, ka_k_61, ka_k_62, ka_k_63, ka_k_64, ka_k_65, ka_k_66, ka_k_67, ka_k_68, ka_k_69, ka_k_70, ka_k_71, ka_k_72, ka_k_73, ka_k_74, ka_k_75, ka_k_76, ka_k_77, ka_k_78, ka_k_79, ka_k_80, ka_k_81, ka_k_82, ka_k_83, ka_k_84, ka_k_85, ka_k_86, ka_k_87, ka_k_88, ka_k_89, ka_k_90, ka_k_91, ka_k_92, ka_k_93, ka_k_94, ka_k_95, ka_k_96, ka_k_97, ka_k_98, ka_k_99, ka_k_100, ka_rf_0_0, ka_rf_0_1, ka_rf_0_2, ka_rf_0_4, ka_rf_0_5, ka_rf_0_6, ka_rf_0_7, ka_rf_0_8, ka_rf_0_9, ka_rf_61_0, ka_rf_61_2, ka_rf_67_0, ka_rf_67_1, ka_rf_67_2, ka_rf_75_0, ka_rf_87_0, ka_rf_87_1, ka_rf_87_2, ka_rf_87_4, ka_rf_87_11, ka_rf_87_12, ka_rf_87_14, ka_rf_87_15, ka_rf_87_16, ka_rf_87_19, ka_rf_87_20, ka_rf_87_21, ka_rf_87_22, ka_ln_63, ka_ln_64, ka_ln_65, ka_ln_68, ka_ln_69, ka_ln_70, ka_ln_76, ka_ln_77, ka_ln_78, ka_ln_80, ka_ln_82, ka_ln_84, ka_ln_86, ka_ln_88, ka_ln_89, ka_ln_90, ka_ln_91, ka_ln_92, ka_ln_93, ka_ln_94, ka_ln_95, ka_ln_96, ka_ln_97, ka_ln_98, ka_ln_99, ka_ln_100, ka_st_r0 ka_k_1, ka_st_k1 ka_k_1, ka_st_l1 ka_k_1, ka_st_ra ka_k_1 hk8, ka_st_kn ka_k_1 hk8, sp_100, sp_106, ka_b_0, and_self, e1, c1, ka_t_0, ka_t_3, t3, la1, la2, hin, kn_put_r, kn_row_at, kn_row_row, oK, x0, x1, hQ, hV, sp_60_2_3 q2, hb]
  · simp only [x189_0, x189_1, x189_2, x189_5, x189_8, x189_9, x189_10, x189_11, x189_14, x189_17, x189_20, x189_21, x189_22, x189_25, x189_26, x189_27, x189_28, x189_31, x189_32, x189_33, x189_36, x189_37, x189_40, x189_42, x189_43, x189_46, x189_47, x189_49, x189_50, x189_53, x189_56, x189_57, x189_58, x189_61, x189_62, x189_64, x189_65, x189_68, x189_71, x189_72, x189_73, x189_76, x189_77, x189_79, x189_80, x189_83, x189_86, x189_87, x189_89, x189_90, x189_93, ka_kk_i, ka_kk_n, ka_cl_i, ka_cl_r, ka_cl_n, or_true, true_or, ka_ne2, ka_ne4, ka_ne5, ka_ne10, not_false_eq_true, not_true_eq_false, if_true, if_false, ka_k_0, ka_k_1, ka_k_2, ka_k_3, ka_k_4, ka_k_5, ka_k_6, ka_k_7, ka_k_8, ka_k_9, ka_k_10, ka_k_11, ka_k_12, ka_k_13, ka_k_14, ka_k_15, ka_k_16, ka_k_17, ka_k_18, ka_k_19, ka_k_20, ka_k_21, ka_k_22, ka_k_23, ka_k_24, ka_k_25, ka_k_26, ka_k_27, ka_k_28, ka_k_29, ka_k_30, ka_k_31, ka_k_32, ka_k_33, ka_k_34, ka_k_35, ka_k_36, ka_k_37, ka_k_38, ka_k_39, ka_k_40, ka_k_41, ka_k_42, ka_k_43, ka_k_44, ka_k_45, ka_k_46, ka_k_47, ka_k_48, ka_k_49, ka_k_50, ka_k_51, ka_k_52, ka_k_53, ka_k_54, ka_k_55, ka_k_56, ka_k_57, ka_k_58, ka_k_59, ka_k_60, ka_k_61, ka_k_62, ka_k_63, ka_k_64, ka_k_65, ka_k_66, ka_k_67, ka_k_68, ka_k_69, ka_k_70, ka_k_71, ka_k_72, ka_k_73, ka_k_74, ka_k_75, ka_k_76, ka_k_77, ka_k_78, ka_k_79, ka_k_80, ka_k_81, ka_k_82, ka_k_83, ka_k_84, ka_k_85, ka_k_86, ka_k_87, ka_k_88, ka_k_89, ka_k_90, ka_k_91, ka_k_92, ka_k_93, ka_k_94, ka_k_95, ka_k_96, ka_k_97, ka_k_98, ka_k_99, ka_k_100, ka_rf_0_0, ka_rf_0_1, ka_rf_0_2, ka_rf_0_4, ka_rf_0_5, ka_rf_0_6, ka_rf_0_7, ka_rf_0_8, ka_rf_0_9, ka_rf_61_0, ka_rf_61_2, ka_rf_67_0, ka_rf_67_1, ka_rf_67_2, ka_rf_75_0, ka_rf_87_0, ka_rf_87_1, ka_rf_87_2, ka_rf_87_4, ka_rf_87_11, ka_rf_87_12, ka_rf_87_14, ka_rf_87_15, ka_rf_87_16, ka_rf_87_19, ka_rf_87_20, ka_rf_87_21, ka_rf_87_22, ka_ln_63, ka_ln_64, ka_ln_65, ka_ln_68, ka_ln_69, ka_ln_70, ka_ln_76, ka_ln_77, ka_ln_78, ka_ln_80, ka_ln_82, ka_ln_84, ka_ln_86, ka_ln_88, ka_ln_89, ka_ln_90, ka_ln_91, ka_ln_92, ka_ln_93, ka_ln_94, ka_ln_95, ka_ln_96, ka_ln_97, ka_ln_98, ka_ln_99, ka_ln_100, sp_100, sp_106, sp_109, sp_110, sp_111, sp_112, sp_113, sp_117, sp_191, ka_i64, ka_b_0, ka_one0, and_self, ka_lit64_69, ka_lit64_5, ka_lit64_99, ka_lit64_8, ka_lit64_48, ka_lit64_57, ka_lit64_9, ka_lit64_6, ka_lit64_3, ka_lit64_60, ka_lit64_20, ka_lit64_12, ka_lit64_4, ka_lit64_400, ka_lit64_999, ka_lit64_m1, ka_lit64_1, ka_l0, ka_t_0, ka_t_1, ka_t_3, ka_t_4, ka_t_6, ka_t_7, ka_t_9, ka_t_5, ka_t_8, ka_t_60, ka_t_69, ka_t_99, ka_t_400, ka_t_999, ka_t_m1, ka_lit64_69, ka_lit64_5, ka_lit64_99, ka_lit64_8, ka_lit64_48, ka_lit64_57, ka_lit64_9, ka_lit64_6, ka_lit64_3, ka_lit64_60, ka_lit64_20, ka_lit64_12, ka_lit64_4, ka_lit64_400, ka_lit64_999, ka_lit64_m1, ka_lit64_1, ka_i64, ka_l0, sp_121' q9, g88, g87, c1, t3, la1, la2, z0, z1, z2, kn_put_r, kn_row_at, kn_row_row, hQ2, hW, sp_184w r18 hkk k0, hm]
theorem op_voice_3_0 {k x : Int32} (h : Inv X) (c1 : 0 ≤ k.toInt ∧ k.toInt < (X 88 9).toInt) (hK : md_kd (X 88) k.toNatClampNeg 0 = 3) : op sc (d + 12) 87 189 [.ref 0, .int k, .int 0, .int x] [.ref 87, .int k, .int 0, .int x, ka_nv] X := by
  have e1 : X 1 1 = X 88 9 := h.1.1.1.1
  have hD := h.1.2.1
  have hN := hD.1
  have hk8 : k.toNatClampNeg < 8 := by rw [ka_nc]; omega
  have hk : k.toNatClampNeg < (X 88 9).toInt.toNat := by rw [ka_nc]; omega
  have hin : ka_in k 8 := ka_inI.mpr (by omega)
  have hkk : 0 ≤ k.toInt ∧ k.toInt < 8 := by omega
  have hx : ∀ f, f < 9 → X (1 + 12 + k.toNatClampNeg) f = md_kd (X 88) k.toNatClampNeg f := h.1.1.2.2.1 _ hk
  have hok := hD.2.1 _ hk
  have t0 : ((0 : Int32).toInt) = 0 := rfl
  have la1 : ((0 : Int) ≤ 0) = True := by decide
  have la2 : ((0 : Int) ≤ 3) = True := by decide
  have z0 : ((0 : Int32) = 0) = True := by decide
  have z1 : ((0 : Int32) = 1) = False := by decide
  have z2 : ((0 : Int32) = 2) = False := by decide
  generalize hM : md_kd (X 88) k.toNatClampNeg 1 = M at *
  have x0 : X (1 + 12 + k.toNatClampNeg) 0 = 3 := (hx 0 (by decide)).trans hK
  have x1 : X (1 + 12 + k.toNatClampNeg) 1 = M := (hx 1 (by decide)).trans hM
  have oK : ∀ q : Nat → Int32, kn_row X 75 q (1 + 12 + k.toNatClampNeg) = X (1 + 12 + k.toNatClampNeg) := fun q => kn_row_off (by omega)
  generalize hQ : kn_up (kn_up (kn_up (kn_up (X 75) 1 0) 2 3) 3 M) 4 k = Q
  have q1 : Q 1 = nI 0 := by rw [← hQ]; rfl
  have q2 : Q 2 = 3 := by rw [← hQ]; rfl
  have q3 : Q 3 = M := by rw [← hQ]; rfl
  have q4 : Q 4 = k := by rw [← hQ]; rfl
  have hV : kn_row X 75 Q = vm X Q 0 (X 76) := by
    unfold vm
    rw [kn_row_self, ← q1, kn_up_id]
  have hb := @vb_3_10 sc (d + 9) X Q M k 0 0 (X 76) x q2 q3 q4 (by decide) (by decide)
  have n0 : (nI 0) = 0 := rfl
  rw [n0] at hb
  generalize hG : vm X Q (0 + 1) (kn_up (X 76) (0) 10) = G at hb
  have goff : ∀ p, ¬ p = 75 → ¬ p = 76 → G p = X p := by intro p a b; rw [← hG]; unfold vm; rw [kn_row_off a, kn_row_off b]
  have g87 : G 87 = X 87 := goff 87 (by decide) (by decide)
  have g88 : G 88 = X 88 := goff 88 (by decide) (by decide)
  have g96 : G 96 = X 96 := goff 96 (by decide) (by decide)
  have q9 : 0 ≤ (G 88 9).toInt := by rw [g88]; exact hN.1
  generalize hQ2 : kn_up (kn_up (X 87) 17 0) 18 k = Q2
  have r17 : Q2 17 = nI 0 := by rw [← hQ2]; rfl
  have r18 : Q2 18 = k := by rw [← hQ2]; rfl
  have r3 : Q2 3 = X 87 3 := by rw [← hQ2]; rfl
  have hW : kn_row G 87 Q2 = wm G Q2 0 (X 96) := by
    unfold wm
    rw [← g96, kn_row_self, ← r17, kn_up_id]
  have k0 : G 88 (13 + 9 * k.toNatClampNeg + 0) = 3 := by rw [g88]; exact hK
  have k1 : G 88 (13 + 9 * k.toNatClampNeg + 1) = M := by rw [g88]; exact hM
  have hm := @wb_3_cut_3 sc (d + 9) G Q2 M k 0 (X 96) x r18 hkk k0 k1 (by decide)
  have hi : Inv (wm G Q2 (0 + 1) (kn_up (X 96) (0) 10)) := by
    rw [← hG]
    refine Inv_voice h (by decide) r3 (fun j hj => ?_)
    rcases (by omega : j = 0) with rfl <;> rfl
  refine ⟨(x + k), G, wm G Q2 (0 + 1) (kn_up (X 96) (0) 10), ?_, ?_, hi⟩
  · simp only [x87_0, x87_1, x87_2, x87_5, x87_8, x87_9, x87_10, x87_11, x87_14, x87_17, x87_18, x87_19, x87_22, x87_23, x87_24, x87_27, x87_28, x87_29, x87_32, x87_35, x87_36, x87_37, x87_38, x87_39, x87_42, x59_0, x59_1, x59_2, x59_5, x59_6, x59_7, x59_10, x59_13, x59_14, x59_15, x59_18, x59_21, x59_22, x59_23, x59_26, x59_27, x59_28, x59_29, x59_32, x59_34, x59_35, x59_38, x87_36 (Or.inl rfl) (ka_st_k1 ka_k_1), ka_kk_i, ka_kk_n, ka_cl_i, ka_cl_r, ka_cl_n, or_true, true_or, ka_ne2, ka_ne4, ka_ne5, ka_ne10, not_false_eq_true, not_true_eq_false, if_true, if_false, ka_k_0, ka_k_1, ka_k_2, ka_k_3, ka_k_4, ka_k_5, ka_k_6, ka_k_7, ka_k_8, ka_k_9, ka_k_10, ka_k_11, ka_k_12, ka_k_13, ka_k_14, ka_k_15, ka_k_16, ka_k_17, ka_k_18, ka_k_19, ka_k_20, ka_k_21, ka_k_22, ka_k_23, ka_k_24, ka_k_25, ka_k_26, ka_k_27, ka_k_28, ka_k_29, ka_k_30, ka_k_31, ka_k_32, ka_k_33, ka_k_34, ka_k_35, ka_k_36, ka_k_37, ka_k_38, ka_k_39, ka_k_40, ka_k_41, ka_k_42, ka_k_43, ka_k_44, ka_k_45, ka_k_46, ka_k_47, ka_k_48, ka_k_49, ka_k_50, ka_k_51, ka_k_52, ka_k_53, ka_k_54, ka_k_55, ka_k_56, ka_k_57, ka_k_58, ka_k_59, ka_k_60, ka_k_61, ka_k_62, ka_k_63, ka_k_64, ka_k_65, ka_k_66, ka_k_67, ka_k_68, ka_k_69, ka_k_70, ka_k_71, ka_k_72, ka_k_73, ka_k_74, ka_k_75, ka_k_76, ka_k_77, ka_k_78, ka_k_79, ka_k_80, ka_k_81, ka_k_82, ka_k_83, ka_k_84, ka_k_85, ka_k_86, ka_k_87, ka_k_88, ka_k_89, ka_k_90, ka_k_91, ka_k_92, ka_k_93, ka_k_94, ka_k_95, ka_k_96, ka_k_97, ka_k_98, ka_k_99, ka_k_100, ka_rf_0_0, ka_rf_0_1, ka_rf_0_2, ka_rf_0_4, ka_rf_0_5, ka_rf_0_6, ka_rf_0_7, ka_rf_0_8, ka_rf_0_9, ka_rf_61_0, ka_rf_61_2, ka_rf_67_0, ka_rf_67_1, ka_rf_67_2, ka_rf_75_0, ka_rf_87_0, ka_rf_87_1, ka_rf_87_2, ka_rf_87_4, ka_rf_87_11, ka_rf_87_12, ka_rf_87_14, ka_rf_87_15, ka_rf_87_16, ka_rf_87_19, ka_rf_87_20, ka_rf_87_21, ka_rf_87_22, ka_ln_63, ka_ln_64, ka_ln_65, ka_ln_68, ka_ln_69, ka_ln_70, ka_ln_76, ka_ln_77, ka_ln_78, ka_ln_80, ka_ln_82, ka_ln_84, ka_ln_86, ka_ln_88, ka_ln_89, ka_ln_90, ka_ln_91, ka_ln_92, ka_ln_93, ka_ln_94, ka_ln_95, ka_ln_96, ka_ln_97, ka_ln_98, ka_ln_99, ka_ln_100, ka_st_r0 ka_k_1, ka_st_k1 ka_k_1, ka_st_l1 ka_k_1, ka_st_ra ka_k_1 hk8, ka_st_kn ka_k_1 hk8, sp_100, sp_106, ka_b_0, and_self, e1, c1, ka_t_0, ka_t_3, t0, la1, la2, hin, kn_put_r, kn_row_at, kn_row_row, oK, x0, x1, hQ, hV, sp_60_3_0 q2, hb]
  · simp only [x189_0, x189_1, x189_2, x189_5, x189_8, x189_9, x189_10, x189_11, x189_14, x189_17, x189_20, x189_21, x189_22, x189_25, x189_26, x189_27, x189_28, x189_31, x189_32, x189_33, x189_36, x189_37, x189_40, x189_42, x189_43, x189_46, x189_47, x189_49, x189_50, x189_53, x189_56, x189_57, x189_58, x189_61, x189_62, x189_64, x189_65, x189_68, x189_71, x189_72, x189_73, x189_76, x189_77, x189_79, x189_80, x189_83, x189_86, x189_87, x189_89, x189_90, x189_93, ka_kk_i, ka_kk_n, ka_cl_i, ka_cl_r, ka_cl_n, or_true, true_or, ka_ne2, ka_ne4, ka_ne5, ka_ne10, not_false_eq_true, not_true_eq_false, if_true, if_false, ka_k_0, ka_k_1, ka_k_2, ka_k_3, ka_k_4, ka_k_5, ka_k_6, ka_k_7, ka_k_8, ka_k_9, ka_k_10, ka_k_11, ka_k_12, ka_k_13, ka_k_14, ka_k_15, ka_k_16, ka_k_17, ka_k_18, ka_k_19, ka_k_20, ka_k_21, ka_k_22, ka_k_23, ka_k_24, ka_k_25, ka_k_26, ka_k_27, ka_k_28, ka_k_29, ka_k_30, ka_k_31, ka_k_32, ka_k_33, ka_k_34, ka_k_35, ka_k_36, ka_k_37, ka_k_38, ka_k_39, ka_k_40, ka_k_41, ka_k_42, ka_k_43, ka_k_44, ka_k_45, ka_k_46, ka_k_47, ka_k_48, ka_k_49, ka_k_50, ka_k_51, ka_k_52, ka_k_53, ka_k_54, ka_k_55, ka_k_56, ka_k_57, ka_k_58, ka_k_59, ka_k_60, ka_k_61, ka_k_62, ka_k_63, ka_k_64, ka_k_65, ka_k_66, ka_k_67, ka_k_68, ka_k_69, ka_k_70, ka_k_71, ka_k_72, ka_k_73, ka_k_74, ka_k_75, ka_k_76, ka_k_77, ka_k_78, ka_k_79, ka_k_80, ka_k_81, ka_k_82, ka_k_83, ka_k_84, ka_k_85, ka_k_86, ka_k_87, ka_k_88, ka_k_89, ka_k_90, ka_k_91, ka_k_92, ka_k_93, ka_k_94, ka_k_95, ka_k_96, ka_k_97, ka_k_98, ka_k_99, ka_k_100, ka_rf_0_0, ka_rf_0_1, ka_rf_0_2, ka_rf_0_4, ka_rf_0_5, ka_rf_0_6, ka_rf_0_7, ka_rf_0_8, ka_rf_0_9, ka_rf_61_0, ka_rf_61_2, ka_rf_67_0, ka_rf_67_1, ka_rf_67_2, ka_rf_75_0, ka_rf_87_0, ka_rf_87_1, ka_rf_87_2, ka_rf_87_4, ka_rf_87_11, ka_rf_87_12, ka_rf_87_14, ka_rf_87_15, ka_rf_87_16, ka_rf_87_19, ka_rf_87_20, ka_rf_87_21, ka_rf_87_22, ka_ln_63, ka_ln_64, ka_ln_65, ka_ln_68, ka_ln_69, ka_ln_70, ka_ln_76, ka_ln_77, ka_ln_78, ka_ln_80, ka_ln_82, ka_ln_84, ka_ln_86, ka_ln_88, ka_ln_89, ka_ln_90, ka_ln_91, ka_ln_92, ka_ln_93, ka_ln_94, ka_ln_95, ka_ln_96, ka_ln_97, ka_ln_98, ka_ln_99, ka_ln_100, sp_100, sp_106, sp_109, sp_110, sp_111, sp_112, sp_113, sp_117, sp_191, ka_i64, ka_b_0, ka_one0, and_self, ka_lit64_69, ka_lit64_5, ka_lit64_99, ka_lit64_8, ka_lit64_48, ka_lit64_57, ka_lit64_9, ka_lit64_6, ka_lit64_3, ka_lit64_60, ka_lit64_20, ka_lit64_12, ka_lit64_4, ka_lit64_400, ka_lit64_999, ka_lit64_m1, ka_lit64_1, ka_l0, ka_t_0, ka_t_1, ka_t_3, ka_t_4, ka_t_6, ka_t_7, ka_t_9, ka_t_5, ka_t_8, ka_t_60, ka_t_69, ka_t_99, ka_t_400, ka_t_999, ka_t_m1, ka_lit64_69, ka_lit64_5, ka_lit64_99, ka_lit64_8, ka_lit64_48, ka_lit64_57, ka_lit64_9, ka_lit64_6, ka_lit64_3, ka_lit64_60, ka_lit64_20, ka_lit64_12, ka_lit64_4, ka_lit64_400, ka_lit64_999, ka_lit64_m1, ka_lit64_1, ka_i64, ka_l0, sp_121' q9, g88, g87, c1, t0, la1, la2, z0, z1, z2, kn_put_r, kn_row_at, kn_row_row, hQ2, hW, sp_184w r18 hkk k0, hm]
theorem op_voice_3_1 {k x : Int32} (h : Inv X) (c1 : 0 ≤ k.toInt ∧ k.toInt < (X 88 9).toInt) (hK : md_kd (X 88) k.toNatClampNeg 0 = 3) : op sc (d + 12) 87 189 [.ref 0, .int k, .int 1, .int x] [.ref 87, .int k, .int 1, .int x, ka_nv] X := by
  have e1 : X 1 1 = X 88 9 := h.1.1.1.1
  have hD := h.1.2.1
  have hN := hD.1
  have hk8 : k.toNatClampNeg < 8 := by rw [ka_nc]; omega
  have hk : k.toNatClampNeg < (X 88 9).toInt.toNat := by rw [ka_nc]; omega
  have hin : ka_in k 8 := ka_inI.mpr (by omega)
  have hkk : 0 ≤ k.toInt ∧ k.toInt < 8 := by omega
  have hx : ∀ f, f < 9 → X (1 + 12 + k.toNatClampNeg) f = md_kd (X 88) k.toNatClampNeg f := h.1.1.2.2.1 _ hk
  have hok := hD.2.1 _ hk
  have t1 : ((1 : Int32).toInt) = 1 := rfl
  have la1 : ((0 : Int) ≤ 1) = True := by decide
  have la2 : ((1 : Int) ≤ 3) = True := by decide
  have z0 : ((1 : Int32) = 0) = False := by decide
  have z1 : ((1 : Int32) = 1) = True := by decide
  have z2 : ((1 : Int32) = 2) = False := by decide
  generalize hM : md_kd (X 88) k.toNatClampNeg 1 = M at *
  have x0 : X (1 + 12 + k.toNatClampNeg) 0 = 3 := (hx 0 (by decide)).trans hK
  have x1 : X (1 + 12 + k.toNatClampNeg) 1 = M := (hx 1 (by decide)).trans hM
  have oK : ∀ q : Nat → Int32, kn_row X 75 q (1 + 12 + k.toNatClampNeg) = X (1 + 12 + k.toNatClampNeg) := fun q => kn_row_off (by omega)
  generalize hQ : kn_up (kn_up (kn_up (kn_up (X 75) 1 0) 2 3) 3 M) 4 k = Q
  have q1 : Q 1 = nI 0 := by rw [← hQ]; rfl
  have q2 : Q 2 = 3 := by rw [← hQ]; rfl
  have q3 : Q 3 = M := by rw [← hQ]; rfl
  have q4 : Q 4 = k := by rw [← hQ]; rfl
  have hV : kn_row X 75 Q = vm X Q 0 (X 76) := by
    unfold vm
    rw [kn_row_self, ← q1, kn_up_id]
  have hb := @vb_3_11 sc (d + 8) X Q M k 0 0 (X 76) x q2 q3 q4 (by decide) (by decide)
  have n0 : (nI 0) = 0 := rfl
  rw [n0] at hb
  generalize hG : vm X Q (0 + 1 + 1) (kn_up (kn_up (X 76) (0) 11) (0 + 1) 10) = G at hb
  have goff : ∀ p, ¬ p = 75 → ¬ p = 76 → G p = X p := by intro p a b; rw [← hG]; unfold vm; rw [kn_row_off a, kn_row_off b]
  have g87 : G 87 = X 87 := goff 87 (by decide) (by decide)
  have g88 : G 88 = X 88 := goff 88 (by decide) (by decide)
  have g96 : G 96 = X 96 := goff 96 (by decide) (by decide)
  have q9 : 0 ≤ (G 88 9).toInt := by rw [g88]; exact hN.1
  generalize hQ2 : kn_up (kn_up (X 87) 17 0) 18 k = Q2
  have r17 : Q2 17 = nI 0 := by rw [← hQ2]; rfl
  have r18 : Q2 18 = k := by rw [← hQ2]; rfl
  have r3 : Q2 3 = X 87 3 := by rw [← hQ2]; rfl
  have hW : kn_row G 87 Q2 = wm G Q2 0 (X 96) := by
    unfold wm
    rw [← g96, kn_row_self, ← r17, kn_up_id]
  have k0 : G 88 (13 + 9 * k.toNatClampNeg + 0) = 3 := by rw [g88]; exact hK
  have k1 : G 88 (13 + 9 * k.toNatClampNeg + 1) = M := by rw [g88]; exact hM
  have hm := @wb_3_rings_3 sc (d + 7) G Q2 M k 0 (X 96) x r18 hkk k0 k1 (by decide)
  have hi : Inv (wm G Q2 (0 + 1 + 1) (kn_up (kn_up (X 96) (0) 11) (0 + 1) 10)) := by
    rw [← hG]
    refine Inv_voice h (by decide) r3 (fun j hj => ?_)
    rcases (by omega : j = 0 ∨ j = 1) with rfl | rfl <;> rfl
  refine ⟨((x + k) * 2), G, wm G Q2 (0 + 1 + 1) (kn_up (kn_up (X 96) (0) 11) (0 + 1) 10), ?_, ?_, hi⟩
  · simp only [x87_0, x87_1, x87_2, x87_5, x87_8, x87_9, x87_10, x87_11, x87_14, x87_17, x87_18, x87_19, x87_22, x87_23, x87_24, x87_27, x87_28, x87_29, x87_32, x87_35, x87_36, x87_37, x87_38, x87_39, x87_42, x59_0, x59_1, x59_2, x59_5, x59_6, x59_7, x59_10, x59_13, x59_14, x59_15, x59_18, x59_21, x59_22, x59_23, x59_26, x59_27, x59_28, x59_29, x59_32, x59_34, x59_35, x59_38, x87_36 (Or.inl rfl) (ka_st_k1 ka_k_1), ka_kk_i, ka_kk_n, ka_cl_i, ka_cl_r, ka_cl_n, or_true, true_or, ka_ne2, ka_ne4, ka_ne5, ka_ne10, not_false_eq_true, not_true_eq_false, if_true, if_false, ka_k_0, ka_k_1, ka_k_2, ka_k_3, ka_k_4, ka_k_5, ka_k_6, ka_k_7, ka_k_8, ka_k_9, ka_k_10, ka_k_11, ka_k_12, ka_k_13, ka_k_14, ka_k_15, ka_k_16, ka_k_17, ka_k_18, ka_k_19, ka_k_20, ka_k_21, ka_k_22, ka_k_23, ka_k_24, ka_k_25, ka_k_26, ka_k_27, ka_k_28, ka_k_29, ka_k_30, ka_k_31, ka_k_32, ka_k_33, ka_k_34, ka_k_35, ka_k_36, ka_k_37, ka_k_38, ka_k_39, ka_k_40, ka_k_41, ka_k_42, ka_k_43, ka_k_44, ka_k_45, ka_k_46, ka_k_47, ka_k_48, ka_k_49, ka_k_50, ka_k_51, ka_k_52, ka_k_53, ka_k_54, ka_k_55, ka_k_56, ka_k_57, ka_k_58, ka_k_59, ka_k_60, ka_k_61, ka_k_62, ka_k_63, ka_k_64, ka_k_65, ka_k_66, ka_k_67, ka_k_68, ka_k_69, ka_k_70, ka_k_71, ka_k_72, ka_k_73, ka_k_74, ka_k_75, ka_k_76, ka_k_77, ka_k_78, ka_k_79, ka_k_80, ka_k_81, ka_k_82, ka_k_83, ka_k_84, ka_k_85, ka_k_86, ka_k_87, ka_k_88, ka_k_89, ka_k_90, ka_k_91, ka_k_92, ka_k_93, ka_k_94, ka_k_95, ka_k_96, ka_k_97, ka_k_98, ka_k_99, ka_k_100, ka_rf_0_0, ka_rf_0_1, ka_rf_0_2, ka_rf_0_4, ka_rf_0_5, ka_rf_0_6, ka_rf_0_7, ka_rf_0_8, ka_rf_0_9, ka_rf_61_0, ka_rf_61_2, ka_rf_67_0, ka_rf_67_1, ka_rf_67_2, ka_rf_75_0, ka_rf_87_0, ka_rf_87_1, ka_rf_87_2, ka_rf_87_4, ka_rf_87_11, ka_rf_87_12, ka_rf_87_14, ka_rf_87_15, ka_rf_87_16, ka_rf_87_19, ka_rf_87_20, ka_rf_87_21, ka_rf_87_22, ka_ln_63, ka_ln_64, ka_ln_65, ka_ln_68, ka_ln_69, ka_ln_70, ka_ln_76, ka_ln_77, ka_ln_78, ka_ln_80, ka_ln_82, ka_ln_84, ka_ln_86, ka_ln_88, ka_ln_89, ka_ln_90, ka_ln_91, ka_ln_92, ka_ln_93, ka_ln_94, ka_ln_95, ka_ln_96, ka_ln_97, ka_ln_98, ka_ln_99, ka_ln_100, ka_st_r0 ka_k_1, ka_st_k1 ka_k_1, ka_st_l1 ka_k_1, ka_st_ra ka_k_1 hk8, ka_st_kn ka_k_1 hk8, sp_100, sp_106, ka_b_0, and_self, e1, c1, ka_t_0, ka_t_3, t1, la1, la2, hin, kn_put_r, kn_row_at, kn_row_row, oK, x0, x1, hQ, hV, sp_60_3_1 q2, hb]
  · simp only [x189_0, x189_1, x189_2, x189_5, x189_8, x189_9, x189_10, x189_11, x189_14, x189_17, x189_20, x189_21, x189_22, x189_25, x189_26, x189_27, x189_28, x189_31, x189_32, x189_33, x189_36, x189_37, x189_40, x189_42, x189_43, x189_46, x189_47, x189_49, x189_50, x189_53, x189_56, x189_57, x189_58, x189_61, x189_62, x189_64, x189_65, x189_68, x189_71, x189_72, x189_73, x189_76, x189_77, x189_79, x189_80, x189_83, x189_86, x189_87, x189_89, x189_90, x189_93, ka_kk_i, ka_kk_n, ka_cl_i, ka_cl_r, ka_cl_n, or_true, true_or, ka_ne2, ka_ne4, ka_ne5, ka_ne10, not_false_eq_true, not_true_eq_false, if_true, if_false, ka_k_0, ka_k_1, ka_k_2, ka_k_3, ka_k_4, ka_k_5, ka_k_6, ka_k_7, ka_k_8, ka_k_9, ka_k_10, ka_k_11, ka_k_12, ka_k_13, ka_k_14, ka_k_15, ka_k_16, ka_k_17, ka_k_18, ka_k_19, ka_k_20, ka_k_21, ka_k_22, ka_k_23, ka_k_24, ka_k_25, ka_k_26, ka_k_27, ka_k_28, ka_k_29, ka_k_30, ka_k_31, ka_k_32, ka_k_33, ka_k_34, ka_k_35, ka_k_36, ka_k_37, ka_k_38, ka_k_39, ka_k_40, ka_k_41, ka_k_42, ka_k_43, ka_k_44, ka_k_45, ka_k_46, ka_k_47, ka_k_48, ka_k_49, ka_k_50, ka_k_51, ka_k_52, ka_k_53, ka_k_54, ka_k_55, ka_k_56, ka_k_57, ka_k_58, ka_k_59, ka_k_60, ka_k_61, ka_k_62, ka_k_63, ka_k_64, ka_k_65, ka_k_66, ka_k_67, ka_k_68, ka_k_69, ka_k_70, ka_k_71, ka_k_72, ka_k_73, ka_k_74, ka_k_75, ka_k_76, ka_k_77, ka_k_78, ka_k_79, ka_k_80, ka_k_81, ka_k_82, ka_k_83, ka_k_84, ka_k_85, ka_k_86, ka_k_87, ka_k_88, ka_k_89, ka_k_90, ka_k_91, ka_k_92, ka_k_93, ka_k_94, ka_k_95, ka_k_96, ka_k_97, ka_k_98, ka_k_99, ka_k_100, ka_rf_0_0, ka_rf_0_1, ka_rf_0_2, ka_rf_0_4, ka_rf_0_5, ka_rf_0_6, ka_rf_0_7, ka_rf_0_8, ka_rf_0_9, ka_rf_61_0, ka_rf_61_2, ka_rf_67_0, ka_rf_67_1, ka_rf_67_2, ka_rf_75_0, ka_rf_87_0, ka_rf_87_1, ka_rf_87_2, ka_rf_87_4, ka_rf_87_11, ka_rf_87_12, ka_rf_87_14, ka_rf_87_15, ka_rf_87_16, ka_rf_87_19, ka_rf_87_20, ka_rf_87_21, ka_rf_87_22, ka_ln_63, ka_ln_64, ka_ln_65, ka_ln_68, ka_ln_69, ka_ln_70, ka_ln_76, ka_ln_77, ka_ln_78, ka_ln_80, ka_ln_82, ka_ln_84, ka_ln_86, ka_ln_88, ka_ln_89, ka_ln_90, ka_ln_91, ka_ln_92, ka_ln_93, ka_ln_94, ka_ln_95, ka_ln_96, ka_ln_97, ka_ln_98, ka_ln_99, ka_ln_100, sp_100, sp_106, sp_109, sp_110, sp_111, sp_112, sp_113, sp_117, sp_191, ka_i64, ka_b_0, ka_one0, and_self, ka_lit64_69, ka_lit64_5, ka_lit64_99, ka_lit64_8, ka_lit64_48, ka_lit64_57, ka_lit64_9, ka_lit64_6, ka_lit64_3, ka_lit64_60, ka_lit64_20, ka_lit64_12, ka_lit64_4, ka_lit64_400, ka_lit64_999, ka_lit64_m1, ka_lit64_1, ka_l0, ka_t_0, ka_t_1, ka_t_3, ka_t_4, ka_t_6, ka_t_7, ka_t_9, ka_t_5, ka_t_8, ka_t_60, ka_t_69, ka_t_99, ka_t_400, ka_t_999, ka_t_m1, ka_lit64_69, ka_lit64_5, ka_lit64_99, ka_lit64_8, ka_lit64_48, ka_lit64_57, ka_lit64_9, ka_lit64_6, ka_lit64_3, ka_lit64_60, ka_lit64_20, ka_lit64_12, ka_lit64_4, ka_lit64_400, ka_lit64_999, ka_lit64_m1, ka_lit64_1, ka_i64, ka_l0, sp_121' q9, g88, g87, c1, t1, la1, la2, z0, z1, z2, kn_put_r, kn_row_at, kn_row_row, hQ2, hW, sp_184w r18 hkk k0, hm]
theorem op_voice_3_2 {k x : Int32} (h : Inv X) (c1 : 0 ≤ k.toInt ∧ k.toInt < (X 88 9).toInt) (hK : md_kd (X 88) k.toNatClampNeg 0 = 3) : op sc (d + 12) 87 189 [.ref 0, .int k, .int 2, .int x] [.ref 87, .int k, .int 2, .int x, ka_nv] X := by
  have e1 : X 1 1 = X 88 9 := h.1.1.1.1
  have hD := h.1.2.1
  have hN := hD.1
  have hk8 : k.toNatClampNeg < 8 := by rw [ka_nc]; omega
  have hk : k.toNatClampNeg < (X 88 9).toInt.toNat := by rw [ka_nc]; omega
  have hin : ka_in k 8 := ka_inI.mpr (by omega)
  have hkk : 0 ≤ k.toInt ∧ k.toInt < 8 := by omega
  have hx : ∀ f, f < 9 → X (1 + 12 + k.toNatClampNeg) f = md_kd (X 88) k.toNatClampNeg f := h.1.1.2.2.1 _ hk
  have hok := hD.2.1 _ hk
  have t2 : ((2 : Int32).toInt) = 2 := rfl
  have la1 : ((0 : Int) ≤ 2) = True := by decide
  have la2 : ((2 : Int) ≤ 3) = True := by decide
  have z0 : ((2 : Int32) = 0) = False := by decide
  have z1 : ((2 : Int32) = 1) = False := by decide
  have z2 : ((2 : Int32) = 2) = True := by decide
  generalize hM : md_kd (X 88) k.toNatClampNeg 1 = M at *
  have x0 : X (1 + 12 + k.toNatClampNeg) 0 = 3 := (hx 0 (by decide)).trans hK
  have x1 : X (1 + 12 + k.toNatClampNeg) 1 = M := (hx 1 (by decide)).trans hM
  have oK : ∀ q : Nat → Int32, kn_row X 75 q (1 + 12 + k.toNatClampNeg) = X (1 + 12 + k.toNatClampNeg) := fun q => kn_row_off (by omega)
  generalize hQ : kn_up (kn_up (kn_up (kn_up (X 75) 1 0) 2 3) 3 M) 4 k = Q
  have q1 : Q 1 = nI 0 := by rw [← hQ]; rfl
  have q2 : Q 2 = 3 := by rw [← hQ]; rfl
  have q3 : Q 3 = M := by rw [← hQ]; rfl
  have q4 : Q 4 = k := by rw [← hQ]; rfl
  have hV : kn_row X 75 Q = vm X Q 0 (X 76) := by
    unfold vm
    rw [kn_row_self, ← q1, kn_up_id]
  have hb := @vb_3_40 sc (d + 8) X Q M k 0 0 (X 76) x q2 q3 q4 (by decide) (by decide)
  have n0 : (nI 0) = 0 := rfl
  rw [n0] at hb
  generalize hG : vm X Q (0 + 1 + 1) (kn_up (kn_up (X 76) (0) 40) (0 + 1) 12) = G at hb
  have goff : ∀ p, ¬ p = 75 → ¬ p = 76 → G p = X p := by intro p a b; rw [← hG]; unfold vm; rw [kn_row_off a, kn_row_off b]
  have g87 : G 87 = X 87 := goff 87 (by decide) (by decide)
  have g88 : G 88 = X 88 := goff 88 (by decide) (by decide)
  have g96 : G 96 = X 96 := goff 96 (by decide) (by decide)
  have q9 : 0 ≤ (G 88 9).toInt := by rw [g88]; exact hN.1
  generalize hQ2 : kn_up (kn_up (X 87) 17 0) 18 k = Q2
  have r17 : Q2 17 = nI 0 := by rw [← hQ2]; rfl
  have r18 : Q2 18 = k := by rw [← hQ2]; rfl
  have r3 : Q2 3 = X 87 3 := by rw [← hQ2]; rfl
  have hW : kn_row G 87 Q2 = wm G Q2 0 (X 96) := by
    unfold wm
    rw [← g96, kn_row_self, ← r17, kn_up_id]
  have k0 : G 88 (13 + 9 * k.toNatClampNeg + 0) = 3 := by rw [g88]; exact hK
  have k1 : G 88 (13 + 9 * k.toNatClampNeg + 1) = M := by rw [g88]; exact hM
  have hm := @wb_3_grind_3 sc (d + 9) G Q2 M k 0 (X 96) x r18 hkk k0 k1 (by decide)
  have hi : Inv (wm G Q2 (0 + 1 + 1) (kn_up (kn_up (X 96) (0) 40) (0 + 1) 12)) := by
    rw [← hG]
    refine Inv_voice h (by decide) r3 (fun j hj => ?_)
    rcases (by omega : j = 0 ∨ j = 1) with rfl | rfl <;> rfl
  refine ⟨(-(x - M)), G, wm G Q2 (0 + 1 + 1) (kn_up (kn_up (X 96) (0) 40) (0 + 1) 12), ?_, ?_, hi⟩
  · simp only [x87_0, x87_1, x87_2, x87_5, x87_8, x87_9, x87_10, x87_11, x87_14, x87_17, x87_18, x87_19, x87_22, x87_23, x87_24, x87_27, x87_28, x87_29, x87_32, x87_35, x87_36, x87_37, x87_38, x87_39, x87_42, x59_0, x59_1, x59_2, x59_5, x59_6, x59_7, x59_10, x59_13, x59_14, x59_15, x59_18, x59_21, x59_22, x59_23, x59_26, x59_27, x59_28, x59_29, x59_32, x59_34, x59_35, x59_38, x87_36 (Or.inl rfl) (ka_st_k1 ka_k_1), ka_kk_i, ka_kk_n, ka_cl_i, ka_cl_r, ka_cl_n, or_true, true_or, ka_ne2, ka_ne4, ka_ne5, ka_ne10, not_false_eq_true, not_true_eq_false, if_true, if_false, ka_k_0, ka_k_1, ka_k_2, ka_k_3, ka_k_4, ka_k_5, ka_k_6, ka_k_7, ka_k_8, ka_k_9, ka_k_10, ka_k_11, ka_k_12, ka_k_13, ka_k_14, ka_k_15, ka_k_16, ka_k_17, ka_k_18, ka_k_19, ka_k_20, ka_k_21, ka_k_22, ka_k_23, ka_k_24, ka_k_25, ka_k_26, ka_k_27, ka_k_28, ka_k_29, ka_k_30, ka_k_31, ka_k_32, ka_k_33, ka_k_34, ka_k_35, ka_k_36, ka_k_37, ka_k_38, ka_k_39, ka_k_40, ka_k_41, ka_k_42, ka_k_43, ka_k_44, ka_k_45, ka_k_46, ka_k_47, ka_k_48, ka_k_49, ka_k_50, ka_k_51, ka_k_52, ka_k_53, ka_k_54, ka_k_55, ka_k_56, ka_k_57, ka_k_58, ka_k_59, ka_k_60, ka_k_61, ka_k_62, ka_k_63, ka_k_64, ka_k_65, ka_k_66, ka_k_67, ka_k_68, ka_k_69, ka_k_70, ka_k_71, ka_k_72, ka_k_73, ka_k_74, ka_k_75, ka_k_76, ka_k_77, ka_k_78, ka_k_79, ka_k_80, ka_k_81, ka_k_82, ka_k_83, ka_k_84, ka_k_85, ka_k_86, ka_k_87, ka_k_88, ka_k_89, ka_k_90, ka_k_91, ka_k_92, ka_k_93, ka_k_94, ka_k_95, ka_k_96, ka_k_97, ka_k_98, ka_k_99, ka_k_100, ka_rf_0_0, ka_rf_0_1, ka_rf_0_2, ka_rf_0_4, ka_rf_0_5, ka_rf_0_6, ka_rf_0_7, ka_rf_0_8, ka_rf_0_9, ka_rf_61_0, ka_rf_61_2, ka_rf_67_0, ka_rf_67_1, ka_rf_67_2, ka_rf_75_0, ka_rf_87_0, ka_rf_87_1, ka_rf_87_2, ka_rf_87_4, ka_rf_87_11, ka_rf_87_12, ka_rf_87_14, ka_rf_87_15, ka_rf_87_16, ka_rf_87_19, ka_rf_87_20, ka_rf_87_21, ka_rf_87_22, ka_ln_63, ka_ln_64, ka_ln_65, ka_ln_68, ka_ln_69, ka_ln_70, ka_ln_76, ka_ln_77, ka_ln_78, ka_ln_80, ka_ln_82, ka_ln_84, ka_ln_86, ka_ln_88, ka_ln_89, ka_ln_90, ka_ln_91, ka_ln_92, ka_ln_93, ka_ln_94, ka_ln_95, ka_ln_96, ka_ln_97, ka_ln_98, ka_ln_99, ka_ln_100, ka_st_r0 ka_k_1, ka_st_k1 ka_k_1, ka_st_l1 ka_k_1, ka_st_ra ka_k_1 hk8, ka_st_kn ka_k_1 hk8, sp_100, sp_106, ka_b_0, and_self, e1, c1, ka_t_0, ka_t_3, t2, la1, la2, hin, kn_put_r, kn_row_at, kn_row_row, oK, x0, x1, hQ, hV, sp_60_3_2 q2, hb]
  · simp only [x189_0, x189_1, x189_2, x189_5, x189_8, x189_9, x189_10, x189_11, x189_14, x189_17, x189_20, x189_21, x189_22, x189_25, x189_26, x189_27, x189_28, x189_31, x189_32, x189_33, x189_36, x189_37, x189_40, x189_42, x189_43, x189_46, x189_47, x189_49, x189_50, x189_53, x189_56, x189_57, x189_58, x189_61, x189_62, x189_64, x189_65, x189_68, x189_71, x189_72, x189_73, x189_76, x189_77, x189_79, x189_80, x189_83, x189_86, x189_87, x189_89, x189_90, x189_93, ka_kk_i, ka_kk_n, ka_cl_i, ka_cl_r, ka_cl_n, or_true, true_or, ka_ne2, ka_ne4, ka_ne5, ka_ne10, not_false_eq_true, not_true_eq_false, if_true, if_false, ka_k_0, ka_k_1, ka_k_2, ka_k_3, ka_k_4, ka_k_5, ka_k_6, ka_k_7, ka_k_8, ka_k_9, ka_k_10, ka_k_11, ka_k_12, ka_k_13, ka_k_14, ka_k_15, ka_k_16, ka_k_17, ka_k_18, ka_k_19, ka_k_20, ka_k_21, ka_k_22, ka_k_23, ka_k_24, ka_k_25, ka_k_26, ka_k_27, ka_k_28, ka_k_29, ka_k_30, ka_k_31, ka_k_32, ka_k_33, ka_k_34, ka_k_35, ka_k_36, ka_k_37, ka_k_38, ka_k_39, ka_k_40, ka_k_41, ka_k_42, ka_k_43, ka_k_44, ka_k_45, ka_k_46, ka_k_47, ka_k_48, ka_k_49, ka_k_50, ka_k_51, ka_k_52, ka_k_53, ka_k_54, ka_k_55, ka_k_56, ka_k_57, ka_k_58, ka_k_59, ka_k_60, ka_k_61, ka_k_62, ka_k_63, ka_k_64, ka_k_65, ka_k_66, ka_k_67, ka_k_68, ka_k_69, ka_k_70, ka_k_71, ka_k_72, ka_k_73, ka_k_74, ka_k_75, ka_k_76, ka_k_77, ka_k_78, ka_k_79, ka_k_80, ka_k_81, ka_k_82, ka_k_83, ka_k_84, ka_k_85, ka_k_86, ka_k_87, ka_k_88, ka_k_89, ka_k_90, ka_k_91, ka_k_92, ka_k_93, ka_k_94, ka_k_95, ka_k_96, ka_k_97, ka_k_98, ka_k_99, ka_k_100, ka_rf_0_0, ka_rf_0_1, ka_rf_0_2, ka_rf_0_4, ka_rf_0_5, ka_rf_0_6, ka_rf_0_7, ka_rf_0_8, ka_rf_0_9, ka_rf_61_0, ka_rf_61_2, ka_rf_67_0, ka_rf_67_1, ka_rf_67_2, ka_rf_75_0, ka_rf_87_0, ka_rf_87_1, ka_rf_87_2, ka_rf_87_4, ka_rf_87_11, ka_rf_87_12, ka_rf_87_14, ka_rf_87_15, ka_rf_87_16, ka_rf_87_19, ka_rf_87_20, ka_rf_87_21, ka_rf_87_22, ka_ln_63, ka_ln_64, ka_ln_65, ka_ln_68, ka_ln_69, ka_ln_70, ka_ln_76, ka_ln_77, ka_ln_78, ka_ln_80, ka_ln_82, ka_ln_84, ka_ln_86, ka_ln_88, ka_ln_89, ka_ln_90, ka_ln_91, ka_ln_92, ka_ln_93, ka_ln_94, ka_ln_95, ka_ln_96, ka_ln_97, ka_ln_98, ka_ln_99, ka_ln_100, sp_100, sp_106, sp_109, sp_110, sp_111, sp_112, sp_113, sp_117, sp_191, ka_i64, ka_b_0, ka_one0, and_self, ka_lit64_69, ka_lit64_5, ka_lit64_99, ka_lit64_8, ka_lit64_48, ka_lit64_57, ka_lit64_9, ka_lit64_6, ka_lit64_3, ka_lit64_60, ka_lit64_20, ka_lit64_12, ka_lit64_4, ka_lit64_400, ka_lit64_999, ka_lit64_m1, ka_lit64_1, ka_l0, ka_t_0, ka_t_1, ka_t_3, ka_t_4, ka_t_6, ka_t_7, ka_t_9, ka_t_5, ka_t_8, ka_t_60, ka_t_69, ka_t_99, ka_t_400, ka_t_999, ka_t_m1, ka_lit64_69, ka_lit64_5, ka_lit64_99, ka_lit64_8, ka_lit64_48, ka_lit64_57, ka_lit64_9, ka_lit64_6, ka_lit64_3, ka_lit64_60, ka_lit64_20, ka_lit64_12, ka_lit64_4, ka_lit64_400, ka_lit64_999, ka_lit64_m1, ka_lit64_1, ka_i64, ka_l0, sp_121' q9, g88, g87, c1, t2, la1, la2, z0, z1, z2, kn_put_r, kn_row_at, kn_row_row, hQ2, hW, sp_184w r18 hkk k0, hm]
theorem op_voice_3_3 {k x : Int32} (h : Inv X) (c1 : 0 ≤ k.toInt ∧ k.toInt < (X 88 9).toInt) (hK : md_kd (X 88) k.toNatClampNeg 0 = 3) : op sc (d + 12) 87 189 [.ref 0, .int k, .int 3, .int x] [.ref 87, .int k, .int 3, .int x, ka_nv] X := by
  have e1 : X 1 1 = X 88 9 := h.1.1.1.1
  have hD := h.1.2.1
  have hN := hD.1
  have hk8 : k.toNatClampNeg < 8 := by rw [ka_nc]; omega
  have hk : k.toNatClampNeg < (X 88 9).toInt.toNat := by rw [ka_nc]; omega
  have hin : ka_in k 8 := ka_inI.mpr (by omega)
  have hkk : 0 ≤ k.toInt ∧ k.toInt < 8 := by omega
  have hx : ∀ f, f < 9 → X (1 + 12 + k.toNatClampNeg) f = md_kd (X 88) k.toNatClampNeg f := h.1.1.2.2.1 _ hk
  have hok := hD.2.1 _ hk
  have t3 : ((3 : Int32).toInt) = 3 := rfl
  have la1 : ((0 : Int) ≤ 3) = True := by decide
  have la2 : ((3 : Int) ≤ 3) = True := by decide
  have z0 : ((3 : Int32) = 0) = False := by decide
  have z1 : ((3 : Int32) = 1) = False := by decide
  have z2 : ((3 : Int32) = 2) = False := by decide
  generalize hM : md_kd (X 88) k.toNatClampNeg 1 = M at *
  have x0 : X (1 + 12 + k.toNatClampNeg) 0 = 3 := (hx 0 (by decide)).trans hK
  have x1 : X (1 + 12 + k.toNatClampNeg) 1 = M := (hx 1 (by decide)).trans hM
  have oK : ∀ q : Nat → Int32, kn_row X 75 q (1 + 12 + k.toNatClampNeg) = X (1 + 12 + k.toNatClampNeg) := fun q => kn_row_off (by omega)
  generalize hQ : kn_up (kn_up (kn_up (kn_up (X 75) 1 0) 2 3) 3 M) 4 k = Q
  have q1 : Q 1 = nI 0 := by rw [← hQ]; rfl
  have q2 : Q 2 = 3 := by rw [← hQ]; rfl
  have q3 : Q 3 = M := by rw [← hQ]; rfl
  have q4 : Q 4 = k := by rw [← hQ]; rfl
  have hV : kn_row X 75 Q = vm X Q 0 (X 76) := by
    unfold vm
    rw [kn_row_self, ← q1, kn_up_id]
  have hb := @vb_3_13 sc (d + 7) X Q M k 0 0 (X 76) x q2 q3 q4 (by decide) (by decide)
  have n0 : (nI 0) = 0 := rfl
  rw [n0] at hb
  generalize hG : vm X Q (0 + 1 + 1 + 1 + 1 + 1) (kn_up (kn_up (kn_up (kn_up (kn_up (X 76) (0) 13) (0 + 1) 11) (0 + 1 + 1) 10) (0 + 1 + 1 + 1) 40) (0 + 1 + 1 + 1 + 1) 12) = G at hb
  have goff : ∀ p, ¬ p = 75 → ¬ p = 76 → G p = X p := by intro p a b; rw [← hG]; unfold vm; rw [kn_row_off a, kn_row_off b]
  have g87 : G 87 = X 87 := goff 87 (by decide) (by decide)
  have g88 : G 88 = X 88 := goff 88 (by decide) (by decide)
  have g96 : G 96 = X 96 := goff 96 (by decide) (by decide)
  have q9 : 0 ≤ (G 88 9).toInt := by rw [g88]; exact hN.1
  generalize hQ2 : kn_up (kn_up (X 87) 17 0) 18 k = Q2
  have r17 : Q2 17 = nI 0 := by rw [← hQ2]; rfl
  have r18 : Q2 18 = k := by rw [← hQ2]; rfl
  have r3 : Q2 3 = X 87 3 := by rw [← hQ2]; rfl
  have hW : kn_row G 87 Q2 = wm G Q2 0 (X 96) := by
    unfold wm
    rw [← g96, kn_row_self, ← r17, kn_up_id]
  have k0 : G 88 (13 + 9 * k.toNatClampNeg + 0) = 3 := by rw [g88]; exact hK
  have k1 : G 88 (13 + 9 * k.toNatClampNeg + 1) = M := by rw [g88]; exact hM
  have hm := @wb_3_tells_3 sc (d + 5) G Q2 M k 0 (X 96) x r18 hkk k0 k1 (by decide)
  have hi : Inv (wm G Q2 (0 + 1 + 1 + 1 + 1 + 1) (kn_up (kn_up (kn_up (kn_up (kn_up (X 96) (0) 13) (0 + 1) 11) (0 + 1 + 1) 10) (0 + 1 + 1 + 1) 40) (0 + 1 + 1 + 1 + 1) 12)) := by
    rw [← hG]
    refine Inv_voice h (by decide) r3 (fun j hj => ?_)
    rcases (by omega : j = 0 ∨ j = 1 ∨ j = 2 ∨ j = 3 ∨ j = 4) with rfl | rfl | rfl | rfl | rfl <;> rfl
  refine ⟨(((x + k) * 2) ^^^ (-(x - M))), G, wm G Q2 (0 + 1 + 1 + 1 + 1 + 1) (kn_up (kn_up (kn_up (kn_up (kn_up (X 96) (0) 13) (0 + 1) 11) (0 + 1 + 1) 10) (0 + 1 + 1 + 1) 40) (0 + 1 + 1 + 1 + 1) 12), ?_, ?_, hi⟩
  · simp only [x87_0, x87_1, x87_2, x87_5, x87_8, x87_9, x87_10, x87_11, x87_14, x87_17, x87_18, x87_19, x87_22, x87_23, x87_24, x87_27, x87_28, x87_29, x87_32, x87_35, x87_36, x87_37, x87_38, x87_39, x87_42, x59_0, x59_1, x59_2, x59_5, x59_6, x59_7, x59_10, x59_13, x59_14, x59_15, x59_18, x59_21, x59_22, x59_23, x59_26, x59_27, x59_28, x59_29, x59_32, x59_34, x59_35, x59_38, x87_36 (Or.inl rfl) (ka_st_k1 ka_k_1), ka_kk_i, ka_kk_n, ka_cl_i, ka_cl_r, ka_cl_n, or_true, true_or, ka_ne2, ka_ne4, ka_ne5, ka_ne10, not_false_eq_true, not_true_eq_false, if_true, if_false, ka_k_0, ka_k_1, ka_k_2, ka_k_3, ka_k_4, ka_k_5, ka_k_6, ka_k_7, ka_k_8, ka_k_9, ka_k_10, ka_k_11, ka_k_12, ka_k_13, ka_k_14, ka_k_15, ka_k_16, ka_k_17, ka_k_18, ka_k_19, ka_k_20, ka_k_21, ka_k_22, ka_k_23, ka_k_24, ka_k_25, ka_k_26, ka_k_27, ka_k_28, ka_k_29, ka_k_30, ka_k_31, ka_k_32, ka_k_33, ka_k_34, ka_k_35, ka_k_36, ka_k_37, ka_k_38, ka_k_39, ka_k_40, ka_k_41, ka_k_42, ka_k_43, ka_k_44, ka_k_45, ka_k_46, ka_k_47, ka_k_48, ka_k_49, ka_k_50, ka_k_51, ka_k_52, ka_k_53, ka_k_54, ka_k_55, ka_k_56, ka_k_57, ka_k_58, ka_k_59, ka_k_60, ka_k_61, ka_k_62, ka_k_63, ka_k_64, ka_k_65, ka_k_66, ka_k_67, ka_k_68, ka_k_69, ka_k_70, ka_k_71, ka_k_72, ka_k_73, ka_k_74, ka_k_75, ka_k_76, ka_k_77, ka_k_78, ka_k_79, ka_k_80, ka_k_81, ka_k_82, ka_k_83, ka_k_84, ka_k_85, ka_k_86, ka_k_87, ka_k_88, ka_k_89, ka_k_90, ka_k_91, ka_k_92, ka_k_93, ka_k_94, ka_k_95, ka_k_96, ka_k_97, ka_k_98, ka_k_99, ka_k_100, ka_rf_0_0, ka_rf_0_1, ka_rf_0_2, ka_rf_0_4, ka_rf_0_5, ka_rf_0_6, ka_rf_0_7, ka_rf_0_8, ka_rf_0_9, ka_rf_61_0, ka_rf_61_2, ka_rf_67_0, ka_rf_67_1, ka_rf_67_2, ka_rf_75_0, ka_rf_87_0, ka_rf_87_1, ka_rf_87_2, ka_rf_87_4, ka_rf_87_11, ka_rf_87_12, ka_rf_87_14, ka_rf_87_15, ka_rf_87_16, ka_rf_87_19, ka_rf_87_20, ka_rf_87_21, ka_rf_87_22, ka_ln_63, ka_ln_64, ka_ln_65, ka_ln_68, ka_ln_69, ka_ln_70, ka_ln_76, ka_ln_77, ka_ln_78, ka_ln_80, ka_ln_82, ka_ln_84, ka_ln_86, ka_ln_88, ka_ln_89, ka_ln_90, ka_ln_91, ka_ln_92, ka_ln_93, ka_ln_94, ka_ln_95, ka_ln_96, ka_ln_97, ka_ln_98, ka_ln_99, ka_ln_100, ka_st_r0 ka_k_1, ka_st_k1 ka_k_1, ka_st_l1 ka_k_1, ka_st_ra ka_k_1 hk8, ka_st_kn ka_k_1 hk8, sp_100, sp_106, ka_b_0, and_self, e1, c1, ka_t_0, ka_t_3, t3, la1, la2, hin, kn_put_r, kn_row_at, kn_row_row, oK, x0, x1, hQ, hV, sp_60_3_3 q2, hb]
  · simp only [x189_0, x189_1, x189_2, x189_5, x189_8, x189_9, x189_10, x189_11, x189_14, x189_17, x189_20, x189_21, x189_22, x189_25, x189_26, x189_27, x189_28, x189_31, x189_32, x189_33, x189_36, x189_37, x189_40, x189_42, x189_43, x189_46, x189_47, x189_49, x189_50, x189_53, x189_56, x189_57, x189_58, x189_61, x189_62, x189_64, x189_65, x189_68, x189_71, x189_72, x189_73, x189_76, x189_77, x189_79, x189_80, x189_83, x189_86, x189_87, x189_89, x189_90, x189_93, ka_kk_i, ka_kk_n, ka_cl_i, ka_cl_r, ka_cl_n, or_true, true_or, ka_ne2, ka_ne4, ka_ne5, ka_ne10, not_false_eq_true, not_true_eq_false, if_true, if_false, ka_k_0, ka_k_1, ka_k_2, ka_k_3, ka_k_4, ka_k_5, ka_k_6, ka_k_7, ka_k_8, ka_k_9, ka_k_10, ka_k_11, ka_k_12, ka_k_13, ka_k_14, ka_k_15, ka_k_16, ka_k_17, ka_k_18, ka_k_19, ka_k_20, ka_k_21, ka_k_22, ka_k_23, ka_k_24, ka_k_25, ka_k_26, ka_k_27, ka_k_28, ka_k_29, ka_k_30, ka_k_31, ka_k_32, ka_k_33, ka_k_34, ka_k_35, ka_k_36, ka_k_37, ka_k_38, ka_k_39, ka_k_40, ka_k_41, ka_k_42, ka_k_43, ka_k_44, ka_k_45, ka_k_46, ka_k_47, ka_k_48, ka_k_49, ka_k_50, ka_k_51, ka_k_52, ka_k_53, ka_k_54, ka_k_55, ka_k_56, ka_k_57, ka_k_58, ka_k_59, ka_k_60, ka_k_61, ka_k_62, ka_k_63, ka_k_64, ka_k_65, ka_k_66, ka_k_67, ka_k_68, ka_k_69, ka_k_70, ka_k_71, ka_k_72, ka_k_73, ka_k_74, ka_k_75, ka_k_76, ka_k_77, ka_k_78, ka_k_79, ka_k_80, ka_k_81, ka_k_82, ka_k_83, ka_k_84, ka_k_85, ka_k_86, ka_k_87, ka_k_88, ka_k_89, ka_k_90, ka_k_91, ka_k_92, ka_k_93, ka_k_94, ka_k_95, ka_k_96, ka_k_97, ka_k_98, ka_k_99, ka_k_100, ka_rf_0_0, ka_rf_0_1, ka_rf_0_2, ka_rf_0_4, ka_rf_0_5, ka_rf_0_6, ka_rf_0_7, ka_rf_0_8, ka_rf_0_9, ka_rf_61_0, ka_rf_61_2, ka_rf_67_0, ka_rf_67_1, ka_rf_67_2, ka_rf_75_0, ka_rf_87_0, ka_rf_87_1, ka_rf_87_2, ka_rf_87_4, ka_rf_87_11, ka_rf_87_12, ka_rf_87_14, ka_rf_87_15, ka_rf_87_16, ka_rf_87_19, ka_rf_87_20, ka_rf_87_21, ka_rf_87_22, ka_ln_63, ka_ln_64, ka_ln_65, ka_ln_68, ka_ln_69, ka_ln_70, ka_ln_76, ka_ln_77, ka_ln_78, ka_ln_80, ka_ln_82, ka_ln_84, ka_ln_86, ka_ln_88, ka_ln_89, ka_ln_90, ka_ln_91, ka_ln_92, ka_ln_93, ka_ln_94, ka_ln_95, ka_ln_96, ka_ln_97, ka_ln_98, ka_ln_99, ka_ln_100, sp_100, sp_106, sp_109, sp_110, sp_111, sp_112, sp_113, sp_117, sp_191, ka_i64, ka_b_0, ka_one0, and_self, ka_lit64_69, ka_lit64_5, ka_lit64_99, ka_lit64_8, ka_lit64_48, ka_lit64_57, ka_lit64_9, ka_lit64_6, ka_lit64_3, ka_lit64_60, ka_lit64_20, ka_lit64_12, ka_lit64_4, ka_lit64_400, ka_lit64_999, ka_lit64_m1, ka_lit64_1, ka_l0, ka_t_0, ka_t_1, ka_t_3, ka_t_4, ka_t_6, ka_t_7, ka_t_9, ka_t_5, ka_t_8, ka_t_60, ka_t_69, ka_t_99, ka_t_400, ka_t_999, ka_t_m1, ka_lit64_69, ka_lit64_5, ka_lit64_99, ka_lit64_8, ka_lit64_48, ka_lit64_57, ka_lit64_9, ka_lit64_6, ka_lit64_3, ka_lit64_60, ka_lit64_20, ka_lit64_12, ka_lit64_4, ka_lit64_400, ka_lit64_999, ka_lit64_m1, ka_lit64_1, ka_i64, ka_l0, sp_121' q9, g88, g87, c1, t3, la1, la2, z0, z1, z2, kn_put_r, kn_row_at, kn_row_row, hQ2, hW, sp_184w r18 hkk k0, hm]
theorem op_voice_4_0 {k x : Int32} (h : Inv X) (c1 : 0 ≤ k.toInt ∧ k.toInt < (X 88 9).toInt) (hK : md_kd (X 88) k.toNatClampNeg 0 = 4) : op sc (d + 12) 87 189 [.ref 0, .int k, .int 0, .int x] [.ref 87, .int k, .int 0, .int x, ka_nv] X := by
  have e1 : X 1 1 = X 88 9 := h.1.1.1.1
  have hD := h.1.2.1
  have hN := hD.1
  have hk8 : k.toNatClampNeg < 8 := by rw [ka_nc]; omega
  have hk : k.toNatClampNeg < (X 88 9).toInt.toNat := by rw [ka_nc]; omega
  have hin : ka_in k 8 := ka_inI.mpr (by omega)
  have hkk : 0 ≤ k.toInt ∧ k.toInt < 8 := by omega
  have hx : ∀ f, f < 9 → X (1 + 12 + k.toNatClampNeg) f = md_kd (X 88) k.toNatClampNeg f := h.1.1.2.2.1 _ hk
  have hok := hD.2.1 _ hk
  have t0 : ((0 : Int32).toInt) = 0 := rfl
  have la1 : ((0 : Int) ≤ 0) = True := by decide
  have la2 : ((0 : Int) ≤ 3) = True := by decide
  have z0 : ((0 : Int32) = 0) = True := by decide
  have z1 : ((0 : Int32) = 1) = False := by decide
  have z2 : ((0 : Int32) = 2) = False := by decide
  generalize hM : md_kd (X 88) k.toNatClampNeg 1 = M at *
  have x0 : X (1 + 12 + k.toNatClampNeg) 0 = 4 := (hx 0 (by decide)).trans hK
  have x1 : X (1 + 12 + k.toNatClampNeg) 1 = M := (hx 1 (by decide)).trans hM
  have oK : ∀ q : Nat → Int32, kn_row X 75 q (1 + 12 + k.toNatClampNeg) = X (1 + 12 + k.toNatClampNeg) := fun q => kn_row_off (by omega)
  generalize hQ : kn_up (kn_up (kn_up (kn_up (X 75) 1 0) 2 4) 3 M) 4 k = Q
  have q1 : Q 1 = nI 0 := by rw [← hQ]; rfl
  have q2 : Q 2 = 4 := by rw [← hQ]; rfl
  have q3 : Q 3 = M := by rw [← hQ]; rfl
  have q4 : Q 4 = k := by rw [← hQ]; rfl
  have hV : kn_row X 75 Q = vm X Q 0 (X 76) := by
    unfold vm
    rw [kn_row_self, ← q1, kn_up_id]
  have hb := @vb_4_10 sc (d + 9) X Q M k 0 0 (X 76) x q2 q3 q4 (by decide) (by decide)
  have n0 : (nI 0) = 0 := rfl
  rw [n0] at hb
  generalize hG : vm X Q (0 + 1) (kn_up (X 76) (0) 10) = G at hb
  have goff : ∀ p, ¬ p = 75 → ¬ p = 76 → G p = X p := by intro p a b; rw [← hG]; unfold vm; rw [kn_row_off a, kn_row_off b]
  have g87 : G 87 = X 87 := goff 87 (by decide) (by decide)
  have g88 : G 88 = X 88 := goff 88 (by decide) (by decide)
  have g96 : G 96 = X 96 := goff 96 (by decide) (by decide)
  have q9 : 0 ≤ (G 88 9).toInt := by rw [g88]; exact hN.1
  generalize hQ2 : kn_up (kn_up (X 87) 17 0) 18 k = Q2
  have r17 : Q2 17 = nI 0 := by rw [← hQ2]; rfl
  have r18 : Q2 18 = k := by rw [← hQ2]; rfl
  have r3 : Q2 3 = X 87 3 := by rw [← hQ2]; rfl
  have hW : kn_row G 87 Q2 = wm G Q2 0 (X 96) := by
    unfold wm
    rw [← g96, kn_row_self, ← r17, kn_up_id]
  have k0 : G 88 (13 + 9 * k.toNatClampNeg + 0) = 4 := by rw [g88]; exact hK
  have k1 : G 88 (13 + 9 * k.toNatClampNeg + 1) = M := by rw [g88]; exact hM
  have hm := @wb_4_cut_4 sc (d + 8) G Q2 M k 0 (X 96) x r18 hkk k0 k1 (by decide)
  have hi : Inv (wm G Q2 (0 + 1) (kn_up (X 96) (0) 10)) := by
    rw [← hG]
    refine Inv_voice h (by decide) r3 (fun j hj => ?_)
    rcases (by omega : j = 0) with rfl <;> rfl
  refine ⟨(x + k), G, wm G Q2 (0 + 1) (kn_up (X 96) (0) 10), ?_, ?_, hi⟩
  · simp only [x87_0, x87_1, x87_2, x87_5, x87_8, x87_9, x87_10, x87_11, x87_14, x87_17, x87_18, x87_19, x87_22, x87_23, x87_24, x87_27, x87_28, x87_29, x87_32, x87_35, x87_36, x87_37, x87_38, x87_39, x87_42, x59_0, x59_1, x59_2, x59_5, x59_6, x59_7, x59_10, x59_13, x59_14, x59_15, x59_18, x59_21, x59_22, x59_23, x59_26, x59_27, x59_28, x59_29, x59_32, x59_34, x59_35, x59_38, x87_36 (Or.inl rfl) (ka_st_k1 ka_k_1), ka_kk_i, ka_kk_n, ka_cl_i, ka_cl_r, ka_cl_n, or_true, true_or, ka_ne2, ka_ne4, ka_ne5, ka_ne10, not_false_eq_true, not_true_eq_false, if_true, if_false, ka_k_0, ka_k_1, ka_k_2, ka_k_3, ka_k_4, ka_k_5, ka_k_6, ka_k_7, ka_k_8, ka_k_9, ka_k_10, ka_k_11, ka_k_12, ka_k_13, ka_k_14, ka_k_15, ka_k_16, ka_k_17, ka_k_18, ka_k_19, ka_k_20, ka_k_21, ka_k_22, ka_k_23, ka_k_24, ka_k_25, ka_k_26, ka_k_27, ka_k_28, ka_k_29, ka_k_30, ka_k_31, ka_k_32, ka_k_33, ka_k_34, ka_k_35, ka_k_36, ka_k_37, ka_k_38, ka_k_39, ka_k_40, ka_k_41, ka_k_42, ka_k_43, ka_k_44, ka_k_45, ka_k_46, ka_k_47, ka_k_48, ka_k_49, ka_k_50, ka_k_51, ka_k_52, ka_k_53, ka_k_54, ka_k_55, ka_k_56, ka_k_57, ka_k_58, ka_k_59, ka_k_60, ka_k_61, ka_k_62, ka_k_63, ka_k_64, ka_k_65, ka_k_66, ka_k_67, ka_k_68, ka_k_69, ka_k_70, ka_k_71, ka_k_72, ka_k_73, ka_k_74, ka_k_75, ka_k_76, ka_k_77, ka_k_78, ka_k_79, ka_k_80, ka_k_81, ka_k_82, ka_k_83, ka_k_84, ka_k_85, ka_k_86, ka_k_87, ka_k_88, ka_k_89, ka_k_90, ka_k_91, ka_k_92, ka_k_93, ka_k_94, ka_k_95, ka_k_96, ka_k_97, ka_k_98, ka_k_99, ka_k_100, ka_rf_0_0, ka_rf_0_1, ka_rf_0_2, ka_rf_0_4, ka_rf_0_5, ka_rf_0_6, ka_rf_0_7, ka_rf_0_8, ka_rf_0_9, ka_rf_61_0, ka_rf_61_2, ka_rf_67_0, ka_rf_67_1, ka_rf_67_2, ka_rf_75_0, ka_rf_87_0, ka_rf_87_1, ka_rf_87_2, ka_rf_87_4, ka_rf_87_11, ka_rf_87_12, ka_rf_87_14, ka_rf_87_15, ka_rf_87_16, ka_rf_87_19, ka_rf_87_20, ka_rf_87_21, ka_rf_87_22, ka_ln_63, ka_ln_64, ka_ln_65, ka_ln_68, ka_ln_69, ka_ln_70, ka_ln_76, ka_ln_77, ka_ln_78, ka_ln_80, ka_ln_82, ka_ln_84, ka_ln_86, ka_ln_88, ka_ln_89, ka_ln_90, ka_ln_91, ka_ln_92, ka_ln_93, ka_ln_94, ka_ln_95, ka_ln_96, ka_ln_97, ka_ln_98, ka_ln_99, ka_ln_100, ka_st_r0 ka_k_1, ka_st_k1 ka_k_1, ka_st_l1 ka_k_1, ka_st_ra ka_k_1 hk8, ka_st_kn ka_k_1 hk8, sp_100, sp_106, ka_b_0, and_self, e1, c1, ka_t_0, ka_t_3, t0, la1, la2, hin, kn_put_r, kn_row_at, kn_row_row, oK, x0, x1, hQ, hV, sp_60_4_0 q2, hb]
  · simp only [x189_0, x189_1, x189_2, x189_5, x189_8, x189_9, x189_10, x189_11, x189_14, x189_17, x189_20, x189_21, x189_22, x189_25, x189_26, x189_27, x189_28, x189_31, x189_32, x189_33, x189_36, x189_37, x189_40, x189_42, x189_43, x189_46, x189_47, x189_49, x189_50, x189_53, x189_56, x189_57, x189_58, x189_61, x189_62, x189_64, x189_65, x189_68, x189_71, x189_72, x189_73, x189_76, x189_77, x189_79, x189_80, x189_83, x189_86, x189_87, x189_89, x189_90, x189_93, ka_kk_i, ka_kk_n, ka_cl_i, ka_cl_r, ka_cl_n, or_true, true_or, ka_ne2, ka_ne4, ka_ne5, ka_ne10, not_false_eq_true, not_true_eq_false, if_true, if_false, ka_k_0, ka_k_1, ka_k_2, ka_k_3, ka_k_4, ka_k_5, ka_k_6, ka_k_7, ka_k_8, ka_k_9, ka_k_10, ka_k_11, ka_k_12, ka_k_13, ka_k_14, ka_k_15, ka_k_16, ka_k_17, ka_k_18, ka_k_19, ka_k_20, ka_k_21, ka_k_22, ka_k_23, ka_k_24, ka_k_25, ka_k_26, ka_k_27, ka_k_28, ka_k_29, ka_k_30, ka_k_31, ka_k_32, ka_k_33, ka_k_34, ka_k_35, ka_k_36, ka_k_37, ka_k_38, ka_k_39, ka_k_40, ka_k_41, ka_k_42, ka_k_43, ka_k_44, ka_k_45, ka_k_46, ka_k_47, ka_k_48, ka_k_49, ka_k_50, ka_k_51, ka_k_52, ka_k_53, ka_k_54, ka_k_55, ka_k_56, ka_k_57, ka_k_58, ka_k_59, ka_k_60, ka_k_61, ka_k_62, ka_k_63, ka_k_64, ka_k_65, ka_k_66, ka_k_67, ka_k_68, ka_k_69, ka_k_70, ka_k_71, ka_k_72, ka_k_73, ka_k_74, ka_k_75, ka_k_76, ka_k_77, ka_k_78, ka_k_79, ka_k_80, ka_k_81, ka_k_82, ka_k_83, ka_k_84, ka_k_85, ka_k_86, ka_k_87, ka_k_88, ka_k_89, ka_k_90, ka_k_91, ka_k_92, ka_k_93, ka_k_94, ka_k_95, ka_k_96, ka_k_97, ka_k_98, ka_k_99, ka_k_100, ka_rf_0_0, ka_rf_0_1, ka_rf_0_2, ka_rf_0_4, ka_rf_0_5, ka_rf_0_6, ka_rf_0_7, ka_rf_0_8, ka_rf_0_9, ka_rf_61_0, ka_rf_61_2, ka_rf_67_0, ka_rf_67_1, ka_rf_67_2, ka_rf_75_0, ka_rf_87_0, ka_rf_87_1, ka_rf_87_2, ka_rf_87_4, ka_rf_87_11, ka_rf_87_12, ka_rf_87_14, ka_rf_87_15, ka_rf_87_16, ka_rf_87_19, ka_rf_87_20, ka_rf_87_21, ka_rf_87_22, ka_ln_63, ka_ln_64, ka_ln_65, ka_ln_68, ka_ln_69, ka_ln_70, ka_ln_76, ka_ln_77, ka_ln_78, ka_ln_80, ka_ln_82, ka_ln_84, ka_ln_86, ka_ln_88, ka_ln_89, ka_ln_90, ka_ln_91, ka_ln_92, ka_ln_93, ka_ln_94, ka_ln_95, ka_ln_96, ka_ln_97, ka_ln_98, ka_ln_99, ka_ln_100, sp_100, sp_106, sp_109, sp_110, sp_111, sp_112, sp_113, sp_117, sp_191, ka_i64, ka_b_0, ka_one0, and_self, ka_lit64_69, ka_lit64_5, ka_lit64_99, ka_lit64_8, ka_lit64_48, ka_lit64_57, ka_lit64_9, ka_lit64_6, ka_lit64_3, ka_lit64_60, ka_lit64_20, ka_lit64_12, ka_lit64_4, ka_lit64_400, ka_lit64_999, ka_lit64_m1, ka_lit64_1, ka_l0, ka_t_0, ka_t_1, ka_t_3, ka_t_4, ka_t_6, ka_t_7, ka_t_9, ka_t_5, ka_t_8, ka_t_60, ka_t_69, ka_t_99, ka_t_400, ka_t_999, ka_t_m1, ka_lit64_69, ka_lit64_5, ka_lit64_99, ka_lit64_8, ka_lit64_48, ka_lit64_57, ka_lit64_9, ka_lit64_6, ka_lit64_3, ka_lit64_60, ka_lit64_20, ka_lit64_12, ka_lit64_4, ka_lit64_400, ka_lit64_999, ka_lit64_m1, ka_lit64_1, ka_i64, ka_l0, sp_121' q9, g88, g87, c1, t0, la1, la2, z0, z1, z2, kn_put_r, kn_row_at, kn_row_row, hQ2, hW, sp_184w r18 hkk k0, hm]
theorem op_voice_4_1 {k x : Int32} (h : Inv X) (c1 : 0 ≤ k.toInt ∧ k.toInt < (X 88 9).toInt) (hK : md_kd (X 88) k.toNatClampNeg 0 = 4) : op sc (d + 12) 87 189 [.ref 0, .int k, .int 1, .int x] [.ref 87, .int k, .int 1, .int x, ka_nv] X := by
  have e1 : X 1 1 = X 88 9 := h.1.1.1.1
  have hD := h.1.2.1
  have hN := hD.1
  have hk8 : k.toNatClampNeg < 8 := by rw [ka_nc]; omega
  have hk : k.toNatClampNeg < (X 88 9).toInt.toNat := by rw [ka_nc]; omega
  have hin : ka_in k 8 := ka_inI.mpr (by omega)
  have hkk : 0 ≤ k.toInt ∧ k.toInt < 8 := by omega
  have hx : ∀ f, f < 9 → X (1 + 12 + k.toNatClampNeg) f = md_kd (X 88) k.toNatClampNeg f := h.1.1.2.2.1 _ hk
  have hok := hD.2.1 _ hk
  have t1 : ((1 : Int32).toInt) = 1 := rfl
  have la1 : ((0 : Int) ≤ 1) = True := by decide
  have la2 : ((1 : Int) ≤ 3) = True := by decide
  have z0 : ((1 : Int32) = 0) = False := by decide
  have z1 : ((1 : Int32) = 1) = True := by decide
  have z2 : ((1 : Int32) = 2) = False := by decide
  generalize hM : md_kd (X 88) k.toNatClampNeg 1 = M at *
  have x0 : X (1 + 12 + k.toNatClampNeg) 0 = 4 := (hx 0 (by decide)).trans hK
  have x1 : X (1 + 12 + k.toNatClampNeg) 1 = M := (hx 1 (by decide)).trans hM
  have oK : ∀ q : Nat → Int32, kn_row X 75 q (1 + 12 + k.toNatClampNeg) = X (1 + 12 + k.toNatClampNeg) := fun q => kn_row_off (by omega)
  generalize hQ : kn_up (kn_up (kn_up (kn_up (X 75) 1 0) 2 4) 3 M) 4 k = Q
  have q1 : Q 1 = nI 0 := by rw [← hQ]; rfl
  have q2 : Q 2 = 4 := by rw [← hQ]; rfl
  have q3 : Q 3 = M := by rw [← hQ]; rfl
  have q4 : Q 4 = k := by rw [← hQ]; rfl
  have hV : kn_row X 75 Q = vm X Q 0 (X 76) := by
    unfold vm
    rw [kn_row_self, ← q1, kn_up_id]
  have hb := @vb_4_50 sc (d + 6) X Q M k 0 0 (X 76) x q2 q3 q4 (by decide) (by decide)
  have n0 : (nI 0) = 0 := rfl
  rw [n0] at hb
  generalize hG : vm X Q (0 + 1 + 1 + 1 + 1 + 1) (kn_up (kn_up (kn_up (kn_up (kn_up (X 76) (0) 50) (0 + 1) 20) (0 + 1 + 1) 11) (0 + 1 + 1 + 1) 10) (0 + 1 + 1 + 1 + 1) 12) = G at hb
  have goff : ∀ p, ¬ p = 75 → ¬ p = 76 → G p = X p := by intro p a b; rw [← hG]; unfold vm; rw [kn_row_off a, kn_row_off b]
  have g87 : G 87 = X 87 := goff 87 (by decide) (by decide)
  have g88 : G 88 = X 88 := goff 88 (by decide) (by decide)
  have g96 : G 96 = X 96 := goff 96 (by decide) (by decide)
  have q9 : 0 ≤ (G 88 9).toInt := by rw [g88]; exact hN.1
  generalize hQ2 : kn_up (kn_up (X 87) 17 0) 18 k = Q2
  have r17 : Q2 17 = nI 0 := by rw [← hQ2]; rfl
  have r18 : Q2 18 = k := by rw [← hQ2]; rfl
  have r3 : Q2 3 = X 87 3 := by rw [← hQ2]; rfl
  have hW : kn_row G 87 Q2 = wm G Q2 0 (X 96) := by
    unfold wm
    rw [← g96, kn_row_self, ← r17, kn_up_id]
  have k0 : G 88 (13 + 9 * k.toNatClampNeg + 0) = 4 := by rw [g88]; exact hK
  have k1 : G 88 (13 + 9 * k.toNatClampNeg + 1) = M := by rw [g88]; exact hM
  have hm := @wb_4_rings_4 sc (d + 5) G Q2 M k 0 (X 96) x r18 hkk k0 k1 (by decide)
  have hi : Inv (wm G Q2 (0 + 1 + 1 + 1 + 1 + 1) (kn_up (kn_up (kn_up (kn_up (kn_up (X 96) (0) 50) (0 + 1) 20) (0 + 1 + 1) 11) (0 + 1 + 1 + 1) 10) (0 + 1 + 1 + 1 + 1) 12)) := by
    rw [← hG]
    refine Inv_voice h (by decide) r3 (fun j hj => ?_)
    rcases (by omega : j = 0 ∨ j = 1 ∨ j = 2 ∨ j = 3 ∨ j = 4) with rfl | rfl | rfl | rfl | rfl <;> rfl
  refine ⟨((((x + 1) + k) * 2) - (1 - M)), G, wm G Q2 (0 + 1 + 1 + 1 + 1 + 1) (kn_up (kn_up (kn_up (kn_up (kn_up (X 96) (0) 50) (0 + 1) 20) (0 + 1 + 1) 11) (0 + 1 + 1 + 1) 10) (0 + 1 + 1 + 1 + 1) 12), ?_, ?_, hi⟩
  · simp only [x87_0, x87_1, x87_2, x87_5, x87_8, x87_9, x87_10, x87_11, x87_14, x87_17, x87_18, x87_19, x87_22, x87_23, x87_24, x87_27, x87_28, x87_29, x87_32, x87_35, x87_36, x87_37, x87_38, x87_39, x87_42, x59_0, x59_1, x59_2, x59_5, x59_6, x59_7, x59_10, x59_13, x59_14, x59_15, x59_18, x59_21, x59_22, x59_23, x59_26, x59_27, x59_28, x59_29, x59_32, x59_34, x59_35, x59_38, x87_36 (Or.inl rfl) (ka_st_k1 ka_k_1), ka_kk_i, ka_kk_n, ka_cl_i, ka_cl_r, ka_cl_n, or_true, true_or, ka_ne2, ka_ne4, ka_ne5, ka_ne10, not_false_eq_true, not_true_eq_false, if_true, if_false, ka_k_0, ka_k_1, ka_k_2, ka_k_3, ka_k_4, ka_k_5, ka_k_6, ka_k_7, ka_k_8, ka_k_9, ka_k_10, ka_k_11, ka_k_12, ka_k_13, ka_k_14, ka_k_15, ka_k_16, ka_k_17, ka_k_18, ka_k_19, ka_k_20, ka_k_21, ka_k_22, ka_k_23, ka_k_24, ka_k_25, ka_k_26, ka_k_27, ka_k_28, ka_k_29, ka_k_30, ka_k_31, ka_k_32, ka_k_33, ka_k_34, ka_k_35, ka_k_36, ka_k_37, ka_k_38, ka_k_39, ka_k_40, ka_k_41, ka_k_42, ka_k_43, ka_k_44, ka_k_45, ka_k_46, ka_k_47, ka_k_48, ka_k_49, ka_k_50, ka_k_51, ka_k_52, ka_k_53, ka_k_54, ka_k_55, ka_k_56, ka_k_57, ka_k_58, ka_k_59, ka_k_60, ka_k_61, ka_k_62, ka_k_63, ka_k_64, ka_k_65, ka_k_66, ka_k_67, ka_k_68, ka_k_69, ka_k_70, ka_k_71, ka_k_72, ka_k_73, ka_k_74, ka_k_75, ka_k_76, ka_k_77, ka_k_78, ka_k_79, ka_k_80, ka_k_81, ka_k_82, ka_k_83, ka_k_84, ka_k_85, ka_k_86, ka_k_87, ka_k_88, ka_k_89, ka_k_90, ka_k_91, ka_k_92, ka_k_93, ka_k_94, ka_k_95, ka_k_96, ka_k_97, ka_k_98, ka_k_99, ka_k_100, ka_rf_0_0, ka_rf_0_1, ka_rf_0_2, ka_rf_0_4, ka_rf_0_5, ka_rf_0_6, ka_rf_0_7, ka_rf_0_8, ka_rf_0_9, ka_rf_61_0, ka_rf_61_2, ka_rf_67_0, ka_rf_67_1, ka_rf_67_2, ka_rf_75_0, ka_rf_87_0, ka_rf_87_1, ka_rf_87_2, ka_rf_87_4, ka_rf_87_11, ka_rf_87_12, ka_rf_87_14, ka_rf_87_15, ka_rf_87_16, ka_rf_87_19, ka_rf_87_20, ka_rf_87_21, ka_rf_87_22, ka_ln_63, ka_ln_64, ka_ln_65, ka_ln_68, ka_ln_69, ka_ln_70, ka_ln_76, ka_ln_77, ka_ln_78, ka_ln_80, ka_ln_82, ka_ln_84, ka_ln_86, ka_ln_88, ka_ln_89, ka_ln_90, ka_ln_91, ka_ln_92, ka_ln_93, ka_ln_94, ka_ln_95, ka_ln_96, ka_ln_97, ka_ln_98, ka_ln_99, ka_ln_100, ka_st_r0 ka_k_1, ka_st_k1 ka_k_1, ka_st_l1 ka_k_1, ka_st_ra ka_k_1 hk8, ka_st_kn ka_k_1 hk8, sp_100, sp_106, ka_b_0, and_self, e1, c1, ka_t_0, ka_t_3, t1, la1, la2, hin, kn_put_r, kn_row_at, kn_row_row, oK, x0, x1, hQ, hV, sp_60_4_1 q2, hb]
  · simp only [x189_0, x189_1, x189_2, x189_5, x189_8, x189_9, x189_10, x189_11, x189_14, x189_17, x189_20, x189_21, x189_22, x189_25, x189_26, x189_27, x189_28, x189_31, x189_32, x189_33, x189_36, x189_37, x189_40, x189_42, x189_43, x189_46, x189_47, x189_49, x189_50, x189_53, x189_56, x189_57, x189_58, x189_61, x189_62, x189_64, x189_65, x189_68, x189_71, x189_72, x189_73, x189_76, x189_77, x189_79, x189_80, x189_83, x189_86, x189_87, x189_89, x189_90, x189_93, ka_kk_i, ka_kk_n, ka_cl_i, ka_cl_r, ka_cl_n, or_true, true_or, ka_ne2, ka_ne4, ka_ne5, ka_ne10, not_false_eq_true, not_true_eq_false, if_true, if_false, ka_k_0, ka_k_1, ka_k_2, ka_k_3, ka_k_4, ka_k_5, ka_k_6, ka_k_7, ka_k_8, ka_k_9, ka_k_10, ka_k_11, ka_k_12, ka_k_13, ka_k_14, ka_k_15, ka_k_16, ka_k_17, ka_k_18, ka_k_19, ka_k_20, ka_k_21, ka_k_22, ka_k_23, ka_k_24, ka_k_25, ka_k_26, ka_k_27, ka_k_28, ka_k_29, ka_k_30, ka_k_31, ka_k_32, ka_k_33, ka_k_34, ka_k_35, ka_k_36, ka_k_37, ka_k_38, ka_k_39, ka_k_40, ka_k_41, ka_k_42, ka_k_43, ka_k_44, ka_k_45, ka_k_46, ka_k_47, ka_k_48, ka_k_49, ka_k_50, ka_k_51, ka_k_52, ka_k_53, ka_k_54, ka_k_55, ka_k_56, ka_k_57, ka_k_58, ka_k_59, ka_k_60, ka_k_61, ka_k_62, ka_k_63, ka_k_64, ka_k_65, ka_k_66, ka_k_67, ka_k_68, ka_k_69, ka_k_70, ka_k_71, ka_k_72, ka_k_73, ka_k_74, ka_k_75, ka_k_76, ka_k_77, ka_k_78, ka_k_79, ka_k_80, ka_k_81, ka_k_82, ka_k_83, ka_k_84, ka_k_85, ka_k_86, ka_k_87, ka_k_88, ka_k_89, ka_k_90, ka_k_91, ka_k_92, ka_k_93, ka_k_94, ka_k_95, ka_k_96, ka_k_97, ka_k_98, ka_k_99, ka_k_100, ka_rf_0_0, ka_rf_0_1, ka_rf_0_2, ka_rf_0_4, ka_rf_0_5, ka_rf_0_6, ka_rf_0_7, ka_rf_0_8, ka_rf_0_9, ka_rf_61_0, ka_rf_61_2, ka_rf_67_0, ka_rf_67_1, ka_rf_67_2, ka_rf_75_0, ka_rf_87_0, ka_rf_87_1, ka_rf_87_2, ka_rf_87_4, ka_rf_87_11, ka_rf_87_12, ka_rf_87_14, ka_rf_87_15, ka_rf_87_16, ka_rf_87_19, ka_rf_87_20, ka_rf_87_21, ka_rf_87_22, ka_ln_63, ka_ln_64, ka_ln_65, ka_ln_68, ka_ln_69, ka_ln_70, ka_ln_76, ka_ln_77, ka_ln_78, ka_ln_80, ka_ln_82, ka_ln_84, ka_ln_86, ka_ln_88, ka_ln_89, ka_ln_90, ka_ln_91, ka_ln_92, ka_ln_93, ka_ln_94, ka_ln_95, ka_ln_96, ka_ln_97, ka_ln_98, ka_ln_99, ka_ln_100, sp_100, sp_106, sp_109, sp_110, sp_111, sp_112, sp_113, sp_117, sp_191, ka_i64, ka_b_0, ka_one0, and_self, ka_lit64_69, ka_lit64_5, ka_lit64_99, ka_lit64_8, ka_lit64_48, ka_lit64_57, ka_lit64_9, ka_lit64_6, ka_lit64_3, ka_lit64_60, ka_lit64_20, ka_lit64_12, ka_lit64_4, ka_lit64_400, ka_lit64_999, ka_lit64_m1, ka_lit64_1, ka_l0, ka_t_0, ka_t_1, ka_t_3, ka_t_4, ka_t_6, ka_t_7, ka_t_9, ka_t_5, ka_t_8, ka_t_60, ka_t_69, ka_t_99, ka_t_400, ka_t_999, ka_t_m1, ka_lit64_69, ka_lit64_5, ka_lit64_99, ka_lit64_8, ka_lit64_48, ka_lit64_57, ka_lit64_9, ka_lit64_6, ka_lit64_3, ka_lit64_60, ka_lit64_20, ka_lit64_12, ka_lit64_4, ka_lit64_400, ka_lit64_999, ka_lit64_m1, ka_lit64_1, ka_i64, ka_l0, sp_121' q9, g88, g87, c1, t1, la1, la2, z0, z1, z2, kn_put_r, kn_row_at, kn_row_row, hQ2, hW, sp_184w r18 hkk k0, hm]
theorem op_voice_4_2 {k x : Int32} (h : Inv X) (c1 : 0 ≤ k.toInt ∧ k.toInt < (X 88 9).toInt) (hK : md_kd (X 88) k.toNatClampNeg 0 = 4) : op sc (d + 12) 87 189 [.ref 0, .int k, .int 2, .int x] [.ref 87, .int k, .int 2, .int x, ka_nv] X := by
  have e1 : X 1 1 = X 88 9 := h.1.1.1.1
  have hD := h.1.2.1
  have hN := hD.1
  have hk8 : k.toNatClampNeg < 8 := by rw [ka_nc]; omega
  have hk : k.toNatClampNeg < (X 88 9).toInt.toNat := by rw [ka_nc]; omega
  have hin : ka_in k 8 := ka_inI.mpr (by omega)
  have hkk : 0 ≤ k.toInt ∧ k.toInt < 8 := by omega
  have hx : ∀ f, f < 9 → X (1 + 12 + k.toNatClampNeg) f = md_kd (X 88) k.toNatClampNeg f := h.1.1.2.2.1 _ hk
  have hok := hD.2.1 _ hk
  have t2 : ((2 : Int32).toInt) = 2 := rfl
  have la1 : ((0 : Int) ≤ 2) = True := by decide
  have la2 : ((2 : Int) ≤ 3) = True := by decide
  have z0 : ((2 : Int32) = 0) = False := by decide
  have z1 : ((2 : Int32) = 1) = False := by decide
  have z2 : ((2 : Int32) = 2) = True := by decide
  generalize hM : md_kd (X 88) k.toNatClampNeg 1 = M at *
  have x0 : X (1 + 12 + k.toNatClampNeg) 0 = 4 := (hx 0 (by decide)).trans hK
  have x1 : X (1 + 12 + k.toNatClampNeg) 1 = M := (hx 1 (by decide)).trans hM
  have oK : ∀ q : Nat → Int32, kn_row X 75 q (1 + 12 + k.toNatClampNeg) = X (1 + 12 + k.toNatClampNeg) := fun q => kn_row_off (by omega)
  generalize hQ : kn_up (kn_up (kn_up (kn_up (X 75) 1 0) 2 4) 3 M) 4 k = Q
  have q1 : Q 1 = nI 0 := by rw [← hQ]; rfl
  have q2 : Q 2 = 4 := by rw [← hQ]; rfl
  have q3 : Q 3 = M := by rw [← hQ]; rfl
  have q4 : Q 4 = k := by rw [← hQ]; rfl
  have hV : kn_row X 75 Q = vm X Q 0 (X 76) := by
    unfold vm
    rw [kn_row_self, ← q1, kn_up_id]
  have hb := @vb_4_12 sc (d + 9) X Q M k 0 0 (X 76) x q2 q3 q4 (by decide) (by decide)
  have n0 : (nI 0) = 0 := rfl
  rw [n0] at hb
  generalize hG : vm X Q (0 + 1) (kn_up (X 76) (0) 12) = G at hb
  have goff : ∀ p, ¬ p = 75 → ¬ p = 76 → G p = X p := by intro p a b; rw [← hG]; unfold vm; rw [kn_row_off a, kn_row_off b]
  have g87 : G 87 = X 87 := goff 87 (by decide) (by decide)
  have g88 : G 88 = X 88 := goff 88 (by decide) (by decide)
  have g96 : G 96 = X 96 := goff 96 (by decide) (by decide)
  have q9 : 0 ≤ (G 88 9).toInt := by rw [g88]; exact hN.1
  generalize hQ2 : kn_up (kn_up (X 87) 17 0) 18 k = Q2
  have r17 : Q2 17 = nI 0 := by rw [← hQ2]; rfl
  have r18 : Q2 18 = k := by rw [← hQ2]; rfl
  have r3 : Q2 3 = X 87 3 := by rw [← hQ2]; rfl
  have hW : kn_row G 87 Q2 = wm G Q2 0 (X 96) := by
    unfold wm
    rw [← g96, kn_row_self, ← r17, kn_up_id]
  have k0 : G 88 (13 + 9 * k.toNatClampNeg + 0) = 4 := by rw [g88]; exact hK
  have k1 : G 88 (13 + 9 * k.toNatClampNeg + 1) = M := by rw [g88]; exact hM
  have hm := @wb_4_grind_4 sc (d + 8) G Q2 M k 0 (X 96) x r18 hkk k0 k1 (by decide)
  have hi : Inv (wm G Q2 (0 + 1) (kn_up (X 96) (0) 12)) := by
    rw [← hG]
    refine Inv_voice h (by decide) r3 (fun j hj => ?_)
    rcases (by omega : j = 0) with rfl <;> rfl
  refine ⟨(x - M), G, wm G Q2 (0 + 1) (kn_up (X 96) (0) 12), ?_, ?_, hi⟩
  · simp only [x87_0, x87_1, x87_2, x87_5, x87_8, x87_9, x87_10, x87_11, x87_14, x87_17, x87_18, x87_19, x87_22, x87_23, x87_24, x87_27, x87_28, x87_29, x87_32, x87_35, x87_36, x87_37, x87_38, x87_39, x87_42, x59_0, x59_1, x59_2, x59_5, x59_6, x59_7, x59_10, x59_13, x59_14, x59_15, x59_18, x59_21, x59_22, x59_23, x59_26, x59_27, x59_28, x59_29, x59_32, x59_34, x59_35, x59_38, x87_36 (Or.inl rfl) (ka_st_k1 ka_k_1), ka_kk_i, ka_kk_n, ka_cl_i, ka_cl_r, ka_cl_n, or_true, true_or, ka_ne2, ka_ne4, ka_ne5, ka_ne10, not_false_eq_true, not_true_eq_false, if_true, if_false, ka_k_0, ka_k_1, ka_k_2, ka_k_3, ka_k_4, ka_k_5, ka_k_6, ka_k_7, ka_k_8, ka_k_9, ka_k_10, ka_k_11, ka_k_12, ka_k_13, ka_k_14, ka_k_15, ka_k_16, ka_k_17, ka_k_18, ka_k_19, ka_k_20, ka_k_21, ka_k_22, ka_k_23, ka_k_24, ka_k_25, ka_k_26, ka_k_27, ka_k_28, ka_k_29, ka_k_30, ka_k_31, ka_k_32, ka_k_33, ka_k_34, ka_k_35, ka_k_36, ka_k_37, ka_k_38, ka_k_39, ka_k_40, ka_k_41, ka_k_42, ka_k_43, ka_k_44, ka_k_45, ka_k_46, ka_k_47, ka_k_48, ka_k_49, ka_k_50, ka_k_51, ka_k_52, ka_k_53, ka_k_54, ka_k_55, ka_k_56, ka_k_57, ka_k_58, ka_k_59, ka_k_60, ka_k_61, ka_k_62, ka_k_63, ka_k_64, ka_k_65, ka_k_66, ka_k_67, ka_k_68, ka_k_69, ka_k_70, ka_k_71, ka_k_72, ka_k_73, ka_k_74, ka_k_75, ka_k_76, ka_k_77, ka_k_78, ka_k_79, ka_k_80, ka_k_81, ka_k_82, ka_k_83, ka_k_84, ka_k_85, ka_k_86, ka_k_87, ka_k_88, ka_k_89, ka_k_90, ka_k_91, ka_k_92, ka_k_93, ka_k_94, ka_k_95, ka_k_96, ka_k_97, ka_k_98, ka_k_99, ka_k_100, ka_rf_0_0, ka_rf_0_1, ka_rf_0_2, ka_rf_0_4, ka_rf_0_5, ka_rf_0_6, ka_rf_0_7, ka_rf_0_8, ka_rf_0_9, ka_rf_61_0, ka_rf_61_2, ka_rf_67_0, ka_rf_67_1, ka_rf_67_2, ka_rf_75_0, ka_rf_87_0, ka_rf_87_1, ka_rf_87_2, ka_rf_87_4, ka_rf_87_11, ka_rf_87_12, ka_rf_87_14, ka_rf_87_15, ka_rf_87_16, ka_rf_87_19, ka_rf_87_20, ka_rf_87_21, ka_rf_87_22, ka_ln_63, ka_ln_64, ka_ln_65, ka_ln_68, ka_ln_69, ka_ln_70, ka_ln_76, ka_ln_77, ka_ln_78, ka_ln_80, ka_ln_82, ka_ln_84, ka_ln_86, ka_ln_88, ka_ln_89, ka_ln_90, ka_ln_91, ka_ln_92, ka_ln_93, ka_ln_94, ka_ln_95, ka_ln_96, ka_ln_97, ka_ln_98, ka_ln_99, ka_ln_100, ka_st_r0 ka_k_1, ka_st_k1 ka_k_1, ka_st_l1 ka_k_1, ka_st_ra ka_k_1 hk8, ka_st_kn ka_k_1 hk8, sp_100, sp_106, ka_b_0, and_self, e1, c1, ka_t_0, ka_t_3, t2, la1, la2, hin, kn_put_r, kn_row_at, kn_row_row, oK, x0, x1, hQ, hV, sp_60_4_2 q2, hb]
  · simp only [x189_0, x189_1, x189_2, x189_5, x189_8, x189_9, x189_10, x189_11, x189_14, x189_17, x189_20, x189_21, x189_22, x189_25, x189_26, x189_27, x189_28, x189_31, x189_32, x189_33, x189_36, x189_37, x189_40, x189_42, x189_43, x189_46, x189_47, x189_49, x189_50, x189_53, x189_56, x189_57, x189_58, x189_61, x189_62, x189_64, x189_65, x189_68, x189_71, x189_72, x189_73, x189_76, x189_77, x189_79, x189_80, x189_83, x189_86, x189_87, x189_89, x189_90, x189_93, ka_kk_i, ka_kk_n, ka_cl_i, ka_cl_r, ka_cl_n, or_true, true_or, ka_ne2, ka_ne4, ka_ne5, ka_ne10, not_false_eq_true, not_true_eq_false, if_true, if_false, ka_k_0, ka_k_1, ka_k_2, ka_k_3, ka_k_4, ka_k_5, ka_k_6, ka_k_7, ka_k_8, ka_k_9, ka_k_10, ka_k_11, ka_k_12, ka_k_13, ka_k_14, ka_k_15, ka_k_16, ka_k_17, ka_k_18, ka_k_19, ka_k_20, ka_k_21, ka_k_22, ka_k_23, ka_k_24, ka_k_25, ka_k_26, ka_k_27, ka_k_28, ka_k_29, ka_k_30, ka_k_31, ka_k_32, ka_k_33, ka_k_34, ka_k_35, ka_k_36, ka_k_37, ka_k_38, ka_k_39, ka_k_40, ka_k_41, ka_k_42, ka_k_43, ka_k_44, ka_k_45, ka_k_46, ka_k_47, ka_k_48, ka_k_49, ka_k_50, ka_k_51, ka_k_52, ka_k_53, ka_k_54, ka_k_55, ka_k_56, ka_k_57, ka_k_58, ka_k_59, ka_k_60, ka_k_61, ka_k_62, ka_k_63, ka_k_64, ka_k_65, ka_k_66, ka_k_67, ka_k_68, ka_k_69, ka_k_70, ka_k_71, ka_k_72, ka_k_73, ka_k_74, ka_k_75, ka_k_76, ka_k_77, ka_k_78, ka_k_79, ka_k_80, ka_k_81, ka_k_82, ka_k_83, ka_k_84, ka_k_85, ka_k_86, ka_k_87, ka_k_88, ka_k_89, ka_k_90, ka_k_91, ka_k_92, ka_k_93, ka_k_94, ka_k_95, ka_k_96, ka_k_97, ka_k_98, ka_k_99, ka_k_100, ka_rf_0_0, ka_rf_0_1, ka_rf_0_2, ka_rf_0_4, ka_rf_0_5, ka_rf_0_6, ka_rf_0_7, ka_rf_0_8, ka_rf_0_9, ka_rf_61_0, ka_rf_61_2, ka_rf_67_0, ka_rf_67_1, ka_rf_67_2, ka_rf_75_0, ka_rf_87_0, ka_rf_87_1, ka_rf_87_2, ka_rf_87_4, ka_rf_87_11, ka_rf_87_12, ka_rf_87_14, ka_rf_87_15, ka_rf_87_16, ka_rf_87_19, ka_rf_87_20, ka_rf_87_21, ka_rf_87_22, ka_ln_63, ka_ln_64, ka_ln_65, ka_ln_68, ka_ln_69, ka_ln_70, ka_ln_76, ka_ln_77, ka_ln_78, ka_ln_80, ka_ln_82, ka_ln_84, ka_ln_86, ka_ln_88, ka_ln_89, ka_ln_90, ka_ln_91, ka_ln_92, ka_ln_93, ka_ln_94, ka_ln_95, ka_ln_96, ka_ln_97, ka_ln_98, ka_ln_99, ka_ln_100, sp_100, sp_106, sp_109, sp_110, sp_111, sp_112, sp_113, sp_117, sp_191, ka_i64, ka_b_0, ka_one0, and_self, ka_lit64_69, ka_lit64_5, ka_lit64_99, ka_lit64_8, ka_lit64_48, ka_lit64_57, ka_lit64_9, ka_lit64_6, ka_lit64_3, ka_lit64_60, ka_lit64_20, ka_lit64_12, ka_lit64_4, ka_lit64_400, ka_lit64_999, ka_lit64_m1, ka_lit64_1, ka_l0, ka_t_0, ka_t_1, ka_t_3, ka_t_4, ka_t_6, ka_t_7, ka_t_9, ka_t_5, ka_t_8, ka_t_60, ka_t_69, ka_t_99, ka_t_400, ka_t_999, ka_t_m1, ka_lit64_69, ka_lit64_5, ka_lit64_99, ka_lit64_8, ka_lit64_48, ka_lit64_57, ka_lit64_9, ka_lit64_6, ka_lit64_3, ka_lit64_60, ka_lit64_20, ka_lit64_12, ka_lit64_4, ka_lit64_400, ka_lit64_999, ka_lit64_m1, ka_lit64_1, ka_i64, ka_l0, sp_121' q9, g88, g87, c1, t2, la1, la2, z0, z1, z2, kn_put_r, kn_row_at, kn_row_row, hQ2, hW, sp_184w r18 hkk k0, hm]
theorem op_voice_4_3 {k x : Int32} (h : Inv X) (c1 : 0 ≤ k.toInt ∧ k.toInt < (X 88 9).toInt) (hK : md_kd (X 88) k.toNatClampNeg 0 = 4) : op sc (d + 12) 87 189 [.ref 0, .int k, .int 3, .int x] [.ref 87, .int k, .int 3, .int x, ka_nv] X := by
  have e1 : X 1 1 = X 88 9 := h.1.1.1.1
  have hD := h.1.2.1
  have hN := hD.1
  have hk8 : k.toNatClampNeg < 8 := by rw [ka_nc]; omega
  have hk : k.toNatClampNeg < (X 88 9).toInt.toNat := by rw [ka_nc]; omega
  have hin : ka_in k 8 := ka_inI.mpr (by omega)
  have hkk : 0 ≤ k.toInt ∧ k.toInt < 8 := by omega
  have hx : ∀ f, f < 9 → X (1 + 12 + k.toNatClampNeg) f = md_kd (X 88) k.toNatClampNeg f := h.1.1.2.2.1 _ hk
  have hok := hD.2.1 _ hk
  have t3 : ((3 : Int32).toInt) = 3 := rfl
  have la1 : ((0 : Int) ≤ 3) = True := by decide
  have la2 : ((3 : Int) ≤ 3) = True := by decide
  have z0 : ((3 : Int32) = 0) = False := by decide
  have z1 : ((3 : Int32) = 1) = False := by decide
  have z2 : ((3 : Int32) = 2) = False := by decide
  generalize hM : md_kd (X 88) k.toNatClampNeg 1 = M at *
  have x0 : X (1 + 12 + k.toNatClampNeg) 0 = 4 := (hx 0 (by decide)).trans hK
  have x1 : X (1 + 12 + k.toNatClampNeg) 1 = M := (hx 1 (by decide)).trans hM
  have oK : ∀ q : Nat → Int32, kn_row X 75 q (1 + 12 + k.toNatClampNeg) = X (1 + 12 + k.toNatClampNeg) := fun q => kn_row_off (by omega)
  generalize hQ : kn_up (kn_up (kn_up (kn_up (X 75) 1 0) 2 4) 3 M) 4 k = Q
  have q1 : Q 1 = nI 0 := by rw [← hQ]; rfl
  have q2 : Q 2 = 4 := by rw [← hQ]; rfl
  have q3 : Q 3 = M := by rw [← hQ]; rfl
  have q4 : Q 4 = k := by rw [← hQ]; rfl
  have hV : kn_row X 75 Q = vm X Q 0 (X 76) := by
    unfold vm
    rw [kn_row_self, ← q1, kn_up_id]
  have hb := @vb_4_13 sc (d + 5) X Q M k 0 0 (X 76) x q2 q3 q4 (by decide) (by decide)
  have n0 : (nI 0) = 0 := rfl
  rw [n0] at hb
  generalize hG : vm X Q (0 + 1 + 1 + 1 + 1 + 1 + 1 + 1) (kn_up (kn_up (kn_up (kn_up (kn_up (kn_up (kn_up (X 76) (0) 13) (0 + 1) 50) (0 + 1 + 1) 20) (0 + 1 + 1 + 1) 11) (0 + 1 + 1 + 1 + 1) 10) (0 + 1 + 1 + 1 + 1 + 1) 12) (0 + 1 + 1 + 1 + 1 + 1 + 1) 12) = G at hb
  have goff : ∀ p, ¬ p = 75 → ¬ p = 76 → G p = X p := by intro p a b; rw [← hG]; unfold vm; rw [kn_row_off a, kn_row_off b]
  have g87 : G 87 = X 87 := goff 87 (by decide) (by decide)
  have g88 : G 88 = X 88 := goff 88 (by decide) (by decide)
  have g96 : G 96 = X 96 := goff 96 (by decide) (by decide)
  have q9 : 0 ≤ (G 88 9).toInt := by rw [g88]; exact hN.1
  generalize hQ2 : kn_up (kn_up (X 87) 17 0) 18 k = Q2
  have r17 : Q2 17 = nI 0 := by rw [← hQ2]; rfl
  have r18 : Q2 18 = k := by rw [← hQ2]; rfl
  have r3 : Q2 3 = X 87 3 := by rw [← hQ2]; rfl
  have hW : kn_row G 87 Q2 = wm G Q2 0 (X 96) := by
    unfold wm
    rw [← g96, kn_row_self, ← r17, kn_up_id]
  have k0 : G 88 (13 + 9 * k.toNatClampNeg + 0) = 4 := by rw [g88]; exact hK
  have k1 : G 88 (13 + 9 * k.toNatClampNeg + 1) = M := by rw [g88]; exact hM
  have hm := @wb_4_tells_4 sc (d + 2) G Q2 M k 0 (X 96) x r18 hkk k0 k1 (by decide)
  have hi : Inv (wm G Q2 (0 + 1 + 1 + 1 + 1 + 1 + 1 + 1) (kn_up (kn_up (kn_up (kn_up (kn_up (kn_up (kn_up (X 96) (0) 13) (0 + 1) 50) (0 + 1 + 1) 20) (0 + 1 + 1 + 1) 11) (0 + 1 + 1 + 1 + 1) 10) (0 + 1 + 1 + 1 + 1 + 1) 12) (0 + 1 + 1 + 1 + 1 + 1 + 1) 12)) := by
    rw [← hG]
    refine Inv_voice h (by decide) r3 (fun j hj => ?_)
    rcases (by omega : j = 0 ∨ j = 1 ∨ j = 2 ∨ j = 3 ∨ j = 4 ∨ j = 5 ∨ j = 6) with rfl | rfl | rfl | rfl | rfl | rfl | rfl <;> rfl
  refine ⟨(((((x + 1) + k) * 2) - (1 - M)) ^^^ (x - M)), G, wm G Q2 (0 + 1 + 1 + 1 + 1 + 1 + 1 + 1) (kn_up (kn_up (kn_up (kn_up (kn_up (kn_up (kn_up (X 96) (0) 13) (0 + 1) 50) (0 + 1 + 1) 20) (0 + 1 + 1 + 1) 11) (0 + 1 + 1 + 1 + 1) 10) (0 + 1 + 1 + 1 + 1 + 1) 12) (0 + 1 + 1 + 1 + 1 + 1 + 1) 12), ?_, ?_, hi⟩
  · simp only [x87_0, x87_1, x87_2, x87_5, x87_8, x87_9, x87_10, x87_11, x87_14, x87_17, x87_18, x87_19, x87_22, x87_23, x87_24, x87_27, x87_28, x87_29, x87_32, x87_35, x87_36, x87_37, x87_38, x87_39, x87_42, x59_0, x59_1, x59_2, x59_5, x59_6, x59_7, x59_10, x59_13, x59_14, x59_15, x59_18, x59_21, x59_22, x59_23, x59_26, x59_27, x59_28, x59_29, x59_32, x59_34, x59_35, x59_38, x87_36 (Or.inl rfl) (ka_st_k1 ka_k_1), ka_kk_i, ka_kk_n, ka_cl_i, ka_cl_r, ka_cl_n, or_true, true_or, ka_ne2, ka_ne4, ka_ne5, ka_ne10, not_false_eq_true, not_true_eq_false, if_true, if_false, ka_k_0, ka_k_1, ka_k_2, ka_k_3, ka_k_4, ka_k_5, ka_k_6, ka_k_7, ka_k_8, ka_k_9, ka_k_10, ka_k_11, ka_k_12, ka_k_13, ka_k_14, ka_k_15, ka_k_16, ka_k_17, ka_k_18, ka_k_19, ka_k_20, ka_k_21, ka_k_22, ka_k_23, ka_k_24, ka_k_25, ka_k_26, ka_k_27, ka_k_28, ka_k_29, ka_k_30, ka_k_31, ka_k_32, ka_k_33, ka_k_34, ka_k_35, ka_k_36, ka_k_37, ka_k_38, ka_k_39, ka_k_40, ka_k_41, ka_k_42, ka_k_43, ka_k_44, ka_k_45, ka_k_46, ka_k_47, ka_k_48, ka_k_49, ka_k_50, ka_k_51, ka_k_52, ka_k_53, ka_k_54, ka_k_55, ka_k_56, ka_k_57, ka_k_58, ka_k_59, ka_k_60, ka_k_61, ka_k_62, ka_k_63, ka_k_64, ka_k_65, ka_k_66, ka_k_67, ka_k_68, ka_k_69, ka_k_70, ka_k_71, ka_k_72, ka_k_73, ka_k_74, ka_k_75, ka_k_76, ka_k_77, ka_k_78, ka_k_79, ka_k_80, ka_k_81, ka_k_82, ka_k_83, ka_k_84, ka_k_85, ka_k_86, ka_k_87, ka_k_88, ka_k_89, ka_k_90, ka_k_91, ka_k_92, ka_k_93, ka_k_94, ka_k_95, ka_k_96, ka_k_97, ka_k_98, ka_k_99, ka_k_100, ka_rf_0_0, ka_rf_0_1, ka_rf_0_2, ka_rf_0_4, ka_rf_0_5, ka_rf_0_6, ka_rf_0_7, ka_rf_0_8, ka_rf_0_9, ka_rf_61_0, ka_rf_61_2, ka_rf_67_0, ka_rf_67_1, ka_rf_67_2, ka_rf_75_0, ka_rf_87_0, ka_rf_87_1, ka_rf_87_2, ka_rf_87_4, ka_rf_87_11, ka_rf_87_12, ka_rf_87_14, ka_rf_87_15, ka_rf_87_16, ka_rf_87_19, ka_rf_87_20, ka_rf_87_21, ka_rf_87_22, ka_ln_63, ka_ln_64, ka_ln_65, ka_ln_68, ka_ln_69, ka_ln_70, ka_ln_76, ka_ln_77, ka_ln_78, ka_ln_80, ka_ln_82, ka_ln_84, ka_ln_86, ka_ln_88, ka_ln_89, ka_ln_90, ka_ln_91, ka_ln_92, ka_ln_93, ka_ln_94, ka_ln_95, ka_ln_96, ka_ln_97, ka_ln_98, ka_ln_99, ka_ln_100, ka_st_r0 ka_k_1, ka_st_k1 ka_k_1, ka_st_l1 ka_k_1, ka_st_ra ka_k_1 hk8, ka_st_kn ka_k_1 hk8, sp_100, sp_106, ka_b_0, and_self, e1, c1, ka_t_0, ka_t_3, t3, la1, la2, hin, kn_put_r, kn_row_at, kn_row_row, oK, x0, x1, hQ, hV, sp_60_4_3 q2, hb]
  · simp only [x189_0, x189_1, x189_2, x189_5, x189_8, x189_9, x189_10, x189_11, x189_14, x189_17, x189_20, x189_21, x189_22, x189_25, x189_26, x189_27, x189_28, x189_31, x189_32, x189_33, x189_36, x189_37, x189_40, x189_42, x189_43, x189_46, x189_47, x189_49, x189_50, x189_53, x189_56, x189_57, x189_58, x189_61, x189_62, x189_64, x189_65, x189_68, x189_71, x189_72, x189_73, x189_76, x189_77, x189_79, x189_80, x189_83, x189_86, x189_87, x189_89, x189_90, x189_93, ka_kk_i, ka_kk_n, ka_cl_i, ka_cl_r, ka_cl_n, or_true, true_or, ka_ne2, ka_ne4, ka_ne5, ka_ne10, not_false_eq_true, not_true_eq_false, if_true, if_false, ka_k_0, ka_k_1, ka_k_2, ka_k_3, ka_k_4, ka_k_5, ka_k_6, ka_k_7, ka_k_8, ka_k_9, ka_k_10, ka_k_11, ka_k_12, ka_k_13, ka_k_14, ka_k_15, ka_k_16, ka_k_17, ka_k_18, ka_k_19, ka_k_20, ka_k_21, ka_k_22, ka_k_23, ka_k_24, ka_k_25, ka_k_26, ka_k_27, ka_k_28, ka_k_29, ka_k_30, ka_k_31, ka_k_32, ka_k_33, ka_k_34, ka_k_35, ka_k_36, ka_k_37, ka_k_38, ka_k_39, ka_k_40, ka_k_41, ka_k_42, ka_k_43, ka_k_44, ka_k_45, ka_k_46, ka_k_47, ka_k_48, ka_k_49, ka_k_50, ka_k_51, ka_k_52, ka_k_53, ka_k_54, ka_k_55, ka_k_56, ka_k_57, ka_k_58, ka_k_59, ka_k_60, ka_k_61, ka_k_62, ka_k_63, ka_k_64, ka_k_65, ka_k_66, ka_k_67, ka_k_68, ka_k_69, ka_k_70, ka_k_71, ka_k_72, ka_k_73, ka_k_74, ka_k_75, ka_k_76, ka_k_77, ka_k_78, ka_k_79, ka_k_80, ka_k_81, ka_k_82, ka_k_83, ka_k_84, ka_k_85, ka_k_86, ka_k_87, ka_k_88, ka_k_89, ka_k_90, ka_k_91, ka_k_92, ka_k_93, ka_k_94, ka_k_95, ka_k_96, ka_k_97, ka_k_98, ka_k_99, ka_k_100, ka_rf_0_0, ka_rf_0_1, ka_rf_0_2, ka_rf_0_4, ka_rf_0_5, ka_rf_0_6, ka_rf_0_7, ka_rf_0_8, ka_rf_0_9, ka_rf_61_0, ka_rf_61_2, ka_rf_67_0, ka_rf_67_1, ka_rf_67_2, ka_rf_75_0, ka_rf_87_0, ka_rf_87_1, ka_rf_87_2, ka_rf_87_4, ka_rf_87_11, ka_rf_87_12, ka_rf_87_14, ka_rf_87_15, ka_rf_87_16, ka_rf_87_19, ka_rf_87_20, ka_rf_87_21, ka_rf_87_22, ka_ln_63, ka_ln_64, ka_ln_65, ka_ln_68, ka_ln_69, ka_ln_70, ka_ln_76, ka_ln_77, ka_ln_78, ka_ln_80, ka_ln_82, ka_ln_84, ka_ln_86, ka_ln_88, ka_ln_89, ka_ln_90, ka_ln_91, ka_ln_92, ka_ln_93, ka_ln_94, ka_ln_95, ka_ln_96, ka_ln_97, ka_ln_98, ka_ln_99, ka_ln_100, sp_100, sp_106, sp_109, sp_110, sp_111, sp_112, sp_113, sp_117, sp_191, ka_i64, ka_b_0, ka_one0, and_self, ka_lit64_69, ka_lit64_5, ka_lit64_99, ka_lit64_8, ka_lit64_48, ka_lit64_57, ka_lit64_9, ka_lit64_6, ka_lit64_3, ka_lit64_60, ka_lit64_20, ka_lit64_12, ka_lit64_4, ka_lit64_400, ka_lit64_999, ka_lit64_m1, ka_lit64_1, ka_l0, ka_t_0, ka_t_1, ka_t_3, ka_t_4, ka_t_6, ka_t_7, ka_t_9, ka_t_5, ka_t_8, ka_t_60, ka_t_69, ka_t_99, ka_t_400, ka_t_999, ka_t_m1, ka_lit64_69, ka_lit64_5, ka_lit64_99, ka_lit64_8, ka_lit64_48, ka_lit64_57, ka_lit64_9, ka_lit64_6, ka_lit64_3, ka_lit64_60, ka_lit64_20, ka_lit64_12, ka_lit64_4, ka_lit64_400, ka_lit64_999, ka_lit64_m1, ka_lit64_1, ka_i64, ka_l0, sp_121' q9, g88, g87, c1, t3, la1, la2, z0, z1, z2, kn_put_r, kn_row_at, kn_row_row, hQ2, hW, sp_184w r18 hkk k0, hm]
theorem op_voice_5_0 {k x : Int32} (h : Inv X) (c1 : 0 ≤ k.toInt ∧ k.toInt < (X 88 9).toInt) (hK : md_kd (X 88) k.toNatClampNeg 0 = 5) : op sc (d + 12) 87 189 [.ref 0, .int k, .int 0, .int x] [.ref 87, .int k, .int 0, .int x, ka_nv] X := by
  have e1 : X 1 1 = X 88 9 := h.1.1.1.1
  have hD := h.1.2.1
  have hN := hD.1
  have hk8 : k.toNatClampNeg < 8 := by rw [ka_nc]; omega
  have hk : k.toNatClampNeg < (X 88 9).toInt.toNat := by rw [ka_nc]; omega
  have hin : ka_in k 8 := ka_inI.mpr (by omega)
  have hkk : 0 ≤ k.toInt ∧ k.toInt < 8 := by omega
  have hx : ∀ f, f < 9 → X (1 + 12 + k.toNatClampNeg) f = md_kd (X 88) k.toNatClampNeg f := h.1.1.2.2.1 _ hk
  have hok := hD.2.1 _ hk
  have t0 : ((0 : Int32).toInt) = 0 := rfl
  have la1 : ((0 : Int) ≤ 0) = True := by decide
  have la2 : ((0 : Int) ≤ 3) = True := by decide
  have z0 : ((0 : Int32) = 0) = True := by decide
  have z1 : ((0 : Int32) = 1) = False := by decide
  have z2 : ((0 : Int32) = 2) = False := by decide
  generalize hM : md_kd (X 88) k.toNatClampNeg 1 = M at *
  have x0 : X (1 + 12 + k.toNatClampNeg) 0 = 5 := (hx 0 (by decide)).trans hK
  have x1 : X (1 + 12 + k.toNatClampNeg) 1 = M := (hx 1 (by decide)).trans hM
  have oK : ∀ q : Nat → Int32, kn_row X 75 q (1 + 12 + k.toNatClampNeg) = X (1 + 12 + k.toNatClampNeg) := fun q => kn_row_off (by omega)
  generalize hQ : kn_up (kn_up (kn_up (kn_up (X 75) 1 0) 2 5) 3 M) 4 k = Q
  have q1 : Q 1 = nI 0 := by rw [← hQ]; rfl
  have q2 : Q 2 = 5 := by rw [← hQ]; rfl
  have q3 : Q 3 = M := by rw [← hQ]; rfl
  have q4 : Q 4 = k := by rw [← hQ]; rfl
  have hV : kn_row X 75 Q = vm X Q 0 (X 76) := by
    unfold vm
    rw [kn_row_self, ← q1, kn_up_id]
  have hb := @vb_5_30 sc (d + 8) X Q M k 0 0 (X 76) x q2 q3 q4 (by decide) (by decide)
  have n0 : (nI 0) = 0 := rfl
  rw [n0] at hb
  generalize hG : vm X Q (0 + 1 + 1) (kn_up (kn_up (X 76) (0) 30) (0 + 1) 10) = G at hb
  have goff : ∀ p, ¬ p = 75 → ¬ p = 76 → G p = X p := by intro p a b; rw [← hG]; unfold vm; rw [kn_row_off a, kn_row_off b]
  have g87 : G 87 = X 87 := goff 87 (by decide) (by decide)
  have g88 : G 88 = X 88 := goff 88 (by decide) (by decide)
  have g96 : G 96 = X 96 := goff 96 (by decide) (by decide)
  have q9 : 0 ≤ (G 88 9).toInt := by rw [g88]; exact hN.1
  generalize hQ2 : kn_up (kn_up (X 87) 17 0) 18 k = Q2
  have r17 : Q2 17 = nI 0 := by rw [← hQ2]; rfl
  have r18 : Q2 18 = k := by rw [← hQ2]; rfl
  have r3 : Q2 3 = X 87 3 := by rw [← hQ2]; rfl
  have hW : kn_row G 87 Q2 = wm G Q2 0 (X 96) := by
    unfold wm
    rw [← g96, kn_row_self, ← r17, kn_up_id]
  have k0 : G 88 (13 + 9 * k.toNatClampNeg + 0) = 5 := by rw [g88]; exact hK
  have k1 : G 88 (13 + 9 * k.toNatClampNeg + 1) = M := by rw [g88]; exact hM
  have hm := @wb_5_cut_5 sc (d + 8) G Q2 M k 0 (X 96) x r18 hkk k0 k1 (by decide)
  have hi : Inv (wm G Q2 (0 + 1 + 1) (kn_up (kn_up (X 96) (0) 30) (0 + 1) 10)) := by
    rw [← hG]
    refine Inv_voice h (by decide) r3 (fun j hj => ?_)
    rcases (by omega : j = 0 ∨ j = 1) with rfl | rfl <;> rfl
  refine ⟨((x + k) * 3), G, wm G Q2 (0 + 1 + 1) (kn_up (kn_up (X 96) (0) 30) (0 + 1) 10), ?_, ?_, hi⟩
  · simp only [x87_0, x87_1, x87_2, x87_5, x87_8, x87_9, x87_10, x87_11, x87_14, x87_17, x87_18, x87_19, x87_22, x87_23, x87_24, x87_27, x87_28, x87_29, x87_32, x87_35, x87_36, x87_37, x87_38, x87_39, x87_42, x59_0, x59_1, x59_2, x59_5, x59_6, x59_7, x59_10, x59_13, x59_14, x59_15, x59_18, x59_21, x59_22, x59_23, x59_26, x59_27, x59_28, x59_29, x59_32, x59_34, x59_35, x59_38, x87_36 (Or.inl rfl) (ka_st_k1 ka_k_1), ka_kk_i, ka_kk_n, ka_cl_i, ka_cl_r, ka_cl_n, or_true, true_or, ka_ne2, ka_ne4, ka_ne5, ka_ne10, not_false_eq_true, not_true_eq_false, if_true, if_false, ka_k_0, ka_k_1, ka_k_2, ka_k_3, ka_k_4, ka_k_5, ka_k_6, ka_k_7, ka_k_8, ka_k_9, ka_k_10, ka_k_11, ka_k_12, ka_k_13, ka_k_14, ka_k_15, ka_k_16, ka_k_17, ka_k_18, ka_k_19, ka_k_20, ka_k_21, ka_k_22, ka_k_23, ka_k_24, ka_k_25, ka_k_26, ka_k_27, ka_k_28, ka_k_29, ka_k_30, ka_k_31, ka_k_32, ka_k_33, ka_k_34, ka_k_35, ka_k_36, ka_k_37, ka_k_38, ka_k_39, ka_k_40, ka_k_41, ka_k_42, ka_k_43, ka_k_44, ka_k_45, ka_k_46, ka_k_47, ka_k_48, ka_k_49, ka_k_50, ka_k_51, ka_k_52, ka_k_53, ka_k_54, ka_k_55, ka_k_56, ka_k_57, ka_k_58, ka_k_59, ka_k_60, ka_k_61, ka_k_62, ka_k_63, ka_k_64, ka_k_65, ka_k_66, ka_k_67, ka_k_68, ka_k_69, ka_k_70, ka_k_71, ka_k_72, ka_k_73, ka_k_74, ka_k_75, ka_k_76, ka_k_77, ka_k_78, ka_k_79, ka_k_80, ka_k_81, ka_k_82, ka_k_83, ka_k_84, ka_k_85, ka_k_86, ka_k_87, ka_k_88, ka_k_89, ka_k_90, ka_k_91, ka_k_92, ka_k_93, ka_k_94, ka_k_95, ka_k_96, ka_k_97, ka_k_98, ka_k_99, ka_k_100, ka_rf_0_0, ka_rf_0_1, ka_rf_0_2, ka_rf_0_4, ka_rf_0_5, ka_rf_0_6, ka_rf_0_7, ka_rf_0_8, ka_rf_0_9, ka_rf_61_0, ka_rf_61_2, ka_rf_67_0, ka_rf_67_1, ka_rf_67_2, ka_rf_75_0, ka_rf_87_0, ka_rf_87_1, ka_rf_87_2, ka_rf_87_4, ka_rf_87_11, ka_rf_87_12, ka_rf_87_14, ka_rf_87_15, ka_rf_87_16, ka_rf_87_19, ka_rf_87_20, ka_rf_87_21, ka_rf_87_22, ka_ln_63, ka_ln_64, ka_ln_65, ka_ln_68, ka_ln_69, ka_ln_70, ka_ln_76, ka_ln_77, ka_ln_78, ka_ln_80, ka_ln_82, ka_ln_84, ka_ln_86, ka_ln_88, ka_ln_89, ka_ln_90, ka_ln_91, ka_ln_92, ka_ln_93, ka_ln_94, ka_ln_95, ka_ln_96, ka_ln_97, ka_ln_98, ka_ln_99, ka_ln_100, ka_st_r0 ka_k_1, ka_st_k1 ka_k_1, ka_st_l1 ka_k_1, ka_st_ra ka_k_1 hk8, ka_st_kn ka_k_1 hk8, sp_100, sp_106, ka_b_0, and_self, e1, c1, ka_t_0, ka_t_3, t0, la1, la2, hin, kn_put_r, kn_row_at, kn_row_row, oK, x0, x1, hQ, hV, sp_60_5_0 q2, hb]
  · simp only [x189_0, x189_1, x189_2, x189_5, x189_8, x189_9, x189_10, x189_11, x189_14, x189_17, x189_20, x189_21, x189_22, x189_25, x189_26, x189_27, x189_28, x189_31, x189_32, x189_33, x189_36, x189_37, x189_40, x189_42, x189_43, x189_46, x189_47, x189_49, x189_50, x189_53, x189_56, x189_57, x189_58, x189_61, x189_62, x189_64, x189_65, x189_68, x189_71, x189_72, x189_73, x189_76, x189_77, x189_79, x189_80, x189_83, x189_86, x189_87, x189_89, x189_90, x189_93, ka_kk_i, ka_kk_n, ka_cl_i, ka_cl_r, ka_cl_n, or_true, true_or, ka_ne2, ka_ne4, ka_ne5, ka_ne10, not_false_eq_true, not_true_eq_false, if_true, if_false, ka_k_0, ka_k_1, ka_k_2, ka_k_3, ka_k_4, ka_k_5, ka_k_6, ka_k_7, ka_k_8, ka_k_9, ka_k_10, ka_k_11, ka_k_12, ka_k_13, ka_k_14, ka_k_15, ka_k_16, ka_k_17, ka_k_18, ka_k_19, ka_k_20, ka_k_21, ka_k_22, ka_k_23, ka_k_24, ka_k_25, ka_k_26, ka_k_27, ka_k_28, ka_k_29, ka_k_30, ka_k_31, ka_k_32, ka_k_33, ka_k_34, ka_k_35, ka_k_36, ka_k_37, ka_k_38, ka_k_39, ka_k_40, ka_k_41, ka_k_42, ka_k_43, ka_k_44, ka_k_45, ka_k_46, ka_k_47, ka_k_48, ka_k_49, ka_k_50, ka_k_51, ka_k_52, ka_k_53, ka_k_54, ka_k_55, ka_k_56, ka_k_57, ka_k_58, ka_k_59, ka_k_60, ka_k_61, ka_k_62, ka_k_63, ka_k_64, ka_k_65, ka_k_66, ka_k_67, ka_k_68, ka_k_69, ka_k_70, ka_k_71, ka_k_72, ka_k_73, ka_k_74, ka_k_75, ka_k_76, ka_k_77, ka_k_78, ka_k_79, ka_k_80, ka_k_81, ka_k_82, ka_k_83, ka_k_84, ka_k_85, ka_k_86, ka_k_87, ka_k_88, ka_k_89, ka_k_90, ka_k_91, ka_k_92, ka_k_93, ka_k_94, ka_k_95, ka_k_96, ka_k_97, ka_k_98, ka_k_99, ka_k_100, ka_rf_0_0, ka_rf_0_1, ka_rf_0_2, ka_rf_0_4, ka_rf_0_5, ka_rf_0_6, ka_rf_0_7, ka_rf_0_8, ka_rf_0_9, ka_rf_61_0, ka_rf_61_2, ka_rf_67_0, ka_rf_67_1, ka_rf_67_2, ka_rf_75_0, ka_rf_87_0, ka_rf_87_1, ka_rf_87_2, ka_rf_87_4, ka_rf_87_11, ka_rf_87_12, ka_rf_87_14, ka_rf_87_15, ka_rf_87_16, ka_rf_87_19, ka_rf_87_20, ka_rf_87_21, ka_rf_87_22, ka_ln_63, ka_ln_64, ka_ln_65, ka_ln_68, ka_ln_69, ka_ln_70, ka_ln_76, ka_ln_77, ka_ln_78, ka_ln_80, ka_ln_82, ka_ln_84, ka_ln_86, ka_ln_88, ka_ln_89, ka_ln_90, ka_ln_91, ka_ln_92, ka_ln_93, ka_ln_94, ka_ln_95, ka_ln_96, ka_ln_97, ka_ln_98, ka_ln_99, ka_ln_100, sp_100, sp_106, sp_109, sp_110, sp_111, sp_112, sp_113, sp_117, sp_191, ka_i64, ka_b_0, ka_one0, and_self, ka_lit64_69, ka_lit64_5, ka_lit64_99, ka_lit64_8, ka_lit64_48, ka_lit64_57, ka_lit64_9, ka_lit64_6, ka_lit64_3, ka_lit64_60, ka_lit64_20, ka_lit64_12, ka_lit64_4, ka_lit64_400, ka_lit64_999, ka_lit64_m1, ka_lit64_1, ka_l0, ka_t_0, ka_t_1, ka_t_3, ka_t_4, ka_t_6, ka_t_7, ka_t_9, ka_t_5, ka_t_8, ka_t_60, ka_t_69, ka_t_99, ka_t_400, ka_t_999, ka_t_m1, ka_lit64_69, ka_lit64_5, ka_lit64_99, ka_lit64_8, ka_lit64_48, ka_lit64_57, ka_lit64_9, ka_lit64_6, ka_lit64_3, ka_lit64_60, ka_lit64_20, ka_lit64_12, ka_lit64_4, ka_lit64_400, ka_lit64_999, ka_lit64_m1, ka_lit64_1, ka_i64, ka_l0, sp_121' q9, g88, g87, c1, t0, la1, la2, z0, z1, z2, kn_put_r, kn_row_at, kn_row_row, hQ2, hW, sp_184w r18 hkk k0, hm]
theorem op_voice_5_1 {k x : Int32} (h : Inv X) (c1 : 0 ≤ k.toInt ∧ k.toInt < (X 88 9).toInt) (hK : md_kd (X 88) k.toNatClampNeg 0 = 5) : op sc (d + 12) 87 189 [.ref 0, .int k, .int 1, .int x] [.ref 87, .int k, .int 1, .int x, ka_nv] X := by
  have e1 : X 1 1 = X 88 9 := h.1.1.1.1
  have hD := h.1.2.1
  have hN := hD.1
  have hk8 : k.toNatClampNeg < 8 := by rw [ka_nc]; omega
  have hk : k.toNatClampNeg < (X 88 9).toInt.toNat := by rw [ka_nc]; omega
  have hin : ka_in k 8 := ka_inI.mpr (by omega)
  have hkk : 0 ≤ k.toInt ∧ k.toInt < 8 := by omega
  have hx : ∀ f, f < 9 → X (1 + 12 + k.toNatClampNeg) f = md_kd (X 88) k.toNatClampNeg f := h.1.1.2.2.1 _ hk
  have hok := hD.2.1 _ hk
  have t1 : ((1 : Int32).toInt) = 1 := rfl
  have la1 : ((0 : Int) ≤ 1) = True := by decide
  have la2 : ((1 : Int) ≤ 3) = True := by decide
  have z0 : ((1 : Int32) = 0) = False := by decide
  have z1 : ((1 : Int32) = 1) = True := by decide
  have z2 : ((1 : Int32) = 2) = False := by decide
  generalize hM : md_kd (X 88) k.toNatClampNeg 1 = M at *
  have x0 : X (1 + 12 + k.toNatClampNeg) 0 = 5 := (hx 0 (by decide)).trans hK
  have x1 : X (1 + 12 + k.toNatClampNeg) 1 = M := (hx 1 (by decide)).trans hM
  have oK : ∀ q : Nat → Int32, kn_row X 75 q (1 + 12 + k.toNatClampNeg) = X (1 + 12 + k.toNatClampNeg) := fun q => kn_row_off (by omega)
  generalize hQ : kn_up (kn_up (kn_up (kn_up (X 75) 1 0) 2 5) 3 M) 4 k = Q
  have q1 : Q 1 = nI 0 := by rw [← hQ]; rfl
  have q2 : Q 2 = 5 := by rw [← hQ]; rfl
  have q3 : Q 3 = M := by rw [← hQ]; rfl
  have q4 : Q 4 = k := by rw [← hQ]; rfl
  have hV : kn_row X 75 Q = vm X Q 0 (X 76) := by
    unfold vm
    rw [kn_row_self, ← q1, kn_up_id]
  have hb := @vb_5_11 sc (d + 7) X Q M k 0 0 (X 76) x q2 q3 q4 (by decide) (by decide)
  have n0 : (nI 0) = 0 := rfl
  rw [n0] at hb
  generalize hG : vm X Q (0 + 1 + 1 + 1) (kn_up (kn_up (kn_up (X 76) (0) 11) (0 + 1) 30) (0 + 1 + 1) 10) = G at hb
  have goff : ∀ p, ¬ p = 75 → ¬ p = 76 → G p = X p := by intro p a b; rw [← hG]; unfold vm; rw [kn_row_off a, kn_row_off b]
  have g87 : G 87 = X 87 := goff 87 (by decide) (by decide)
  have g88 : G 88 = X 88 := goff 88 (by decide) (by decide)
  have g96 : G 96 = X 96 := goff 96 (by decide) (by decide)
  have q9 : 0 ≤ (G 88 9).toInt := by rw [g88]; exact hN.1
  generalize hQ2 : kn_up (kn_up (X 87) 17 0) 18 k = Q2
  have r17 : Q2 17 = nI 0 := by rw [← hQ2]; rfl
  have r18 : Q2 18 = k := by rw [← hQ2]; rfl
  have r3 : Q2 3 = X 87 3 := by rw [← hQ2]; rfl
  have hW : kn_row G 87 Q2 = wm G Q2 0 (X 96) := by
    unfold wm
    rw [← g96, kn_row_self, ← r17, kn_up_id]
  have k0 : G 88 (13 + 9 * k.toNatClampNeg + 0) = 5 := by rw [g88]; exact hK
  have k1 : G 88 (13 + 9 * k.toNatClampNeg + 1) = M := by rw [g88]; exact hM
  have hm := @wb_5_rings_5 sc (d + 5) G Q2 M k 0 (X 96) x r18 hkk k0 k1 (by decide)
  have hi : Inv (wm G Q2 (0 + 1 + 1 + 1) (kn_up (kn_up (kn_up (X 96) (0) 11) (0 + 1) 30) (0 + 1 + 1) 10)) := by
    rw [← hG]
    refine Inv_voice h (by decide) r3 (fun j hj => ?_)
    rcases (by omega : j = 0 ∨ j = 1 ∨ j = 2) with rfl | rfl | rfl <;> rfl
  refine ⟨(((x + k) * 3) * 2), G, wm G Q2 (0 + 1 + 1 + 1) (kn_up (kn_up (kn_up (X 96) (0) 11) (0 + 1) 30) (0 + 1 + 1) 10), ?_, ?_, hi⟩
  · simp only [x87_0, x87_1, x87_2, x87_5, x87_8, x87_9, x87_10, x87_11, x87_14, x87_17, x87_18, x87_19, x87_22, x87_23, x87_24, x87_27, x87_28, x87_29, x87_32, x87_35, x87_36, x87_37, x87_38, x87_39, x87_42, x59_0, x59_1, x59_2, x59_5, x59_6, x59_7, x59_10, x59_13, x59_14, x59_15, x59_18, x59_21, x59_22, x59_23, x59_26, x59_27, x59_28, x59_29, x59_32, x59_34, x59_35, x59_38, x87_36 (Or.inl rfl) (ka_st_k1 ka_k_1), ka_kk_i, ka_kk_n, ka_cl_i, ka_cl_r, ka_cl_n, or_true, true_or, ka_ne2, ka_ne4, ka_ne5, ka_ne10, not_false_eq_true, not_true_eq_false, if_true, if_false, ka_k_0, ka_k_1, ka_k_2, ka_k_3, ka_k_4, ka_k_5, ka_k_6, ka_k_7, ka_k_8, ka_k_9, ka_k_10, ka_k_11, ka_k_12, ka_k_13, ka_k_14, ka_k_15, ka_k_16, ka_k_17, ka_k_18, ka_k_19, ka_k_20, ka_k_21, ka_k_22, ka_k_23, ka_k_24, ka_k_25, ka_k_26, ka_k_27, ka_k_28, ka_k_29, ka_k_30, ka_k_31, ka_k_32, ka_k_33, ka_k_34, ka_k_35, ka_k_36, ka_k_37, ka_k_38, ka_k_39, ka_k_40, ka_k_41, ka_k_42, ka_k_43, ka_k_44, ka_k_45, ka_k_46, ka_k_47, ka_k_48, ka_k_49, ka_k_50, ka_k_51, ka_k_52, ka_k_53, ka_k_54, ka_k_55, ka_k_56, ka_k_57, ka_k_58, ka_k_59, ka_k_60, ka_k_61, ka_k_62, ka_k_63, ka_k_64, ka_k_65, ka_k_66, ka_k_67, ka_k_68, ka_k_69, ka_k_70, ka_k_71, ka_k_72, ka_k_73, ka_k_74, ka_k_75, ka_k_76, ka_k_77, ka_k_78, ka_k_79, ka_k_80, ka_k_81, ka_k_82, ka_k_83, ka_k_84, ka_k_85, ka_k_86, ka_k_87, ka_k_88, ka_k_89, ka_k_90, ka_k_91, ka_k_92, ka_k_93, ka_k_94, ka_k_95, ka_k_96, ka_k_97, ka_k_98, ka_k_99, ka_k_100, ka_rf_0_0, ka_rf_0_1, ka_rf_0_2, ka_rf_0_4, ka_rf_0_5, ka_rf_0_6, ka_rf_0_7, ka_rf_0_8, ka_rf_0_9, ka_rf_61_0, ka_rf_61_2, ka_rf_67_0, ka_rf_67_1, ka_rf_67_2, ka_rf_75_0, ka_rf_87_0, ka_rf_87_1, ka_rf_87_2, ka_rf_87_4, ka_rf_87_11, ka_rf_87_12, ka_rf_87_14, ka_rf_87_15, ka_rf_87_16, ka_rf_87_19, ka_rf_87_20, ka_rf_87_21, ka_rf_87_22, ka_ln_63, ka_ln_64, ka_ln_65, ka_ln_68, ka_ln_69, ka_ln_70, ka_ln_76, ka_ln_77, ka_ln_78, ka_ln_80, ka_ln_82, ka_ln_84, ka_ln_86, ka_ln_88, ka_ln_89, ka_ln_90, ka_ln_91, ka_ln_92, ka_ln_93, ka_ln_94, ka_ln_95, ka_ln_96, ka_ln_97, ka_ln_98, ka_ln_99, ka_ln_100, ka_st_r0 ka_k_1, ka_st_k1 ka_k_1, ka_st_l1 ka_k_1, ka_st_ra ka_k_1 hk8, ka_st_kn ka_k_1 hk8, sp_100, sp_106, ka_b_0, and_self, e1, c1, ka_t_0, ka_t_3, t1, la1, la2, hin, kn_put_r, kn_row_at, kn_row_row, oK, x0, x1, hQ, hV, sp_60_5_1 q2, hb]
  · simp only [x189_0, x189_1, x189_2, x189_5, x189_8, x189_9, x189_10, x189_11, x189_14, x189_17, x189_20, x189_21, x189_22, x189_25, x189_26, x189_27, x189_28, x189_31, x189_32, x189_33, x189_36, x189_37, x189_40, x189_42, x189_43, x189_46, x189_47, x189_49, x189_50, x189_53, x189_56, x189_57, x189_58, x189_61, x189_62, x189_64, x189_65, x189_68, x189_71, x189_72, x189_73, x189_76, x189_77, x189_79, x189_80, x189_83, x189_86, x189_87, x189_89, x189_90, x189_93, ka_kk_i, ka_kk_n, ka_cl_i, ka_cl_r, ka_cl_n, or_true, true_or, ka_ne2, ka_ne4, ka_ne5, ka_ne10, not_false_eq_true, not_true_eq_false, if_true, if_false, ka_k_0, ka_k_1, ka_k_2, ka_k_3, ka_k_4, ka_k_5, ka_k_6, ka_k_7, ka_k_8, ka_k_9, ka_k_10, ka_k_11, ka_k_12, ka_k_13, ka_k_14, ka_k_15, ka_k_16, ka_k_17, ka_k_18, ka_k_19, ka_k_20, ka_k_21, ka_k_22, ka_k_23, ka_k_24, ka_k_25, ka_k_26, ka_k_27, ka_k_28, ka_k_29, ka_k_30, ka_k_31, ka_k_32, ka_k_33, ka_k_34, ka_k_35, ka_k_36, ka_k_37, ka_k_38, ka_k_39, ka_k_40, ka_k_41, ka_k_42, ka_k_43, ka_k_44, ka_k_45, ka_k_46, ka_k_47, ka_k_48, ka_k_49, ka_k_50, ka_k_51, ka_k_52, ka_k_53, ka_k_54, ka_k_55, ka_k_56, ka_k_57, ka_k_58, ka_k_59, ka_k_60, ka_k_61, ka_k_62, ka_k_63, ka_k_64, ka_k_65, ka_k_66, ka_k_67, ka_k_68, ka_k_69, ka_k_70, ka_k_71, ka_k_72, ka_k_73, ka_k_74, ka_k_75, ka_k_76, ka_k_77, ka_k_78, ka_k_79, ka_k_80, ka_k_81, ka_k_82, ka_k_83, ka_k_84, ka_k_85, ka_k_86, ka_k_87, ka_k_88, ka_k_89, ka_k_90, ka_k_91, ka_k_92, ka_k_93, ka_k_94, ka_k_95, ka_k_96, ka_k_97, ka_k_98, ka_k_99, ka_k_100, ka_rf_0_0, ka_rf_0_1, ka_rf_0_2, ka_rf_0_4, ka_rf_0_5, ka_rf_0_6, ka_rf_0_7, ka_rf_0_8, ka_rf_0_9, ka_rf_61_0, ka_rf_61_2, ka_rf_67_0, ka_rf_67_1, ka_rf_67_2, ka_rf_75_0, ka_rf_87_0, ka_rf_87_1, ka_rf_87_2, ka_rf_87_4, ka_rf_87_11, ka_rf_87_12, ka_rf_87_14, ka_rf_87_15, ka_rf_87_16, ka_rf_87_19, ka_rf_87_20, ka_rf_87_21, ka_rf_87_22, ka_ln_63, ka_ln_64, ka_ln_65, ka_ln_68, ka_ln_69, ka_ln_70, ka_ln_76, ka_ln_77, ka_ln_78, ka_ln_80, ka_ln_82, ka_ln_84, ka_ln_86, ka_ln_88, ka_ln_89, ka_ln_90, ka_ln_91, ka_ln_92, ka_ln_93, ka_ln_94, ka_ln_95, ka_ln_96, ka_ln_97, ka_ln_98, ka_ln_99, ka_ln_100, sp_100, sp_106, sp_109, sp_110, sp_111, sp_112, sp_113, sp_117, sp_191, ka_i64, ka_b_0, ka_one0, and_self, ka_lit64_69, ka_lit64_5, ka_lit64_99, ka_lit64_8, ka_lit64_48, ka_lit64_57, ka_lit64_9, ka_lit64_6, ka_lit64_3, ka_lit64_60, ka_lit64_20, ka_lit64_12, ka_lit64_4, ka_lit64_400, ka_lit64_999, ka_lit64_m1, ka_lit64_1, ka_l0, ka_t_0, ka_t_1, ka_t_3, ka_t_4, ka_t_6, ka_t_7, ka_t_9, ka_t_5, ka_t_8, ka_t_60, ka_t_69, ka_t_99, ka_t_400, ka_t_999, ka_t_m1, ka_lit64_69, ka_lit64_5, ka_lit64_99, ka_lit64_8, ka_lit64_48, ka_lit64_57, ka_lit64_9, ka_lit64_6, ka_lit64_3, ka_lit64_60, ka_lit64_20, ka_lit64_12, ka_lit64_4, ka_lit64_400, ka_lit64_999, ka_lit64_m1, ka_lit64_1, ka_i64, ka_l0, sp_121' q9, g88, g87, c1, t1, la1, la2, z0, z1, z2, kn_put_r, kn_row_at, kn_row_row, hQ2, hW, sp_184w r18 hkk k0, hm]
theorem op_voice_5_2 {k x : Int32} (h : Inv X) (c1 : 0 ≤ k.toInt ∧ k.toInt < (X 88 9).toInt) (hK : md_kd (X 88) k.toNatClampNeg 0 = 5) : op sc (d + 12) 87 189 [.ref 0, .int k, .int 2, .int x] [.ref 87, .int k, .int 2, .int x, ka_nv] X := by
  have e1 : X 1 1 = X 88 9 := h.1.1.1.1
  have hD := h.1.2.1
  have hN := hD.1
  have hk8 : k.toNatClampNeg < 8 := by rw [ka_nc]; omega
  have hk : k.toNatClampNeg < (X 88 9).toInt.toNat := by rw [ka_nc]; omega
  have hin : ka_in k 8 := ka_inI.mpr (by omega)
  have hkk : 0 ≤ k.toInt ∧ k.toInt < 8 := by omega
  have hx : ∀ f, f < 9 → X (1 + 12 + k.toNatClampNeg) f = md_kd (X 88) k.toNatClampNeg f := h.1.1.2.2.1 _ hk
  have hok := hD.2.1 _ hk
  have t2 : ((2 : Int32).toInt) = 2 := rfl
  have la1 : ((0 : Int) ≤ 2) = True := by decide
  have la2 : ((2 : Int) ≤ 3) = True := by decide
  have z0 : ((2 : Int32) = 0) = False := by decide
  have z1 : ((2 : Int32) = 1) = False := by decide
  have z2 : ((2 : Int32) = 2) = True := by decide
  generalize hM : md_kd (X 88) k.toNatClampNeg 1 = M at *
  have x0 : X (1 + 12 + k.toNatClampNeg) 0 = 5 := (hx 0 (by decide)).trans hK
  have x1 : X (1 + 12 + k.toNatClampNeg) 1 = M := (hx 1 (by decide)).trans hM
  have oK : ∀ q : Nat → Int32, kn_row X 75 q (1 + 12 + k.toNatClampNeg) = X (1 + 12 + k.toNatClampNeg) := fun q => kn_row_off (by omega)
  generalize hQ : kn_up (kn_up (kn_up (kn_up (X 75) 1 0) 2 5) 3 M) 4 k = Q
  have q1 : Q 1 = nI 0 := by rw [← hQ]; rfl
  have q2 : Q 2 = 5 := by rw [← hQ]; rfl
  have q3 : Q 3 = M := by rw [← hQ]; rfl
  have q4 : Q 4 = k := by rw [← hQ]; rfl
  have hV : kn_row X 75 Q = vm X Q 0 (X 76) := by
    unfold vm
    rw [kn_row_self, ← q1, kn_up_id]
  have hb := @vb_5_12 sc (d + 9) X Q M k 0 0 (X 76) x q2 q3 q4 (by decide) (by decide)
  have n0 : (nI 0) = 0 := rfl
  rw [n0] at hb
  generalize hG : vm X Q (0 + 1) (kn_up (X 76) (0) 12) = G at hb
  have goff : ∀ p, ¬ p = 75 → ¬ p = 76 → G p = X p := by intro p a b; rw [← hG]; unfold vm; rw [kn_row_off a, kn_row_off b]
  have g87 : G 87 = X 87 := goff 87 (by decide) (by decide)
  have g88 : G 88 = X 88 := goff 88 (by decide) (by decide)
  have g96 : G 96 = X 96 := goff 96 (by decide) (by decide)
  have q9 : 0 ≤ (G 88 9).toInt := by rw [g88]; exact hN.1
  generalize hQ2 : kn_up (kn_up (X 87) 17 0) 18 k = Q2
  have r17 : Q2 17 = nI 0 := by rw [← hQ2]; rfl
  have r18 : Q2 18 = k := by rw [← hQ2]; rfl
  have r3 : Q2 3 = X 87 3 := by rw [← hQ2]; rfl
  have hW : kn_row G 87 Q2 = wm G Q2 0 (X 96) := by
    unfold wm
    rw [← g96, kn_row_self, ← r17, kn_up_id]
  have k0 : G 88 (13 + 9 * k.toNatClampNeg + 0) = 5 := by rw [g88]; exact hK
  have k1 : G 88 (13 + 9 * k.toNatClampNeg + 1) = M := by rw [g88]; exact hM
  have hm := @wb_5_grind_5 sc (d + 8) G Q2 M k 0 (X 96) x r18 hkk k0 k1 (by decide)
  have hi : Inv (wm G Q2 (0 + 1) (kn_up (X 96) (0) 12)) := by
    rw [← hG]
    refine Inv_voice h (by decide) r3 (fun j hj => ?_)
    rcases (by omega : j = 0) with rfl <;> rfl
  refine ⟨(x - M), G, wm G Q2 (0 + 1) (kn_up (X 96) (0) 12), ?_, ?_, hi⟩
  · simp only [x87_0, x87_1, x87_2, x87_5, x87_8, x87_9, x87_10, x87_11, x87_14, x87_17, x87_18, x87_19, x87_22, x87_23, x87_24, x87_27, x87_28, x87_29, x87_32, x87_35, x87_36, x87_37, x87_38, x87_39, x87_42, x59_0, x59_1, x59_2, x59_5, x59_6, x59_7, x59_10, x59_13, x59_14, x59_15, x59_18, x59_21, x59_22, x59_23, x59_26, x59_27, x59_28, x59_29, x59_32, x59_34, x59_35, x59_38, x87_36 (Or.inl rfl) (ka_st_k1 ka_k_1), ka_kk_i, ka_kk_n, ka_cl_i, ka_cl_r, ka_cl_n, or_true, true_or, ka_ne2, ka_ne4, ka_ne5, ka_ne10, not_false_eq_true, not_true_eq_false, if_true, if_false, ka_k_0, ka_k_1, ka_k_2, ka_k_3, ka_k_4, ka_k_5, ka_k_6, ka_k_7, ka_k_8, ka_k_9, ka_k_10, ka_k_11, ka_k_12, ka_k_13, ka_k_14, ka_k_15, ka_k_16, ka_k_17, ka_k_18, ka_k_19, ka_k_20, ka_k_21, ka_k_22, ka_k_23, ka_k_24, ka_k_25, ka_k_26, ka_k_27, ka_k_28, ka_k_29, ka_k_30, ka_k_31, ka_k_32, ka_k_33, ka_k_34, ka_k_35, ka_k_36, ka_k_37, ka_k_38, ka_k_39, ka_k_40, ka_k_41, ka_k_42, ka_k_43, ka_k_44, ka_k_45, ka_k_46, ka_k_47, ka_k_48, ka_k_49, ka_k_50, ka_k_51, ka_k_52, ka_k_53, ka_k_54, ka_k_55, ka_k_56, ka_k_57, ka_k_58, ka_k_59, ka_k_60, ka_k_61, ka_k_62, ka_k_63, ka_k_64, ka_k_65, ka_k_66, ka_k_67, ka_k_68, ka_k_69, ka_k_70, ka_k_71, ka_k_72, ka_k_73, ka_k_74, ka_k_75, ka_k_76, ka_k_77, ka_k_78, ka_k_79, ka_k_80, ka_k_81, ka_k_82, ka_k_83, ka_k_84, ka_k_85, ka_k_86, ka_k_87, ka_k_88, ka_k_89, ka_k_90, ka_k_91, ka_k_92, ka_k_93, ka_k_94, ka_k_95, ka_k_96, ka_k_97, ka_k_98, ka_k_99, ka_k_100, ka_rf_0_0, ka_rf_0_1, ka_rf_0_2, ka_rf_0_4, ka_rf_0_5, ka_rf_0_6, ka_rf_0_7, ka_rf_0_8, ka_rf_0_9, ka_rf_61_0, ka_rf_61_2, ka_rf_67_0, ka_rf_67_1, ka_rf_67_2, ka_rf_75_0, ka_rf_87_0, ka_rf_87_1, ka_rf_87_2, ka_rf_87_4, ka_rf_87_11, ka_rf_87_12, ka_rf_87_14, ka_rf_87_15, ka_rf_87_16, ka_rf_87_19, ka_rf_87_20, ka_rf_87_21, ka_rf_87_22, ka_ln_63, ka_ln_64, ka_ln_65, ka_ln_68, ka_ln_69, ka_ln_70, ka_ln_76, ka_ln_77, ka_ln_78, ka_ln_80, ka_ln_82, ka_ln_84, ka_ln_86, ka_ln_88, ka_ln_89, ka_ln_90, ka_ln_91, ka_ln_92, ka_ln_93, ka_ln_94, ka_ln_95, ka_ln_96, ka_ln_97, ka_ln_98, ka_ln_99, ka_ln_100, ka_st_r0 ka_k_1, ka_st_k1 ka_k_1, ka_st_l1 ka_k_1, ka_st_ra ka_k_1 hk8, ka_st_kn ka_k_1 hk8, sp_100, sp_106, ka_b_0, and_self, e1, c1, ka_t_0, ka_t_3, t2, la1, la2, hin, kn_put_r, kn_row_at, kn_row_row, oK, x0, x1, hQ, hV, sp_60_5_2 q2, hb]
  · simp only [x189_0, x189_1, x189_2, x189_5, x189_8, x189_9, x189_10, x189_11, x189_14, x189_17, x189_20, x189_21, x189_22, x189_25, x189_26, x189_27, x189_28, x189_31, x189_32, x189_33, x189_36, x189_37, x189_40, x189_42, x189_43, x189_46, x189_47, x189_49, x189_50, x189_53, x189_56, x189_57, x189_58, x189_61, x189_62, x189_64, x189_65, x189_68, x189_71, x189_72, x189_73, x189_76, x189_77, x189_79, x189_80, x189_83, x189_86, x189_87, x189_89, x189_90, x189_93, ka_kk_i, ka_kk_n, ka_cl_i, ka_cl_r, ka_cl_n, or_true, true_or, ka_ne2, ka_ne4, ka_ne5, ka_ne10, not_false_eq_true, not_true_eq_false, if_true, if_false, ka_k_0, ka_k_1, ka_k_2, ka_k_3, ka_k_4, ka_k_5, ka_k_6, ka_k_7, ka_k_8, ka_k_9, ka_k_10, ka_k_11, ka_k_12, ka_k_13, ka_k_14, ka_k_15, ka_k_16, ka_k_17, ka_k_18, ka_k_19, ka_k_20, ka_k_21, ka_k_22, ka_k_23, ka_k_24, ka_k_25, ka_k_26, ka_k_27, ka_k_28, ka_k_29, ka_k_30, ka_k_31, ka_k_32, ka_k_33, ka_k_34, ka_k_35, ka_k_36, ka_k_37, ka_k_38, ka_k_39, ka_k_40, ka_k_41, ka_k_42, ka_k_43, ka_k_44, ka_k_45, ka_k_46, ka_k_47, ka_k_48, ka_k_49, ka_k_50, ka_k_51, ka_k_52, ka_k_53, ka_k_54, ka_k_55, ka_k_56, ka_k_57, ka_k_58, ka_k_59, ka_k_60, ka_k_61, ka_k_62, ka_k_63, ka_k_64, ka_k_65, ka_k_66, ka_k_67, ka_k_68, ka_k_69, ka_k_70, ka_k_71, ka_k_72, ka_k_73, ka_k_74, ka_k_75, ka_k_76, ka_k_77, ka_k_78, ka_k_79, ka_k_80, ka_k_81, ka_k_82, ka_k_83, ka_k_84, ka_k_85, ka_k_86, ka_k_87, ka_k_88, ka_k_89, ka_k_90, ka_k_91, ka_k_92, ka_k_93, ka_k_94, ka_k_95, ka_k_96, ka_k_97, ka_k_98, ka_k_99, ka_k_100, ka_rf_0_0, ka_rf_0_1, ka_rf_0_2, ka_rf_0_4, ka_rf_0_5, ka_rf_0_6, ka_rf_0_7, ka_rf_0_8, ka_rf_0_9, ka_rf_61_0, ka_rf_61_2, ka_rf_67_0, ka_rf_67_1, ka_rf_67_2, ka_rf_75_0, ka_rf_87_0, ka_rf_87_1, ka_rf_87_2, ka_rf_87_4, ka_rf_87_11, ka_rf_87_12, ka_rf_87_14, ka_rf_87_15, ka_rf_87_16, ka_rf_87_19, ka_rf_87_20, ka_rf_87_21, ka_rf_87_22, ka_ln_63, ka_ln_64, ka_ln_65, ka_ln_68, ka_ln_69, ka_ln_70, ka_ln_76, ka_ln_77, ka_ln_78, ka_ln_80, ka_ln_82, ka_ln_84, ka_ln_86, ka_ln_88, ka_ln_89, ka_ln_90, ka_ln_91, ka_ln_92, ka_ln_93, ka_ln_94, ka_ln_95, ka_ln_96, ka_ln_97, ka_ln_98, ka_ln_99, ka_ln_100, sp_100, sp_106, sp_109, sp_110, sp_111, sp_112, sp_113, sp_117, sp_191, ka_i64, ka_b_0, ka_one0, and_self, ka_lit64_69, ka_lit64_5, ka_lit64_99, ka_lit64_8, ka_lit64_48, ka_lit64_57, ka_lit64_9, ka_lit64_6, ka_lit64_3, ka_lit64_60, ka_lit64_20, ka_lit64_12, ka_lit64_4, ka_lit64_400, ka_lit64_999, ka_lit64_m1, ka_lit64_1, ka_l0, ka_t_0, ka_t_1, ka_t_3, ka_t_4, ka_t_6, ka_t_7, ka_t_9, ka_t_5, ka_t_8, ka_t_60, ka_t_69, ka_t_99, ka_t_400, ka_t_999, ka_t_m1, ka_lit64_69, ka_lit64_5, ka_lit64_99, ka_lit64_8, ka_lit64_48, ka_lit64_57, ka_lit64_9, ka_lit64_6, ka_lit64_3, ka_lit64_60, ka_lit64_20, ka_lit64_12, ka_lit64_4, ka_lit64_400, ka_lit64_999, ka_lit64_m1, ka_lit64_1, ka_i64, ka_l0, sp_121' q9, g88, g87, c1, t2, la1, la2, z0, z1, z2, kn_put_r, kn_row_at, kn_row_row, hQ2, hW, sp_184w r18 hkk k0, hm]
theorem op_voice_5_3 {k x : Int32} (h : Inv X) (c1 : 0 ≤ k.toInt ∧ k.toInt < (X 88 9).toInt) (hK : md_kd (X 88) k.toNatClampNeg 0 = 5) : op sc (d + 12) 87 189 [.ref 0, .int k, .int 3, .int x] [.ref 87, .int k, .int 3, .int x, ka_nv] X := by
  have e1 : X 1 1 = X 88 9 := h.1.1.1.1
  have hD := h.1.2.1
  have hN := hD.1
  have hk8 : k.toNatClampNeg < 8 := by rw [ka_nc]; omega
  have hk : k.toNatClampNeg < (X 88 9).toInt.toNat := by rw [ka_nc]; omega
  have hin : ka_in k 8 := ka_inI.mpr (by omega)
  have hkk : 0 ≤ k.toInt ∧ k.toInt < 8 := by omega
  have hx : ∀ f, f < 9 → X (1 + 12 + k.toNatClampNeg) f = md_kd (X 88) k.toNatClampNeg f := h.1.1.2.2.1 _ hk
  have hok := hD.2.1 _ hk
  have t3 : ((3 : Int32).toInt) = 3 := rfl
  have la1 : ((0 : Int) ≤ 3) = True := by decide
  have la2 : ((3 : Int) ≤ 3) = True := by decide
  have z0 : ((3 : Int32) = 0) = False := by decide
  have z1 : ((3 : Int32) = 1) = False := by decide
  have z2 : ((3 : Int32) = 2) = False := by decide
  generalize hM : md_kd (X 88) k.toNatClampNeg 1 = M at *
  have x0 : X (1 + 12 + k.toNatClampNeg) 0 = 5 := (hx 0 (by decide)).trans hK
  have x1 : X (1 + 12 + k.toNatClampNeg) 1 = M := (hx 1 (by decide)).trans hM
  have oK : ∀ q : Nat → Int32, kn_row X 75 q (1 + 12 + k.toNatClampNeg) = X (1 + 12 + k.toNatClampNeg) := fun q => kn_row_off (by omega)
  generalize hQ : kn_up (kn_up (kn_up (kn_up (X 75) 1 0) 2 5) 3 M) 4 k = Q
  have q1 : Q 1 = nI 0 := by rw [← hQ]; rfl
  have q2 : Q 2 = 5 := by rw [← hQ]; rfl
  have q3 : Q 3 = M := by rw [← hQ]; rfl
  have q4 : Q 4 = k := by rw [← hQ]; rfl
  have hV : kn_row X 75 Q = vm X Q 0 (X 76) := by
    unfold vm
    rw [kn_row_self, ← q1, kn_up_id]
  have hb := @vb_5_60 sc (d + 5) X Q M k 0 0 (X 76) x q2 q3 q4 (by decide) (by decide)
  have n0 : (nI 0) = 0 := rfl
  rw [n0] at hb
  generalize hG : vm X Q (0 + 1 + 1 + 1 + 1 + 1 + 1 + 1 + 1) (kn_up (kn_up (kn_up (kn_up (kn_up (kn_up (kn_up (kn_up (X 76) (0) 60) (0 + 1) 13) (0 + 1 + 1) 11) (0 + 1 + 1 + 1) 30) (0 + 1 + 1 + 1 + 1) 10) (0 + 1 + 1 + 1 + 1 + 1) 12) (0 + 1 + 1 + 1 + 1 + 1 + 1) 30) (0 + 1 + 1 + 1 + 1 + 1 + 1 + 1) 10) = G at hb
  have goff : ∀ p, ¬ p = 75 → ¬ p = 76 → G p = X p := by intro p a b; rw [← hG]; unfold vm; rw [kn_row_off a, kn_row_off b]
  have g87 : G 87 = X 87 := goff 87 (by decide) (by decide)
  have g88 : G 88 = X 88 := goff 88 (by decide) (by decide)
  have g96 : G 96 = X 96 := goff 96 (by decide) (by decide)
  have q9 : 0 ≤ (G 88 9).toInt := by rw [g88]; exact hN.1
  generalize hQ2 : kn_up (kn_up (X 87) 17 0) 18 k = Q2
  have r17 : Q2 17 = nI 0 := by rw [← hQ2]; rfl
  have r18 : Q2 18 = k := by rw [← hQ2]; rfl
  have r3 : Q2 3 = X 87 3 := by rw [← hQ2]; rfl
  have hW : kn_row G 87 Q2 = wm G Q2 0 (X 96) := by
    unfold wm
    rw [← g96, kn_row_self, ← r17, kn_up_id]
  have k0 : G 88 (13 + 9 * k.toNatClampNeg + 0) = 5 := by rw [g88]; exact hK
  have k1 : G 88 (13 + 9 * k.toNatClampNeg + 1) = M := by rw [g88]; exact hM
  have hm := @wb_5_tells_5 sc (d + 2) G Q2 M k 0 (X 96) x r18 hkk k0 k1 (by decide)
  have hi : Inv (wm G Q2 (0 + 1 + 1 + 1 + 1 + 1 + 1 + 1 + 1) (kn_up (kn_up (kn_up (kn_up (kn_up (kn_up (kn_up (kn_up (X 96) (0) 60) (0 + 1) 13) (0 + 1 + 1) 11) (0 + 1 + 1 + 1) 30) (0 + 1 + 1 + 1 + 1) 10) (0 + 1 + 1 + 1 + 1 + 1) 12) (0 + 1 + 1 + 1 + 1 + 1 + 1) 30) (0 + 1 + 1 + 1 + 1 + 1 + 1 + 1) 10)) := by
    rw [← hG]
    refine Inv_voice h (by decide) r3 (fun j hj => ?_)
    rcases (by omega : j = 0 ∨ j = 1 ∨ j = 2 ∨ j = 3 ∨ j = 4 ∨ j = 5 ∨ j = 6 ∨ j = 7) with rfl | rfl | rfl | rfl | rfl | rfl | rfl | rfl <;> rfl
  refine ⟨(((((x + k) * 3) * 2) ^^^ (x - M)) - ((2 + k) * 3)), G, wm G Q2 (0 + 1 + 1 + 1 + 1 + 1 + 1 + 1 + 1) (kn_up (kn_up (kn_up (kn_up (kn_up (kn_up (kn_up (kn_up (X 96) (0) 60) (0 + 1) 13) (0 + 1 + 1) 11) (0 + 1 + 1 + 1) 30) (0 + 1 + 1 + 1 + 1) 10) (0 + 1 + 1 + 1 + 1 + 1) 12) (0 + 1 + 1 + 1 + 1 + 1 + 1) 30) (0 + 1 + 1 + 1 + 1 + 1 + 1 + 1) 10), ?_, ?_, hi⟩
  · simp only [x87_0, x87_1, x87_2, x87_5, x87_8, x87_9, x87_10, x87_11, x87_14, x87_17, x87_18, x87_19, x87_22, x87_23, x87_24, x87_27, x87_28, x87_29, x87_32, x87_35, x87_36, x87_37, x87_38, x87_39, x87_42, x59_0, x59_1, x59_2, x59_5, x59_6, x59_7, x59_10, x59_13, x59_14, x59_15, x59_18, x59_21, x59_22, x59_23, x59_26, x59_27, x59_28, x59_29, x59_32, x59_34, x59_35, x59_38, x87_36 (Or.inl rfl) (ka_st_k1 ka_k_1), ka_kk_i, ka_kk_n, ka_cl_i, ka_cl_r, ka_cl_n, or_true, true_or, ka_ne2, ka_ne4, ka_ne5, ka_ne10, not_false_eq_true, not_true_eq_false, if_true, if_false, ka_k_0, ka_k_1, ka_k_2, ka_k_3, ka_k_4, ka_k_5, ka_k_6, ka_k_7, ka_k_8, ka_k_9, ka_k_10, ka_k_11, ka_k_12, ka_k_13, ka_k_14, ka_k_15, ka_k_16, ka_k_17, ka_k_18, ka_k_19, ka_k_20, ka_k_21, ka_k_22, ka_k_23, ka_k_24, ka_k_25, ka_k_26, ka_k_27, ka_k_28, ka_k_29, ka_k_30, ka_k_31, ka_k_32, ka_k_33, ka_k_34, ka_k_35, ka_k_36, ka_k_37, ka_k_38, ka_k_39, ka_k_40, ka_k_41, ka_k_42, ka_k_43, ka_k_44, ka_k_45, ka_k_46, ka_k_47, ka_k_48, ka_k_49, ka_k_50, ka_k_51, ka_k_52, ka_k_53, ka_k_54, ka_k_55, ka_k_56, ka_k_57, ka_k_58, ka_k_59, ka_k_60, ka_k_61, ka_k_62, ka_k_63, ka_k_64, ka_k_65, ka_k_66, ka_k_67, ka_k_68, ka_k_69, ka_k_70, ka_k_71, ka_k_72, ka_k_73, ka_k_74, ka_k_75, ka_k_76, ka_k_77, ka_k_78, ka_k_79, ka_k_80, ka_k_81, ka_k_82, ka_k_83, ka_k_84, ka_k_85, ka_k_86, ka_k_87, ka_k_88, ka_k_89, ka_k_90, ka_k_91, ka_k_92, ka_k_93, ka_k_94, ka_k_95, ka_k_96, ka_k_97, ka_k_98, ka_k_99, ka_k_100, ka_rf_0_0, ka_rf_0_1, ka_rf_0_2, ka_rf_0_4, ka_rf_0_5, ka_rf_0_6, ka_rf_0_7, ka_rf_0_8, ka_rf_0_9, ka_rf_61_0, ka_rf_61_2, ka_rf_67_0, ka_rf_67_1, ka_rf_67_2, ka_rf_75_0, ka_rf_87_0, ka_rf_87_1, ka_rf_87_2, ka_rf_87_4, ka_rf_87_11, ka_rf_87_12, ka_rf_87_14, ka_rf_87_15, ka_rf_87_16, ka_rf_87_19, ka_rf_87_20, ka_rf_87_21, ka_rf_87_22, ka_ln_63, ka_ln_64, ka_ln_65, ka_ln_68, ka_ln_69, ka_ln_70, ka_ln_76, ka_ln_77, ka_ln_78, ka_ln_80, ka_ln_82, ka_ln_84, ka_ln_86, ka_ln_88, ka_ln_89, ka_ln_90, ka_ln_91, ka_ln_92, ka_ln_93, ka_ln_94, ka_ln_95, ka_ln_96, ka_ln_97, ka_ln_98, ka_ln_99, ka_ln_100, ka_st_r0 ka_k_1, ka_st_k1 ka_k_1, ka_st_l1 ka_k_1, ka_st_ra ka_k_1 hk8, ka_st_kn ka_k_1 hk8, sp_100, sp_106, ka_b_0, and_self, e1, c1, ka_t_0, ka_t_3, t3, la1, la2, hin, kn_put_r, kn_row_at, kn_row_row, oK, x0, x1, hQ, hV, sp_60_5_3 q2, hb]
  · simp only [x189_0, x189_1, x189_2, x189_5, x189_8, x189_9, x189_10, x189_11, x189_14, x189_17, x189_20, x189_21, x189_22, x189_25, x189_26, x189_27, x189_28, x189_31, x189_32, x189_33, x189_36, x189_37, x189_40, x189_42, x189_43, x189_46, x189_47, x189_49, x189_50, x189_53, x189_56, x189_57, x189_58, x189_61, x189_62, x189_64, x189_65, x189_68, x189_71, x189_72, x189_73, x189_76, x189_77, x189_79, x189_80, x189_83, x189_86, x189_87, x189_89, x189_90, x189_93, ka_kk_i, ka_kk_n, ka_cl_i, ka_cl_r, ka_cl_n, or_true, true_or, ka_ne2, ka_ne4, ka_ne5, ka_ne10, not_false_eq_true, not_true_eq_false, if_true, if_false, ka_k_0, ka_k_1, ka_k_2, ka_k_3, ka_k_4, ka_k_5, ka_k_6, ka_k_7, ka_k_8, ka_k_9, ka_k_10, ka_k_11, ka_k_12, ka_k_13, ka_k_14, ka_k_15, ka_k_16, ka_k_17, ka_k_18, ka_k_19, ka_k_20, ka_k_21, ka_k_22, ka_k_23, ka_k_24, ka_k_25, ka_k_26, ka_k_27, ka_k_28, ka_k_29, ka_k_30, ka_k_31, ka_k_32, ka_k_33, ka_k_34, ka_k_35, ka_k_36, ka_k_37, ka_k_38, ka_k_39, ka_k_40, ka_k_41, ka_k_42, ka_k_43, ka_k_44, ka_k_45, ka_k_46, ka_k_47, ka_k_48, ka_k_49, ka_k_50, ka_k_51, ka_k_52, ka_k_53, ka_k_54, ka_k_55, ka_k_56, ka_k_57, ka_k_58, ka_k_59, ka_k_60, ka_k_61, ka_k_62, ka_k_63, ka_k_64, ka_k_65, ka_k_66, ka_k_67, ka_k_68, ka_k_69, ka_k_70, ka_k_71, ka_k_72, ka_k_73, ka_k_74, ka_k_75, ka_k_76, ka_k_77, ka_k_78, ka_k_79, ka_k_80, ka_k_81, ka_k_82, ka_k_83, ka_k_84, ka_k_85, ka_k_86, ka_k_87, ka_k_88, ka_k_89, ka_k_90, ka_k_91, ka_k_92, ka_k_93, ka_k_94, ka_k_95, ka_k_96, ka_k_97, ka_k_98, ka_k_99, ka_k_100, ka_rf_0_0, ka_rf_0_1, ka_rf_0_2, ka_rf_0_4, ka_rf_0_5, ka_rf_0_6, ka_rf_0_7, ka_rf_0_8, ka_rf_0_9, ka_rf_61_0, ka_rf_61_2, ka_rf_67_0, ka_rf_67_1, ka_rf_67_2, ka_rf_75_0, ka_rf_87_0, ka_rf_87_1, ka_rf_87_2, ka_rf_87_4, ka_rf_87_11, ka_rf_87_12, ka_rf_87_14, ka_rf_87_15, ka_rf_87_16, ka_rf_87_19, ka_rf_87_20, ka_rf_87_21, ka_rf_87_22, ka_ln_63, ka_ln_64, ka_ln_65, ka_ln_68, ka_ln_69, ka_ln_70, ka_ln_76, ka_ln_77, ka_ln_78, ka_ln_80, ka_ln_82, ka_ln_84, ka_ln_86, ka_ln_88, ka_ln_89, ka_ln_90, ka_ln_91, ka_ln_92, ka_ln_93, ka_ln_94, ka_ln_95, ka_ln_96, ka_ln_97, ka_ln_98, ka_ln_99, ka_ln_100, sp_100, sp_106, sp_109, sp_110, sp_111, sp_112, sp_113, sp_117, sp_191, ka_i64, ka_b_0, ka_one0, and_self, ka_lit64_69, ka_lit64_5, ka_lit64_99, ka_lit64_8, ka_lit64_48, ka_lit64_57, ka_lit64_9, ka_lit64_6, ka_lit64_3, ka_lit64_60, ka_lit64_20, ka_lit64_12, ka_lit64_4, ka_lit64_400, ka_lit64_999, ka_lit64_m1, ka_lit64_1, ka_l0, ka_t_0, ka_t_1, ka_t_3, ka_t_4, ka_t_6, ka_t_7, ka_t_9, ka_t_5, ka_t_8, ka_t_60, ka_t_69, ka_t_99, ka_t_400, ka_t_999, ka_t_m1, ka_lit64_69, ka_lit64_5, ka_lit64_99, ka_lit64_8, ka_lit64_48, ka_lit64_57, ka_lit64_9, ka_lit64_6, ka_lit64_3, ka_lit64_60, ka_lit64_20, ka_lit64_12, ka_lit64_4, ka_lit64_400, ka_lit64_999, ka_lit64_m1, ka_lit64_1, ka_i64, ka_l0, sp_121' q9, g88, g87, c1, t3, la1, la2, z0, z1, z2, kn_put_r, kn_row_at, kn_row_row, hQ2, hW, sp_184w r18 hkk k0, hm]
theorem op_voice_6_0 {k x : Int32} (h : Inv X) (c1 : 0 ≤ k.toInt ∧ k.toInt < (X 88 9).toInt) (hK : md_kd (X 88) k.toNatClampNeg 0 = 6) : op sc (d + 12) 87 189 [.ref 0, .int k, .int 0, .int x] [.ref 87, .int k, .int 0, .int x, ka_nv] X := by
  have e1 : X 1 1 = X 88 9 := h.1.1.1.1
  have hD := h.1.2.1
  have hN := hD.1
  have hk8 : k.toNatClampNeg < 8 := by rw [ka_nc]; omega
  have hk : k.toNatClampNeg < (X 88 9).toInt.toNat := by rw [ka_nc]; omega
  have hin : ka_in k 8 := ka_inI.mpr (by omega)
  have hkk : 0 ≤ k.toInt ∧ k.toInt < 8 := by omega
  have hx : ∀ f, f < 9 → X (1 + 12 + k.toNatClampNeg) f = md_kd (X 88) k.toNatClampNeg f := h.1.1.2.2.1 _ hk
  have hok := hD.2.1 _ hk
  have t0 : ((0 : Int32).toInt) = 0 := rfl
  have la1 : ((0 : Int) ≤ 0) = True := by decide
  have la2 : ((0 : Int) ≤ 3) = True := by decide
  have z0 : ((0 : Int32) = 0) = True := by decide
  have z1 : ((0 : Int32) = 1) = False := by decide
  have z2 : ((0 : Int32) = 2) = False := by decide
  generalize hM : md_kd (X 88) k.toNatClampNeg 1 = M at *
  have x0 : X (1 + 12 + k.toNatClampNeg) 0 = 6 := (hx 0 (by decide)).trans hK
  have x1 : X (1 + 12 + k.toNatClampNeg) 1 = M := (hx 1 (by decide)).trans hM
  have oK : ∀ q : Nat → Int32, kn_row X 75 q (1 + 12 + k.toNatClampNeg) = X (1 + 12 + k.toNatClampNeg) := fun q => kn_row_off (by omega)
  generalize hQ : kn_up (kn_up (kn_up (kn_up (X 75) 1 0) 2 6) 3 M) 4 k = Q
  have q1 : Q 1 = nI 0 := by rw [← hQ]; rfl
  have q2 : Q 2 = 6 := by rw [← hQ]; rfl
  have q3 : Q 3 = M := by rw [← hQ]; rfl
  have q4 : Q 4 = k := by rw [← hQ]; rfl
  have hV : kn_row X 75 Q = vm X Q 0 (X 76) := by
    unfold vm
    rw [kn_row_self, ← q1, kn_up_id]
  have hb := @vb_6_10 sc (d + 9) X Q M k 0 0 (X 76) x q2 q3 q4 (by decide) (by decide)
  have n0 : (nI 0) = 0 := rfl
  rw [n0] at hb
  generalize hG : vm X Q (0 + 1) (kn_up (X 76) (0) 10) = G at hb
  have goff : ∀ p, ¬ p = 75 → ¬ p = 76 → G p = X p := by intro p a b; rw [← hG]; unfold vm; rw [kn_row_off a, kn_row_off b]
  have g87 : G 87 = X 87 := goff 87 (by decide) (by decide)
  have g88 : G 88 = X 88 := goff 88 (by decide) (by decide)
  have g96 : G 96 = X 96 := goff 96 (by decide) (by decide)
  have q9 : 0 ≤ (G 88 9).toInt := by rw [g88]; exact hN.1
  generalize hQ2 : kn_up (kn_up (X 87) 17 0) 18 k = Q2
  have r17 : Q2 17 = nI 0 := by rw [← hQ2]; rfl
  have r18 : Q2 18 = k := by rw [← hQ2]; rfl
  have r3 : Q2 3 = X 87 3 := by rw [← hQ2]; rfl
  have hW : kn_row G 87 Q2 = wm G Q2 0 (X 96) := by
    unfold wm
    rw [← g96, kn_row_self, ← r17, kn_up_id]
  have k0 : G 88 (13 + 9 * k.toNatClampNeg + 0) = 6 := by rw [g88]; exact hK
  have k1 : G 88 (13 + 9 * k.toNatClampNeg + 1) = M := by rw [g88]; exact hM
  have hm := @wb_6_cut_6 sc (d + 8) G Q2 M k 0 (X 96) x r18 hkk k0 k1 (by decide)
  have hi : Inv (wm G Q2 (0 + 1) (kn_up (X 96) (0) 10)) := by
    rw [← hG]
    refine Inv_voice h (by decide) r3 (fun j hj => ?_)
    rcases (by omega : j = 0) with rfl <;> rfl
  refine ⟨(x + k), G, wm G Q2 (0 + 1) (kn_up (X 96) (0) 10), ?_, ?_, hi⟩
  · simp only [x87_0, x87_1, x87_2, x87_5, x87_8, x87_9, x87_10, x87_11, x87_14, x87_17, x87_18, x87_19, x87_22, x87_23, x87_24, x87_27, x87_28, x87_29, x87_32, x87_35, x87_36, x87_37, x87_38, x87_39, x87_42, x59_0, x59_1, x59_2, x59_5, x59_6, x59_7, x59_10, x59_13, x59_14, x59_15, x59_18, x59_21, x59_22, x59_23, x59_26, x59_27, x59_28, x59_29, x59_32, x59_34, x59_35, x59_38, x87_36 (Or.inl rfl) (ka_st_k1 ka_k_1), ka_kk_i, ka_kk_n, ka_cl_i, ka_cl_r, ka_cl_n, or_true, true_or, ka_ne2, ka_ne4, ka_ne5, ka_ne10, not_false_eq_true, not_true_eq_false, if_true, if_false, ka_k_0, ka_k_1, ka_k_2, ka_k_3, ka_k_4, ka_k_5, ka_k_6, ka_k_7, ka_k_8, ka_k_9, ka_k_10, ka_k_11, ka_k_12, ka_k_13, ka_k_14, ka_k_15, ka_k_16, ka_k_17, ka_k_18, ka_k_19, ka_k_20, ka_k_21, ka_k_22, ka_k_23, ka_k_24, ka_k_25, ka_k_26, ka_k_27, ka_k_28, ka_k_29, ka_k_30, ka_k_31, ka_k_32, ka_k_33, ka_k_34, ka_k_35, ka_k_36, ka_k_37, ka_k_38, ka_k_39, ka_k_40, ka_k_41, ka_k_42, ka_k_43, ka_k_44, ka_k_45, ka_k_46, ka_k_47, ka_k_48, ka_k_49, ka_k_50, ka_k_51, ka_k_52, ka_k_53, ka_k_54, ka_k_55, ka_k_56, ka_k_57, ka_k_58, ka_k_59, ka_k_60, ka_k_61, ka_k_62, ka_k_63, ka_k_64, ka_k_65, ka_k_66, ka_k_67, ka_k_68, ka_k_69, ka_k_70, ka_k_71, ka_k_72, ka_k_73, ka_k_74, ka_k_75, ka_k_76, ka_k_77, ka_k_78, ka_k_79, ka_k_80, ka_k_81, ka_k_82, ka_k_83, ka_k_84, ka_k_85, ka_k_86, ka_k_87, ka_k_88, ka_k_89, ka_k_90, ka_k_91, ka_k_92, ka_k_93, ka_k_94, ka_k_95, ka_k_96, ka_k_97, ka_k_98, ka_k_99, ka_k_100, ka_rf_0_0, ka_rf_0_1, ka_rf_0_2, ka_rf_0_4, ka_rf_0_5, ka_rf_0_6, ka_rf_0_7, ka_rf_0_8, ka_rf_0_9, ka_rf_61_0, ka_rf_61_2, ka_rf_67_0, ka_rf_67_1, ka_rf_67_2, ka_rf_75_0, ka_rf_87_0, ka_rf_87_1, ka_rf_87_2, ka_rf_87_4, ka_rf_87_11, ka_rf_87_12, ka_rf_87_14, ka_rf_87_15, ka_rf_87_16, ka_rf_87_19, ka_rf_87_20, ka_rf_87_21, ka_rf_87_22, ka_ln_63, ka_ln_64, ka_ln_65, ka_ln_68, ka_ln_69, ka_ln_70, ka_ln_76, ka_ln_77, ka_ln_78, ka_ln_80, ka_ln_82, ka_ln_84, ka_ln_86, ka_ln_88, ka_ln_89, ka_ln_90, ka_ln_91, ka_ln_92, ka_ln_93, ka_ln_94, ka_ln_95, ka_ln_96, ka_ln_97, ka_ln_98, ka_ln_99, ka_ln_100, ka_st_r0 ka_k_1, ka_st_k1 ka_k_1, ka_st_l1 ka_k_1, ka_st_ra ka_k_1 hk8, ka_st_kn ka_k_1 hk8, sp_100, sp_106, ka_b_0, and_self, e1, c1, ka_t_0, ka_t_3, t0, la1, la2, hin, kn_put_r, kn_row_at, kn_row_row, oK, x0, x1, hQ, hV, sp_60_6_0 q2, hb]
  · simp only [x189_0, x189_1, x189_2, x189_5, x189_8, x189_9, x189_10, x189_11, x189_14, x189_17, x189_20, x189_21, x189_22, x189_25, x189_26, x189_27, x189_28, x189_31, x189_32, x189_33, x189_36, x189_37, x189_40, x189_42, x189_43, x189_46, x189_47, x189_49, x189_50, x189_53, x189_56, x189_57, x189_58, x189_61, x189_62, x189_64, x189_65, x189_68, x189_71, x189_72, x189_73, x189_76, x189_77, x189_79, x189_80, x189_83, x189_86, x189_87, x189_89, x189_90, x189_93, ka_kk_i, ka_kk_n, ka_cl_i, ka_cl_r, ka_cl_n, or_true, true_or, ka_ne2, ka_ne4, ka_ne5, ka_ne10, not_false_eq_true, not_true_eq_false, if_true, if_false, ka_k_0, ka_k_1, ka_k_2, ka_k_3, ka_k_4, ka_k_5, ka_k_6, ka_k_7, ka_k_8, ka_k_9, ka_k_10, ka_k_11, ka_k_12, ka_k_13, ka_k_14, ka_k_15, ka_k_16, ka_k_17, ka_k_18, ka_k_19, ka_k_20, ka_k_21, ka_k_22, ka_k_23, ka_k_24, ka_k_25, ka_k_26, ka_k_27, ka_k_28, ka_k_29, ka_k_30, ka_k_31, ka_k_32, ka_k_33, ka_k_34, ka_k_35, ka_k_36, ka_k_37, ka_k_38, ka_k_39, ka_k_40, ka_k_41, ka_k_42, ka_k_43, ka_k_44, ka_k_45, ka_k_46, ka_k_47, ka_k_48, ka_k_49, ka_k_50, ka_k_51, ka_k_52, ka_k_53, ka_k_54, ka_k_55, ka_k_56, ka_k_57, ka_k_58, ka_k_59, ka_k_60, ka_k_61, ka_k_62, ka_k_63, ka_k_64, ka_k_65, ka_k_66, ka_k_67, ka_k_68, ka_k_69, ka_k_70, ka_k_71, ka_k_72, ka_k_73, ka_k_74, ka_k_75, ka_k_76, ka_k_77, ka_k_78, ka_k_79, ka_k_80, ka_k_81, ka_k_82, ka_k_83, ka_k_84, ka_k_85, ka_k_86, ka_k_87, ka_k_88, ka_k_89, ka_k_90, ka_k_91, ka_k_92, ka_k_93, ka_k_94, ka_k_95, ka_k_96, ka_k_97, ka_k_98, ka_k_99, ka_k_100, ka_rf_0_0, ka_rf_0_1, ka_rf_0_2, ka_rf_0_4, ka_rf_0_5, ka_rf_0_6, ka_rf_0_7, ka_rf_0_8, ka_rf_0_9, ka_rf_61_0, ka_rf_61_2, ka_rf_67_0, ka_rf_67_1, ka_rf_67_2, ka_rf_75_0, ka_rf_87_0, ka_rf_87_1, ka_rf_87_2, ka_rf_87_4, ka_rf_87_11, ka_rf_87_12, ka_rf_87_14, ka_rf_87_15, ka_rf_87_16, ka_rf_87_19, ka_rf_87_20, ka_rf_87_21, ka_rf_87_22, ka_ln_63, ka_ln_64, ka_ln_65, ka_ln_68, ka_ln_69, ka_ln_70, ka_ln_76, ka_ln_77, ka_ln_78, ka_ln_80, ka_ln_82, ka_ln_84, ka_ln_86, ka_ln_88, ka_ln_89, ka_ln_90, ka_ln_91, ka_ln_92, ka_ln_93, ka_ln_94, ka_ln_95, ka_ln_96, ka_ln_97, ka_ln_98, ka_ln_99, ka_ln_100, sp_100, sp_106, sp_109, sp_110, sp_111, sp_112, sp_113, sp_117, sp_191, ka_i64, ka_b_0, ka_one0, and_self, ka_lit64_69, ka_lit64_5, ka_lit64_99, ka_lit64_8, ka_lit64_48, ka_lit64_57, ka_lit64_9, ka_lit64_6, ka_lit64_3, ka_lit64_60, ka_lit64_20, ka_lit64_12, ka_lit64_4, ka_lit64_400, ka_lit64_999, ka_lit64_m1, ka_lit64_1, ka_l0, ka_t_0, ka_t_1, ka_t_3, ka_t_4, ka_t_6, ka_t_7, ka_t_9, ka_t_5, ka_t_8, ka_t_60, ka_t_69, ka_t_99, ka_t_400, ka_t_999, ka_t_m1, ka_lit64_69, ka_lit64_5, ka_lit64_99, ka_lit64_8, ka_lit64_48, ka_lit64_57, ka_lit64_9, ka_lit64_6, ka_lit64_3, ka_lit64_60, ka_lit64_20, ka_lit64_12, ka_lit64_4, ka_lit64_400, ka_lit64_999, ka_lit64_m1, ka_lit64_1, ka_i64, ka_l0, sp_121' q9, g88, g87, c1, t0, la1, la2, z0, z1, z2, kn_put_r, kn_row_at, kn_row_row, hQ2, hW, sp_184w r18 hkk k0, hm]
theorem op_voice_6_1 {k x : Int32} (h : Inv X) (c1 : 0 ≤ k.toInt ∧ k.toInt < (X 88 9).toInt) (hK : md_kd (X 88) k.toNatClampNeg 0 = 6) : op sc (d + 12) 87 189 [.ref 0, .int k, .int 1, .int x] [.ref 87, .int k, .int 1, .int x, ka_nv] X := by
  have e1 : X 1 1 = X 88 9 := h.1.1.1.1
  have hD := h.1.2.1
  have hN := hD.1
  have hk8 : k.toNatClampNeg < 8 := by rw [ka_nc]; omega
  have hk : k.toNatClampNeg < (X 88 9).toInt.toNat := by rw [ka_nc]; omega
  have hin : ka_in k 8 := ka_inI.mpr (by omega)
  have hkk : 0 ≤ k.toInt ∧ k.toInt < 8 := by omega
  have hx : ∀ f, f < 9 → X (1 + 12 + k.toNatClampNeg) f = md_kd (X 88) k.toNatClampNeg f := h.1.1.2.2.1 _ hk
  have hok := hD.2.1 _ hk
  have t1 : ((1 : Int32).toInt) = 1 := rfl
  have la1 : ((0 : Int) ≤ 1) = True := by decide
  have la2 : ((1 : Int) ≤ 3) = True := by decide
  have z0 : ((1 : Int32) = 0) = False := by decide
  have z1 : ((1 : Int32) = 1) = True := by decide
  have z2 : ((1 : Int32) = 2) = False := by decide
  generalize hM : md_kd (X 88) k.toNatClampNeg 1 = M at *
  have x0 : X (1 + 12 + k.toNatClampNeg) 0 = 6 := (hx 0 (by decide)).trans hK
  have x1 : X (1 + 12 + k.toNatClampNeg) 1 = M := (hx 1 (by decide)).trans hM
  have oK : ∀ q : Nat → Int32, kn_row X 75 q (1 + 12 + k.toNatClampNeg) = X (1 + 12 + k.toNatClampNeg) := fun q => kn_row_off (by omega)
  generalize hQ : kn_up (kn_up (kn_up (kn_up (X 75) 1 0) 2 6) 3 M) 4 k = Q
  have q1 : Q 1 = nI 0 := by rw [← hQ]; rfl
  have q2 : Q 2 = 6 := by rw [← hQ]; rfl
  have q3 : Q 3 = M := by rw [← hQ]; rfl
  have q4 : Q 4 = k := by rw [← hQ]; rfl
  have hV : kn_row X 75 Q = vm X Q 0 (X 76) := by
    unfold vm
    rw [kn_row_self, ← q1, kn_up_id]
  have hb := @vb_6_11 sc (d + 8) X Q M k 0 0 (X 76) x q2 q3 q4 (by decide) (by decide)
  have n0 : (nI 0) = 0 := rfl
  rw [n0] at hb
  generalize hG : vm X Q (0 + 1 + 1) (kn_up (kn_up (X 76) (0) 11) (0 + 1) 10) = G at hb
  have goff : ∀ p, ¬ p = 75 → ¬ p = 76 → G p = X p := by intro p a b; rw [← hG]; unfold vm; rw [kn_row_off a, kn_row_off b]
  have g87 : G 87 = X 87 := goff 87 (by decide) (by decide)
  have g88 : G 88 = X 88 := goff 88 (by decide) (by decide)
  have g96 : G 96 = X 96 := goff 96 (by decide) (by decide)
  have q9 : 0 ≤ (G 88 9).toInt := by rw [g88]; exact hN.1
  generalize hQ2 : kn_up (kn_up (X 87) 17 0) 18 k = Q2
  have r17 : Q2 17 = nI 0 := by rw [← hQ2]; rfl
  have r18 : Q2 18 = k := by rw [← hQ2]; rfl
  have r3 : Q2 3 = X 87 3 := by rw [← hQ2]; rfl
  have hW : kn_row G 87 Q2 = wm G Q2 0 (X 96) := by
    unfold wm
    rw [← g96, kn_row_self, ← r17, kn_up_id]
  have k0 : G 88 (13 + 9 * k.toNatClampNeg + 0) = 6 := by rw [g88]; exact hK
  have k1 : G 88 (13 + 9 * k.toNatClampNeg + 1) = M := by rw [g88]; exact hM
  have hm := @wb_6_rings_6 sc (d + 5) G Q2 M k 0 (X 96) x r18 hkk k0 k1 (by decide)
  have hi : Inv (wm G Q2 (0 + 1 + 1) (kn_up (kn_up (X 96) (0) 11) (0 + 1) 10)) := by
    rw [← hG]
    refine Inv_voice h (by decide) r3 (fun j hj => ?_)
    rcases (by omega : j = 0 ∨ j = 1) with rfl | rfl <;> rfl
  refine ⟨((x + k) * 2), G, wm G Q2 (0 + 1 + 1) (kn_up (kn_up (X 96) (0) 11) (0 + 1) 10), ?_, ?_, hi⟩
  · simp only [x87_0, x87_1, x87_2, x87_5, x87_8, x87_9, x87_10, x87_11, x87_14, x87_17, x87_18, x87_19, x87_22, x87_23, x87_24, x87_27, x87_28, x87_29, x87_32, x87_35, x87_36, x87_37, x87_38, x87_39, x87_42, x59_0, x59_1, x59_2, x59_5, x59_6, x59_7, x59_10, x59_13, x59_14, x59_15, x59_18, x59_21, x59_22, x59_23, x59_26, x59_27, x59_28, x59_29, x59_32, x59_34, x59_35, x59_38, x87_36 (Or.inl rfl) (ka_st_k1 ka_k_1), ka_kk_i, ka_kk_n, ka_cl_i, ka_cl_r, ka_cl_n, or_true, true_or, ka_ne2, ka_ne4, ka_ne5, ka_ne10, not_false_eq_true, not_true_eq_false, if_true, if_false, ka_k_0, ka_k_1, ka_k_2, ka_k_3, ka_k_4, ka_k_5, ka_k_6, ka_k_7, ka_k_8, ka_k_9, ka_k_10, ka_k_11, ka_k_12, ka_k_13, ka_k_14, ka_k_15, ka_k_16, ka_k_17, ka_k_18, ka_k_19, ka_k_20, ka_k_21, ka_k_22, ka_k_23, ka_k_24, ka_k_25, ka_k_26, ka_k_27, ka_k_28, ka_k_29, ka_k_30, ka_k_31, ka_k_32, ka_k_33, ka_k_34, ka_k_35, ka_k_36, ka_k_37, ka_k_38, ka_k_39, ka_k_40, ka_k_41, ka_k_42, ka_k_43, ka_k_44, ka_k_45, ka_k_46, ka_k_47, ka_k_48, ka_k_49, ka_k_50, ka_k_51, ka_k_52, ka_k_53, ka_k_54, ka_k_55, ka_k_56, ka_k_57, ka_k_58, ka_k_59, ka_k_60, ka_k_61, ka_k_62, ka_k_63, ka_k_64, ka_k_65, ka_k_66, ka_k_67, ka_k_68, ka_k_69, ka_k_70, ka_k_71, ka_k_72, ka_k_73, ka_k_74, ka_k_75, ka_k_76, ka_k_77, ka_k_78, ka_k_79, ka_k_80, ka_k_81, ka_k_82, ka_k_83, ka_k_84, ka_k_85, ka_k_86, ka_k_87, ka_k_88, ka_k_89, ka_k_90, ka_k_91, ka_k_92, ka_k_93, ka_k_94, ka_k_95, ka_k_96, ka_k_97, ka_k_98, ka_k_99, ka_k_100, ka_rf_0_0, ka_rf_0_1, ka_rf_0_2, ka_rf_0_4, ka_rf_0_5, ka_rf_0_6, ka_rf_0_7, ka_rf_0_8, ka_rf_0_9, ka_rf_61_0, ka_rf_61_2, ka_rf_67_0, ka_rf_67_1, ka_rf_67_2, ka_rf_75_0, ka_rf_87_0, ka_rf_87_1, ka_rf_87_2, ka_rf_87_4, ka_rf_87_11, ka_rf_87_12, ka_rf_87_14, ka_rf_87_15, ka_rf_87_16, ka_rf_87_19, ka_rf_87_20, ka_rf_87_21, ka_rf_87_22, ka_ln_63, ka_ln_64, ka_ln_65, ka_ln_68, ka_ln_69, ka_ln_70, ka_ln_76, ka_ln_77, ka_ln_78, ka_ln_80, ka_ln_82, ka_ln_84, ka_ln_86, ka_ln_88, ka_ln_89, ka_ln_90, ka_ln_91, ka_ln_92, ka_ln_93, ka_ln_94, ka_ln_95, ka_ln_96, ka_ln_97, ka_ln_98, ka_ln_99, ka_ln_100, ka_st_r0 ka_k_1, ka_st_k1 ka_k_1, ka_st_l1 ka_k_1, ka_st_ra ka_k_1 hk8, ka_st_kn ka_k_1 hk8, sp_100, sp_106, ka_b_0, and_self, e1, c1, ka_t_0, ka_t_3, t1, la1, la2, hin, kn_put_r, kn_row_at, kn_row_row, oK, x0, x1, hQ, hV, sp_60_6_1 q2, hb]
  · simp only [x189_0, x189_1, x189_2, x189_5, x189_8, x189_9, x189_10, x189_11, x189_14, x189_17, x189_20, x189_21, x189_22, x189_25, x189_26, x189_27, x189_28, x189_31, x189_32, x189_33, x189_36, x189_37, x189_40, x189_42, x189_43, x189_46, x189_47, x189_49, x189_50, x189_53, x189_56, x189_57, x189_58, x189_61, x189_62, x189_64, x189_65, x189_68, x189_71, x189_72, x189_73, x189_76, x189_77, x189_79, x189_80, x189_83, x189_86, x189_87, x189_89, x189_90, x189_93, ka_kk_i, ka_kk_n, ka_cl_i, ka_cl_r, ka_cl_n, or_true, true_or, ka_ne2, ka_ne4, ka_ne5, ka_ne10, not_false_eq_true, not_true_eq_false, if_true, if_false, ka_k_0, ka_k_1, ka_k_2, ka_k_3, ka_k_4, ka_k_5, ka_k_6, ka_k_7, ka_k_8, ka_k_9, ka_k_10, ka_k_11, ka_k_12, ka_k_13, ka_k_14, ka_k_15, ka_k_16, ka_k_17, ka_k_18, ka_k_19, ka_k_20, ka_k_21, ka_k_22, ka_k_23, ka_k_24, ka_k_25, ka_k_26, ka_k_27, ka_k_28, ka_k_29, ka_k_30, ka_k_31, ka_k_32, ka_k_33, ka_k_34, ka_k_35, ka_k_36, ka_k_37, ka_k_38, ka_k_39, ka_k_40, ka_k_41, ka_k_42, ka_k_43, ka_k_44, ka_k_45, ka_k_46, ka_k_47, ka_k_48, ka_k_49, ka_k_50, ka_k_51, ka_k_52, ka_k_53, ka_k_54, ka_k_55, ka_k_56, ka_k_57, ka_k_58, ka_k_59, ka_k_60, ka_k_61, ka_k_62, ka_k_63, ka_k_64, ka_k_65, ka_k_66, ka_k_67, ka_k_68, ka_k_69, ka_k_70, ka_k_71, ka_k_72, ka_k_73, ka_k_74, ka_k_75, ka_k_76, ka_k_77, ka_k_78, ka_k_79, ka_k_80, ka_k_81, ka_k_82, ka_k_83, ka_k_84, ka_k_85, ka_k_86, ka_k_87, ka_k_88, ka_k_89, ka_k_90, ka_k_91, ka_k_92, ka_k_93, ka_k_94, ka_k_95, ka_k_96, ka_k_97, ka_k_98, ka_k_99, ka_k_100, ka_rf_0_0, ka_rf_0_1, ka_rf_0_2, ka_rf_0_4, ka_rf_0_5, ka_rf_0_6, ka_rf_0_7, ka_rf_0_8, ka_rf_0_9, ka_rf_61_0, ka_rf_61_2, ka_rf_67_0, ka_rf_67_1, ka_rf_67_2, ka_rf_75_0, ka_rf_87_0, ka_rf_87_1, ka_rf_87_2, ka_rf_87_4, ka_rf_87_11, ka_rf_87_12, ka_rf_87_14, ka_rf_87_15, ka_rf_87_16, ka_rf_87_19, ka_rf_87_20, ka_rf_87_21, ka_rf_87_22, ka_ln_63, ka_ln_64, ka_ln_65, ka_ln_68, ka_ln_69, ka_ln_70, ka_ln_76, ka_ln_77, ka_ln_78, ka_ln_80, ka_ln_82, ka_ln_84, ka_ln_86, ka_ln_88, ka_ln_89, ka_ln_90, ka_ln_91, ka_ln_92, ka_ln_93, ka_ln_94, ka_ln_95, ka_ln_96, ka_ln_97, ka_ln_98, ka_ln_99, ka_ln_100, sp_100, sp_106, sp_109, sp_110, sp_111, sp_112, sp_113, sp_117, sp_191, ka_i64, ka_b_0, ka_one0, and_self, ka_lit64_69, ka_lit64_5, ka_lit64_99, ka_lit64_8, ka_lit64_48, ka_lit64_57, ka_lit64_9, ka_lit64_6, ka_lit64_3, ka_lit64_60, ka_lit64_20, ka_lit64_12, ka_lit64_4, ka_lit64_400, ka_lit64_999, ka_lit64_m1, ka_lit64_1, ka_l0, ka_t_0, ka_t_1, ka_t_3, ka_t_4, ka_t_6, ka_t_7, ka_t_9, ka_t_5, ka_t_8, ka_t_60, ka_t_69, ka_t_99, ka_t_400, ka_t_999, ka_t_m1, ka_lit64_69, ka_lit64_5, ka_lit64_99, ka_lit64_8, ka_lit64_48, ka_lit64_57, ka_lit64_9, ka_lit64_6, ka_lit64_3, ka_lit64_60, ka_lit64_20, ka_lit64_12, ka_lit64_4, ka_lit64_400, ka_lit64_999, ka_lit64_m1, ka_lit64_1, ka_i64, ka_l0, sp_121' q9, g88, g87, c1, t1, la1, la2, z0, z1, z2, kn_put_r, kn_row_at, kn_row_row, hQ2, hW, sp_184w r18 hkk k0, hm]
theorem op_voice_6_2 {k x : Int32} (h : Inv X) (c1 : 0 ≤ k.toInt ∧ k.toInt < (X 88 9).toInt) (hK : md_kd (X 88) k.toNatClampNeg 0 = 6) : op sc (d + 12) 87 189 [.ref 0, .int k, .int 2, .int x] [.ref 87, .int k, .int 2, .int x, ka_nv] X := by
  have e1 : X 1 1 = X 88 9 := h.1.1.1.1
  have hD := h.1.2.1
  have hN := hD.1
  have hk8 : k.toNatClampNeg < 8 := by rw [ka_nc]; omega
  have hk : k.toNatClampNeg < (X 88 9).toInt.toNat := by rw [ka_nc]; omega
  have hin : ka_in k 8 := ka_inI.mpr (by omega)
  have hkk : 0 ≤ k.toInt ∧ k.toInt < 8 := by omega
  have hx : ∀ f, f < 9 → X (1 + 12 + k.toNatClampNeg) f = md_kd (X 88) k.toNatClampNeg f := h.1.1.2.2.1 _ hk
  have hok := hD.2.1 _ hk
  have t2 : ((2 : Int32).toInt) = 2 := rfl
  have la1 : ((0 : Int) ≤ 2) = True := by decide
  have la2 : ((2 : Int) ≤ 3) = True := by decide
  have z0 : ((2 : Int32) = 0) = False := by decide
  have z1 : ((2 : Int32) = 1) = False := by decide
  have z2 : ((2 : Int32) = 2) = True := by decide
  generalize hM : md_kd (X 88) k.toNatClampNeg 1 = M at *
  have x0 : X (1 + 12 + k.toNatClampNeg) 0 = 6 := (hx 0 (by decide)).trans hK
  have x1 : X (1 + 12 + k.toNatClampNeg) 1 = M := (hx 1 (by decide)).trans hM
  have oK : ∀ q : Nat → Int32, kn_row X 75 q (1 + 12 + k.toNatClampNeg) = X (1 + 12 + k.toNatClampNeg) := fun q => kn_row_off (by omega)
  generalize hQ : kn_up (kn_up (kn_up (kn_up (X 75) 1 0) 2 6) 3 M) 4 k = Q
  have q1 : Q 1 = nI 0 := by rw [← hQ]; rfl
  have q2 : Q 2 = 6 := by rw [← hQ]; rfl
  have q3 : Q 3 = M := by rw [← hQ]; rfl
  have q4 : Q 4 = k := by rw [← hQ]; rfl
  have hV : kn_row X 75 Q = vm X Q 0 (X 76) := by
    unfold vm
    rw [kn_row_self, ← q1, kn_up_id]
  have hb := @vb_6_70 sc (d + 7) X Q M k 0 0 (X 76) x q2 q3 q4 (by decide) (by decide)
  have n0 : (nI 0) = 0 := rfl
  rw [n0] at hb
  generalize hG : vm X Q (0 + 1 + 1 + 1) (kn_up (kn_up (kn_up (X 76) (0) 70) (0 + 1) 40) (0 + 1 + 1) 12) = G at hb
  have goff : ∀ p, ¬ p = 75 → ¬ p = 76 → G p = X p := by intro p a b; rw [← hG]; unfold vm; rw [kn_row_off a, kn_row_off b]
  have g87 : G 87 = X 87 := goff 87 (by decide) (by decide)
  have g88 : G 88 = X 88 := goff 88 (by decide) (by decide)
  have g96 : G 96 = X 96 := goff 96 (by decide) (by decide)
  have q9 : 0 ≤ (G 88 9).toInt := by rw [g88]; exact hN.1
  generalize hQ2 : kn_up (kn_up (X 87) 17 0) 18 k = Q2
  have r17 : Q2 17 = nI 0 := by rw [← hQ2]; rfl
  have r18 : Q2 18 = k := by rw [← hQ2]; rfl
  have r3 : Q2 3 = X 87 3 := by rw [← hQ2]; rfl
  have hW : kn_row G 87 Q2 = wm G Q2 0 (X 96) := by
    unfold wm
    rw [← g96, kn_row_self, ← r17, kn_up_id]
  have k0 : G 88 (13 + 9 * k.toNatClampNeg + 0) = 6 := by rw [g88]; exact hK
  have k1 : G 88 (13 + 9 * k.toNatClampNeg + 1) = M := by rw [g88]; exact hM
  have hm := @wb_6_grind_6 sc (d + 8) G Q2 M k 0 (X 96) x r18 hkk k0 k1 (by decide)
  have hi : Inv (wm G Q2 (0 + 1 + 1 + 1) (kn_up (kn_up (kn_up (X 96) (0) 70) (0 + 1) 40) (0 + 1 + 1) 12)) := by
    rw [← hG]
    refine Inv_voice h (by decide) r3 (fun j hj => ?_)
    rcases (by omega : j = 0 ∨ j = 1 ∨ j = 2) with rfl | rfl | rfl <;> rfl
  refine ⟨((-(x - M)) ^^^ k), G, wm G Q2 (0 + 1 + 1 + 1) (kn_up (kn_up (kn_up (X 96) (0) 70) (0 + 1) 40) (0 + 1 + 1) 12), ?_, ?_, hi⟩
  · simp only [x87_0, x87_1, x87_2, x87_5, x87_8, x87_9, x87_10, x87_11, x87_14, x87_17, x87_18, x87_19, x87_22, x87_23, x87_24, x87_27, x87_28, x87_29, x87_32, x87_35, x87_36, x87_37, x87_38, x87_39, x87_42, x59_0, x59_1, x59_2, x59_5, x59_6, x59_7, x59_10, x59_13, x59_14, x59_15, x59_18, x59_21, x59_22, x59_23, x59_26, x59_27, x59_28, x59_29, x59_32, x59_34, x59_35, x59_38, x87_36 (Or.inl rfl) (ka_st_k1 ka_k_1), ka_kk_i, ka_kk_n, ka_cl_i, ka_cl_r, ka_cl_n, or_true, true_or, ka_ne2, ka_ne4, ka_ne5, ka_ne10, not_false_eq_true, not_true_eq_false, if_true, if_false, ka_k_0, ka_k_1, ka_k_2, ka_k_3, ka_k_4, ka_k_5, ka_k_6, ka_k_7, ka_k_8, ka_k_9, ka_k_10, ka_k_11, ka_k_12, ka_k_13, ka_k_14, ka_k_15, ka_k_16, ka_k_17, ka_k_18, ka_k_19, ka_k_20, ka_k_21, ka_k_22, ka_k_23, ka_k_24, ka_k_25, ka_k_26, ka_k_27, ka_k_28, ka_k_29, ka_k_30, ka_k_31, ka_k_32, ka_k_33, ka_k_34, ka_k_35, ka_k_36, ka_k_37, ka_k_38, ka_k_39, ka_k_40, ka_k_41, ka_k_42, ka_k_43, ka_k_44, ka_k_45, ka_k_46, ka_k_47, ka_k_48, ka_k_49, ka_k_50, ka_k_51, ka_k_52, ka_k_53, ka_k_54, ka_k_55, ka_k_56, ka_k_57, ka_k_58, ka_k_59, ka_k_60, ka_k_61, ka_k_62, ka_k_63, ka_k_64, ka_k_65, ka_k_66, ka_k_67, ka_k_68, ka_k_69, ka_k_70, ka_k_71, ka_k_72, ka_k_73, ka_k_74, ka_k_75, ka_k_76, ka_k_77, ka_k_78, ka_k_79, ka_k_80, ka_k_81, ka_k_82, ka_k_83, ka_k_84, ka_k_85, ka_k_86, ka_k_87, ka_k_88, ka_k_89, ka_k_90, ka_k_91, ka_k_92, ka_k_93, ka_k_94, ka_k_95, ka_k_96, ka_k_97, ka_k_98, ka_k_99, ka_k_100, ka_rf_0_0, ka_rf_0_1, ka_rf_0_2, ka_rf_0_4, ka_rf_0_5, ka_rf_0_6, ka_rf_0_7, ka_rf_0_8, ka_rf_0_9, ka_rf_61_0, ka_rf_61_2, ka_rf_67_0, ka_rf_67_1, ka_rf_67_2, ka_rf_75_0, ka_rf_87_0, ka_rf_87_1, ka_rf_87_2, ka_rf_87_4, ka_rf_87_11, ka_rf_87_12, ka_rf_87_14, ka_rf_87_15, ka_rf_87_16, ka_rf_87_19, ka_rf_87_20, ka_rf_87_21, ka_rf_87_22, ka_ln_63, ka_ln_64, ka_ln_65, ka_ln_68, ka_ln_69, ka_ln_70, ka_ln_76, ka_ln_77, ka_ln_78, ka_ln_80, ka_ln_82, ka_ln_84, ka_ln_86, ka_ln_88, ka_ln_89, ka_ln_90, ka_ln_91, ka_ln_92, ka_ln_93, ka_ln_94, ka_ln_95, ka_ln_96, ka_ln_97, ka_ln_98, ka_ln_99, ka_ln_100, ka_st_r0 ka_k_1, ka_st_k1 ka_k_1, ka_st_l1 ka_k_1, ka_st_ra ka_k_1 hk8, ka_st_kn ka_k_1 hk8, sp_100, sp_106, ka_b_0, and_self, e1, c1, ka_t_0, ka_t_3, t2, la1, la2, hin, kn_put_r, kn_row_at, kn_row_row, oK, x0, x1, hQ, hV, sp_60_6_2 q2, hb]
  · simp only [x189_0, x189_1, x189_2, x189_5, x189_8, x189_9, x189_10, x189_11, x189_14, x189_17, x189_20, x189_21, x189_22, x189_25, x189_26, x189_27, x189_28, x189_31, x189_32, x189_33, x189_36, x189_37, x189_40, x189_42, x189_43, x189_46, x189_47, x189_49, x189_50, x189_53, x189_56, x189_57, x189_58, x189_61, x189_62, x189_64, x189_65, x189_68, x189_71, x189_72, x189_73, x189_76, x189_77, x189_79, x189_80, x189_83, x189_86, x189_87, x189_89, x189_90, x189_93, ka_kk_i, ka_kk_n, ka_cl_i, ka_cl_r, ka_cl_n, or_true, true_or, ka_ne2, ka_ne4, ka_ne5, ka_ne10, not_false_eq_true, not_true_eq_false, if_true, if_false, ka_k_0, ka_k_1, ka_k_2, ka_k_3, ka_k_4, ka_k_5, ka_k_6, ka_k_7, ka_k_8, ka_k_9, ka_k_10, ka_k_11, ka_k_12, ka_k_13, ka_k_14, ka_k_15, ka_k_16, ka_k_17, ka_k_18, ka_k_19, ka_k_20, ka_k_21, ka_k_22, ka_k_23, ka_k_24, ka_k_25, ka_k_26, ka_k_27, ka_k_28, ka_k_29, ka_k_30, ka_k_31, ka_k_32, ka_k_33, ka_k_34, ka_k_35, ka_k_36, ka_k_37, ka_k_38, ka_k_39, ka_k_40, ka_k_41, ka_k_42, ka_k_43, ka_k_44, ka_k_45, ka_k_46, ka_k_47, ka_k_48, ka_k_49, ka_k_50, ka_k_51, ka_k_52, ka_k_53, ka_k_54, ka_k_55, ka_k_56, ka_k_57, ka_k_58, ka_k_59, ka_k_60, ka_k_61, ka_k_62, ka_k_63, ka_k_64, ka_k_65, ka_k_66, ka_k_67, ka_k_68, ka_k_69, ka_k_70, ka_k_71, ka_k_72, ka_k_73, ka_k_74, ka_k_75, ka_k_76, ka_k_77, ka_k_78, ka_k_79, ka_k_80, ka_k_81, ka_k_82, ka_k_83, ka_k_84, ka_k_85, ka_k_86, ka_k_87, ka_k_88, ka_k_89, ka_k_90, ka_k_91, ka_k_92, ka_k_93, ka_k_94, ka_k_95, ka_k_96, ka_k_97, ka_k_98, ka_k_99, ka_k_100, ka_rf_0_0, ka_rf_0_1, ka_rf_0_2, ka_rf_0_4, ka_rf_0_5, ka_rf_0_6, ka_rf_0_7, ka_rf_0_8, ka_rf_0_9, ka_rf_61_0, ka_rf_61_2, ka_rf_67_0, ka_rf_67_1, ka_rf_67_2, ka_rf_75_0, ka_rf_87_0, ka_rf_87_1, ka_rf_87_2, ka_rf_87_4, ka_rf_87_11, ka_rf_87_12, ka_rf_87_14, ka_rf_87_15, ka_rf_87_16, ka_rf_87_19, ka_rf_87_20, ka_rf_87_21, ka_rf_87_22, ka_ln_63, ka_ln_64, ka_ln_65, ka_ln_68, ka_ln_69, ka_ln_70, ka_ln_76, ka_ln_77, ka_ln_78, ka_ln_80, ka_ln_82, ka_ln_84, ka_ln_86, ka_ln_88, ka_ln_89, ka_ln_90, ka_ln_91, ka_ln_92, ka_ln_93, ka_ln_94, ka_ln_95, ka_ln_96, ka_ln_97, ka_ln_98, ka_ln_99, ka_ln_100, sp_100, sp_106, sp_109, sp_110, sp_111, sp_112, sp_113, sp_117, sp_191, ka_i64, ka_b_0, ka_one0, and_self, ka_lit64_69, ka_lit64_5, ka_lit64_99, ka_lit64_8, ka_lit64_48, ka_lit64_57, ka_lit64_9, ka_lit64_6, ka_lit64_3, ka_lit64_60, ka_lit64_20, ka_lit64_12, ka_lit64_4, ka_lit64_400, ka_lit64_999, ka_lit64_m1, ka_lit64_1, ka_l0, ka_t_0, ka_t_1, ka_t_3, ka_t_4, ka_t_6, ka_t_7, ka_t_9, ka_t_5, ka_t_8, ka_t_60, ka_t_69, ka_t_99, ka_t_400, ka_t_999, ka_t_m1, ka_lit64_69, ka_lit64_5, ka_lit64_99, ka_lit64_8, ka_lit64_48, ka_lit64_57, ka_lit64_9, ka_lit64_6, ka_lit64_3, ka_lit64_60, ka_lit64_20, ka_lit64_12, ka_lit64_4, ka_lit64_400, ka_lit64_999, ka_lit64_m1, ka_lit64_1, ka_i64, ka_l0, sp_121' q9, g88, g87, c1, t2, la1, la2, z0, z1, z2, kn_put_r, kn_row_at, kn_row_row, hQ2, hW, sp_184w r18 hkk k0, hm]
theorem op_voice_6_3 {k x : Int32} (h : Inv X) (c1 : 0 ≤ k.toInt ∧ k.toInt < (X 88 9).toInt) (hK : md_kd (X 88) k.toNatClampNeg 0 = 6) : op sc (d + 12) 87 189 [.ref 0, .int k, .int 3, .int x] [.ref 87, .int k, .int 3, .int x, ka_nv] X := by
  have e1 : X 1 1 = X 88 9 := h.1.1.1.1
  have hD := h.1.2.1
  have hN := hD.1
  have hk8 : k.toNatClampNeg < 8 := by rw [ka_nc]; omega
  have hk : k.toNatClampNeg < (X 88 9).toInt.toNat := by rw [ka_nc]; omega
  have hin : ka_in k 8 := ka_inI.mpr (by omega)
  have hkk : 0 ≤ k.toInt ∧ k.toInt < 8 := by omega
  have hx : ∀ f, f < 9 → X (1 + 12 + k.toNatClampNeg) f = md_kd (X 88) k.toNatClampNeg f := h.1.1.2.2.1 _ hk
  have hok := hD.2.1 _ hk
  have t3 : ((3 : Int32).toInt) = 3 := rfl
  have la1 : ((0 : Int) ≤ 3) = True := by decide
  have la2 : ((3 : Int) ≤ 3) = True := by decide
  have z0 : ((3 : Int32) = 0) = False := by decide
  have z1 : ((3 : Int32) = 1) = False := by decide
  have z2 : ((3 : Int32) = 2) = False := by decide
  generalize hM : md_kd (X 88) k.toNatClampNeg 1 = M at *
  have x0 : X (1 + 12 + k.toNatClampNeg) 0 = 6 := (hx 0 (by decide)).trans hK
  have x1 : X (1 + 12 + k.toNatClampNeg) 1 = M := (hx 1 (by decide)).trans hM
  have oK : ∀ q : Nat → Int32, kn_row X 75 q (1 + 12 + k.toNatClampNeg) = X (1 + 12 + k.toNatClampNeg) := fun q => kn_row_off (by omega)
  generalize hQ : kn_up (kn_up (kn_up (kn_up (X 75) 1 0) 2 6) 3 M) 4 k = Q
  have q1 : Q 1 = nI 0 := by rw [← hQ]; rfl
  have q2 : Q 2 = 6 := by rw [← hQ]; rfl
  have q3 : Q 3 = M := by rw [← hQ]; rfl
  have q4 : Q 4 = k := by rw [← hQ]; rfl
  have hV : kn_row X 75 Q = vm X Q 0 (X 76) := by
    unfold vm
    rw [kn_row_self, ← q1, kn_up_id]
  have hb := @vb_6_71 sc (d + 5) X Q M k 0 0 (X 76) x q2 q3 q4 (by decide) (by decide)
  have n0 : (nI 0) = 0 := rfl
  rw [n0] at hb
  generalize hG : vm X Q (0 + 1 + 1 + 1 + 1 + 1 + 1 + 1 + 1 + 1) (kn_up (kn_up (kn_up (kn_up (kn_up (kn_up (kn_up (kn_up (kn_up (X 76) (0) 71) (0 + 1) 11) (0 + 1 + 1) 10) (0 + 1 + 1 + 1) 13) (0 + 1 + 1 + 1 + 1) 11) (0 + 1 + 1 + 1 + 1 + 1) 10) (0 + 1 + 1 + 1 + 1 + 1 + 1) 70) (0 + 1 + 1 + 1 + 1 + 1 + 1 + 1) 40) (0 + 1 + 1 + 1 + 1 + 1 + 1 + 1 + 1) 12) = G at hb
  have goff : ∀ p, ¬ p = 75 → ¬ p = 76 → G p = X p := by intro p a b; rw [← hG]; unfold vm; rw [kn_row_off a, kn_row_off b]
  have g87 : G 87 = X 87 := goff 87 (by decide) (by decide)
  have g88 : G 88 = X 88 := goff 88 (by decide) (by decide)
  have g96 : G 96 = X 96 := goff 96 (by decide) (by decide)
  have q9 : 0 ≤ (G 88 9).toInt := by rw [g88]; exact hN.1
  generalize hQ2 : kn_up (kn_up (X 87) 17 0) 18 k = Q2
  have r17 : Q2 17 = nI 0 := by rw [← hQ2]; rfl
  have r18 : Q2 18 = k := by rw [← hQ2]; rfl
  have r3 : Q2 3 = X 87 3 := by rw [← hQ2]; rfl
  have hW : kn_row G 87 Q2 = wm G Q2 0 (X 96) := by
    unfold wm
    rw [← g96, kn_row_self, ← r17, kn_up_id]
  have k0 : G 88 (13 + 9 * k.toNatClampNeg + 0) = 6 := by rw [g88]; exact hK
  have k1 : G 88 (13 + 9 * k.toNatClampNeg + 1) = M := by rw [g88]; exact hM
  have hm := @wb_6_tells_6 sc (d + 2) G Q2 M k 0 (X 96) x r18 hkk k0 k1 (by decide)
  have hi : Inv (wm G Q2 (0 + 1 + 1 + 1 + 1 + 1 + 1 + 1 + 1 + 1) (kn_up (kn_up (kn_up (kn_up (kn_up (kn_up (kn_up (kn_up (kn_up (X 96) (0) 71) (0 + 1) 11) (0 + 1 + 1) 10) (0 + 1 + 1 + 1) 13) (0 + 1 + 1 + 1 + 1) 11) (0 + 1 + 1 + 1 + 1 + 1) 10) (0 + 1 + 1 + 1 + 1 + 1 + 1) 70) (0 + 1 + 1 + 1 + 1 + 1 + 1 + 1) 40) (0 + 1 + 1 + 1 + 1 + 1 + 1 + 1 + 1) 12)) := by
    rw [← hG]
    refine Inv_voice h (by decide) r3 (fun j hj => ?_)
    rcases (by omega : j = 0 ∨ j = 1 ∨ j = 2 ∨ j = 3 ∨ j = 4 ∨ j = 5 ∨ j = 6 ∨ j = 7 ∨ j = 8) with rfl | rfl | rfl | rfl | rfl | rfl | rfl | rfl | rfl <;> rfl
  refine ⟨(((x + k) * 2) - (((x + k) * 2) ^^^ ((-(x - M)) ^^^ k))), G, wm G Q2 (0 + 1 + 1 + 1 + 1 + 1 + 1 + 1 + 1 + 1) (kn_up (kn_up (kn_up (kn_up (kn_up (kn_up (kn_up (kn_up (kn_up (X 96) (0) 71) (0 + 1) 11) (0 + 1 + 1) 10) (0 + 1 + 1 + 1) 13) (0 + 1 + 1 + 1 + 1) 11) (0 + 1 + 1 + 1 + 1 + 1) 10) (0 + 1 + 1 + 1 + 1 + 1 + 1) 70) (0 + 1 + 1 + 1 + 1 + 1 + 1 + 1) 40) (0 + 1 + 1 + 1 + 1 + 1 + 1 + 1 + 1) 12), ?_, ?_, hi⟩
  · simp only [x87_0, x87_1, x87_2, x87_5, x87_8, x87_9, x87_10, x87_11, x87_14, x87_17, x87_18, x87_19, x87_22, x87_23, x87_24, x87_27, x87_28, x87_29, x87_32, x87_35, x87_36, x87_37, x87_38, x87_39, x87_42, x59_0, x59_1, x59_2, x59_5, x59_6, x59_7, x59_10, x59_13, x59_14, x59_15, x59_18, x59_21, x59_22, x59_23, x59_26, x59_27, x59_28, x59_29, x59_32, x59_34, x59_35, x59_38, x87_36 (Or.inl rfl) (ka_st_k1 ka_k_1), ka_kk_i, ka_kk_n, ka_cl_i, ka_cl_r, ka_cl_n, or_true, true_or, ka_ne2, ka_ne4, ka_ne5, ka_ne10, not_false_eq_true, not_true_eq_false, if_true, if_false, ka_k_0, ka_k_1, ka_k_2, ka_k_3, ka_k_4, ka_k_5, ka_k_6, ka_k_7, ka_k_8, ka_k_9, ka_k_10, ka_k_11, ka_k_12, ka_k_13, ka_k_14, ka_k_15, ka_k_16, ka_k_17, ka_k_18, ka_k_19, ka_k_20, ka_k_21, ka_k_22, ka_k_23, ka_k_24, ka_k_25, ka_k_26, ka_k_27, ka_k_28, ka_k_29, ka_k_30, ka_k_31, ka_k_32, ka_k_33, ka_k_34, ka_k_35, ka_k_36, ka_k_37, ka_k_38, ka_k_39, ka_k_40, ka_k_41, ka_k_42, ka_k_43, ka_k_44, ka_k_45, ka_k_46, ka_k_47, ka_k_48, ka_k_49, ka_k_50, ka_k_51, ka_k_52, ka_k_53, ka_k_54, ka_k_55, ka_k_56, ka_k_57, ka_k_58, ka_k_59, ka_k_60, ka_k_61, ka_k_62, ka_k_63, ka_k_64, ka_k_65, ka_k_66, ka_k_67, ka_k_68, ka_k_69, ka_k_70, ka_k_71, ka_k_72, ka_k_73, ka_k_74, ka_k_75, ka_k_76, ka_k_77, ka_k_78, ka_k_79, ka_k_80, ka_k_81, ka_k_82, ka_k_83, ka_k_84, ka_k_85, ka_k_86, ka_k_87, ka_k_88, ka_k_89, ka_k_90, ka_k_91, ka_k_92, ka_k_93, ka_k_94, ka_k_95, ka_k_96, ka_k_97, ka_k_98, ka_k_99, ka_k_100, ka_rf_0_0, ka_rf_0_1, ka_rf_0_2, ka_rf_0_4, ka_rf_0_5, ka_rf_0_6, ka_rf_0_7, ka_rf_0_8, ka_rf_0_9, ka_rf_61_0, ka_rf_61_2, ka_rf_67_0, ka_rf_67_1, ka_rf_67_2, ka_rf_75_0, ka_rf_87_0, ka_rf_87_1, ka_rf_87_2, ka_rf_87_4, ka_rf_87_11, ka_rf_87_12, ka_rf_87_14, ka_rf_87_15, ka_rf_87_16, ka_rf_87_19, ka_rf_87_20, ka_rf_87_21, ka_rf_87_22, ka_ln_63, ka_ln_64, ka_ln_65, ka_ln_68, ka_ln_69, ka_ln_70, ka_ln_76, ka_ln_77, ka_ln_78, ka_ln_80, ka_ln_82, ka_ln_84, ka_ln_86, ka_ln_88, ka_ln_89, ka_ln_90, ka_ln_91, ka_ln_92, ka_ln_93, ka_ln_94, ka_ln_95, ka_ln_96, ka_ln_97, ka_ln_98, ka_ln_99, ka_ln_100, ka_st_r0 ka_k_1, ka_st_k1 ka_k_1, ka_st_l1 ka_k_1, ka_st_ra ka_k_1 hk8, ka_st_kn ka_k_1 hk8, sp_100, sp_106, ka_b_0, and_self, e1, c1, ka_t_0, ka_t_3, t3, la1, la2, hin, kn_put_r, kn_row_at, kn_row_row, oK, x0, x1, hQ, hV, sp_60_6_3 q2, hb]
  · simp only [x189_0, x189_1, x189_2, x189_5, x189_8, x189_9, x189_10, x189_11, x189_14, x189_17, x189_20, x189_21, x189_22, x189_25, x189_26, x189_27, x189_28, x189_31, x189_32, x189_33, x189_36, x189_37, x189_40, x189_42, x189_43, x189_46, x189_47, x189_49, x189_50, x189_53, x189_56, x189_57, x189_58, x189_61, x189_62, x189_64, x189_65, x189_68, x189_71, x189_72, x189_73, x189_76, x189_77, x189_79, x189_80, x189_83, x189_86, x189_87, x189_89, x189_90, x189_93, ka_kk_i, ka_kk_n, ka_cl_i, ka_cl_r, ka_cl_n, or_true, true_or, ka_ne2, ka_ne4, ka_ne5, ka_ne10, not_false_eq_true, not_true_eq_false, if_true, if_false, ka_k_0, ka_k_1, ka_k_2, ka_k_3, ka_k_4, ka_k_5, ka_k_6, ka_k_7, ka_k_8, ka_k_9, ka_k_10, ka_k_11, ka_k_12, ka_k_13, ka_k_14, ka_k_15, ka_k_16, ka_k_17, ka_k_18, ka_k_19, ka_k_20, ka_k_21, ka_k_22, ka_k_23, ka_k_24, ka_k_25, ka_k_26, ka_k_27, ka_k_28, ka_k_29, ka_k_30, ka_k_31, ka_k_32, ka_k_33, ka_k_34, ka_k_35, ka_k_36, ka_k_37, ka_k_38, ka_k_39, ka_k_40, ka_k_41, ka_k_42, ka_k_43, ka_k_44, ka_k_45, ka_k_46, ka_k_47, ka_k_48, ka_k_49, ka_k_50, ka_k_51, ka_k_52, ka_k_53, ka_k_54, ka_k_55, ka_k_56, ka_k_57, ka_k_58, ka_k_59, ka_k_60, ka_k_61, ka_k_62, ka_k_63, ka_k_64, ka_k_65, ka_k_66, ka_k_67, ka_k_68, ka_k_69, ka_k_70, ka_k_71, ka_k_72, ka_k_73, ka_k_74, ka_k_75, ka_k_76, ka_k_77, ka_k_78, ka_k_79, ka_k_80, ka_k_81, ka_k_82, ka_k_83, ka_k_84, ka_k_85, ka_k_86, ka_k_87, ka_k_88, ka_k_89, ka_k_90, ka_k_91, ka_k_92, ka_k_93, ka_k_94, ka_k_95, ka_k_96, ka_k_97, ka_k_98, ka_k_99, ka_k_100, ka_rf_0_0, ka_rf_0_1, ka_rf_0_2, ka_rf_0_4, ka_rf_0_5, ka_rf_0_6, ka_rf_0_7, ka_rf_0_8, ka_rf_0_9, ka_rf_61_0, ka_rf_61_2, ka_rf_67_0, ka_rf_67_1, ka_rf_67_2, ka_rf_75_0, ka_rf_87_0, ka_rf_87_1, ka_rf_87_2, ka_rf_87_4, ka_rf_87_11, ka_rf_87_12, ka_rf_87_14, ka_rf_87_15, ka_rf_87_16, ka_rf_87_19, ka_rf_87_20, ka_rf_87_21, ka_rf_87_22, ka_ln_63, ka_ln_64, ka_ln_65, ka_ln_68, ka_ln_69, ka_ln_70, ka_ln_76, ka_ln_77, ka_ln_78, ka_ln_80, ka_ln_82, ka_ln_84, ka_ln_86, ka_ln_88, ka_ln_89, ka_ln_90, ka_ln_91, ka_ln_92, ka_ln_93, ka_ln_94, ka_ln_95, ka_ln_96, ka_ln_97, ka_ln_98, ka_ln_99, ka_ln_100, sp_100, sp_106, sp_109, sp_110, sp_111, sp_112, sp_113, sp_117, sp_191, ka_i64, ka_b_0, ka_one0, and_self, ka_lit64_69, ka_lit64_5, ka_lit64_99, ka_lit64_8, ka_lit64_48, ka_lit64_57, ka_lit64_9, ka_lit64_6, ka_lit64_3, ka_lit64_60, ka_lit64_20, ka_lit64_12, ka_lit64_4, ka_lit64_400, ka_lit64_999, ka_lit64_m1, ka_lit64_1, ka_l0, ka_t_0, ka_t_1, ka_t_3, ka_t_4, ka_t_6, ka_t_7, ka_t_9, ka_t_5, ka_t_8, ka_t_60, ka_t_69, ka_t_99, ka_t_400, ka_t_999, ka_t_m1, ka_lit64_69, ka_lit64_5, ka_lit64_99, ka_lit64_8, ka_lit64_48, ka_lit64_57, ka_lit64_9, ka_lit64_6, ka_lit64_3, ka_lit64_60, ka_lit64_20, ka_lit64_12, ka_lit64_4, ka_lit64_400, ka_lit64_999, ka_lit64_m1, ka_lit64_1, ka_i64, ka_l0, sp_121' q9, g88, g87, c1, t3, la1, la2, z0, z1, z2, kn_put_r, kn_row_at, kn_row_row, hQ2, hW, sp_184w r18 hkk k0, hm]
theorem op_voice {k a x : Int32} (h : Inv X) : op sc (d + 12) 87 189 [.ref 0, .int k, .int a, .int x] [.ref 87, .int k, .int a, .int x, ka_nv] X := by
  have e1 : X 1 1 = X 88 9 := h.1.1.1.1
  have hD := h.1.2.1
  have hN := hD.1
  by_cases c1 : (0 ≤ k.toInt ∧ k.toInt < (X 88 9).toInt)
  · by_cases c2 : ((0 : Int) ≤ a.toInt ∧ a.toInt ≤ 3)
    · have hk8 : k.toNatClampNeg < 8 := by rw [ka_nc]; omega
      have hk : k.toNatClampNeg < (X 88 9).toInt.toNat := by rw [ka_nc]; omega
      have hin : ka_in k 8 := ka_inI.mpr (by omega)
      have hkk : 0 ≤ k.toInt ∧ k.toInt < 8 := by omega
      have hx : ∀ f, f < 9 → X (1 + 12 + k.toNatClampNeg) f = md_kd (X 88) k.toNatClampNeg f := h.1.1.2.2.1 _ hk
      have hok := hD.2.1 _ hk

      obtain ⟨j, rfl, hj⟩ := ka_isI c2.1 (show a.toInt < 4 by omega)
      obtain ⟨m, hm, hm7⟩ := ka_isI hok.1.1 (show (md_kd (X 88) k.toNatClampNeg 0).toInt < 7 by have z := hok.1.2; omega)
      rcases (by omega : m = 0 ∨ m = 1 ∨ m = 2 ∨ m = 3 ∨ m = 4 ∨ m = 5 ∨ m = 6) with rfl | rfl | rfl | rfl | rfl | rfl | rfl
      · rcases (by omega : j = 0 ∨ j = 1 ∨ j = 2 ∨ j = 3) with rfl | rfl | rfl | rfl
        · exact op_voice_0_0 h c1 hm
        · exact op_voice_0_1 h c1 hm
        · exact op_voice_0_2 h c1 hm
        · exact op_voice_0_3 h c1 hm
      · rcases (by omega : j = 0 ∨ j = 1 ∨ j = 2 ∨ j = 3) with rfl | rfl | rfl | rfl
        · exact op_voice_1_0 h c1 hm
        · exact op_voice_1_1 h c1 hm
        · exact op_voice_1_2 h c1 hm
        · exact op_voice_1_3 h c1 hm
      · rcases (by omega : j = 0 ∨ j = 1 ∨ j = 2 ∨ j = 3) with rfl | rfl | rfl | rfl
        · exact op_voice_2_0 h c1 hm
        · exact op_voice_2_1 h c1 hm
        · exact op_voice_2_2 h c1 hm
        · exact op_voice_2_3 h c1 hm
      · rcases (by omega : j = 0 ∨ j = 1 ∨ j = 2 ∨ j = 3) with rfl | rfl | rfl | rfl
        · exact op_voice_3_0 h c1 hm
        · exact op_voice_3_1 h c1 hm
        · exact op_voice_3_2 h c1 hm
        · exact op_voice_3_3 h c1 hm
      · rcases (by omega : j = 0 ∨ j = 1 ∨ j = 2 ∨ j = 3) with rfl | rfl | rfl | rfl
        · exact op_voice_4_0 h c1 hm
        · exact op_voice_4_1 h c1 hm
        · exact op_voice_4_2 h c1 hm
        · exact op_voice_4_3 h c1 hm
      · rcases (by omega : j = 0 ∨ j = 1 ∨ j = 2 ∨ j = 3) with rfl | rfl | rfl | rfl
        · exact op_voice_5_0 h c1 hm
        · exact op_voice_5_1 h c1 hm
        · exact op_voice_5_2 h c1 hm
        · exact op_voice_5_3 h c1 hm
      · rcases (by omega : j = 0 ∨ j = 1 ∨ j = 2 ∨ j = 3) with rfl | rfl | rfl | rfl
        · exact op_voice_6_0 h c1 hm
        · exact op_voice_6_1 h c1 hm
        · exact op_voice_6_2 h c1 hm
        · exact op_voice_6_3 h c1 hm
    · exact op_e (k := 1) (v := -1000000000 - 1) (by decide) h (by simp only [x87_0, x87_1, x87_2, x87_5, x87_8, x87_9, x87_10, x87_11, x87_14, x87_17, x87_18, x87_19, x87_22, x87_23, x87_24, x87_27, x87_28, x87_29, x87_32, x87_35, x87_36, x87_37, x87_38, x87_39, x87_42, ka_kk_i, ka_kk_n, ka_cl_i, ka_cl_r, ka_cl_n, or_true, true_or, ka_ne2, ka_ne4, ka_ne5, ka_ne10, not_false_eq_true, not_true_eq_false, if_true, if_false, ka_k_0, ka_k_1, ka_k_2, ka_k_3, ka_k_4, ka_k_5, ka_k_6, ka_k_7, ka_k_8, ka_k_9, ka_k_10, ka_k_11, ka_k_12, ka_k_13, ka_k_14, ka_k_15, ka_k_16, ka_k_17, ka_k_18, ka_k_19, ka_k_20, ka_k_21, ka_k_22, ka_k_23, ka_k_24, ka_k_25, ka_k_26, ka_k_27, ka_k_28, ka_k_29, ka_k_30, ka_k_31, ka_k_32, ka_k_33, ka_k_34, ka_k_35, ka_k_36, ka_k_37, ka_k_38, ka_k_39, ka_k_40, ka_k_41, ka_k_42, ka_k_43, ka_k_44, ka_k_45, ka_k_46, ka_k_47, ka_k_48, ka_k_49, ka_k_50, ka_k_51, ka_k_52, ka_k_53, ka_k_54, ka_k_55, ka_k_56, ka_k_57, ka_k_58, ka_k_59, ka_k_60, ka_k_61, ka_k_62, ka_k_63, ka_k_64, ka_k_65, ka_k_66, ka_k_67, ka_k_68, ka_k_69, ka_k_70, ka_k_71, ka_k_72, ka_k_73, ka_k_74, ka_k_75, ka_k_76, ka_k_77, ka_k_78, ka_k_79, ka_k_80, ka_k_81, ka_k_82, ka_k_83, ka_k_84, ka_k_85, ka_k_86, ka_k_87, ka_k_88, ka_k_89, ka_k_90, ka_k_91, ka_k_92, ka_k_93, ka_k_94, ka_k_95, ka_k_96, ka_k_97, ka_k_98, ka_k_99, ka_k_100, ka_rf_0_0, ka_rf_0_1, ka_rf_0_2, ka_rf_0_4, ka_rf_0_5, ka_rf_0_6, ka_rf_0_7, ka_rf_0_8, ka_rf_0_9, ka_rf_61_0, ka_rf_61_2, ka_rf_67_0, ka_rf_67_1, ka_rf_67_2, ka_rf_75_0, ka_rf_87_0, ka_rf_87_1, ka_rf_87_2, ka_rf_87_4, ka_rf_87_11, ka_rf_87_12, ka_rf_87_14, ka_rf_87_15, ka_rf_87_16, ka_rf_87_19, ka_rf_87_20, ka_rf_87_21, ka_rf_87_22, ka_ln_63, ka_ln_64, ka_ln_65, ka_ln_68, ka_ln_69, ka_ln_70, ka_ln_76, ka_ln_77, ka_ln_78, ka_ln_80, ka_ln_82, ka_ln_84, ka_ln_86, ka_ln_88, ka_ln_89, ka_ln_90, ka_ln_91, ka_ln_92, ka_ln_93, ka_ln_94, ka_ln_95, ka_ln_96, ka_ln_97, ka_ln_98, ka_ln_99, ka_ln_100, sp_99_1, sp_99_2, sp_99_3, sp_99_4, sp_99_5, sp_116_1, sp_116_2, sp_116_3, sp_116_4, sp_116_5, sp_100, sp_106, sp_109, sp_110, sp_111, sp_112, sp_113, sp_117, sp_191, ka_i64, ka_b_0, ka_one0, and_self, ka_lit64_69, ka_lit64_5, ka_lit64_99, ka_lit64_8, ka_lit64_48, ka_lit64_57, ka_lit64_9, ka_lit64_6, ka_lit64_3, ka_lit64_60, ka_lit64_20, ka_lit64_12, ka_lit64_4, ka_lit64_400, ka_lit64_999, ka_lit64_m1, ka_lit64_1, ka_l0, ka_t_0, ka_t_1, ka_t_3, ka_t_4, ka_t_6, ka_t_7, ka_t_9, ka_t_5, ka_t_8, ka_t_60, ka_t_69, ka_t_99, ka_t_400, ka_t_999, ka_t_m1, e1, c1, c2]) (fun Y hY => by
        have y88 : Y 88 = X 88 := hY 88 (by decide)
        have q9 : 0 ≤ (Y 88 9).toInt := by rw [y88]; exact hN.1
        simp only [x189_0, x189_1, x189_2, x189_5, x189_8, x189_9, x189_10, x189_11, x189_14, x189_17, x189_20, x189_21, x189_22, x189_25, x189_26, x189_27, x189_28, x189_31, x189_32, x189_33, x189_36, x189_37, x189_40, x189_42, x189_43, x189_46, x189_47, x189_49, x189_50, x189_53, x189_56, x189_57, x189_58, x189_61, x189_62, x189_64, x189_65, x189_68, x189_71, x189_72, x189_73, x189_76, x189_77, x189_79, x189_80, x189_83, x189_86, x189_87, x189_89, x189_90, x189_93, ka_kk_i, ka_kk_n, ka_cl_i, ka_cl_r, ka_cl_n, or_true, true_or, ka_ne2, ka_ne4, ka_ne5, ka_ne10, not_false_eq_true, not_true_eq_false, if_true, if_false, ka_k_0, ka_k_1, ka_k_2, ka_k_3, ka_k_4, ka_k_5, ka_k_6, ka_k_7, ka_k_8, ka_k_9, ka_k_10, ka_k_11, ka_k_12, ka_k_13, ka_k_14, ka_k_15, ka_k_16, ka_k_17, ka_k_18, ka_k_19, ka_k_20, ka_k_21, ka_k_22, ka_k_23, ka_k_24, ka_k_25, ka_k_26, ka_k_27, ka_k_28, ka_k_29, ka_k_30, ka_k_31, ka_k_32, ka_k_33, ka_k_34, ka_k_35, ka_k_36, ka_k_37, ka_k_38, ka_k_39, ka_k_40, ka_k_41, ka_k_42, ka_k_43, ka_k_44, ka_k_45, ka_k_46, ka_k_47, ka_k_48, ka_k_49, ka_k_50, ka_k_51, ka_k_52, ka_k_53, ka_k_54, ka_k_55, ka_k_56, ka_k_57, ka_k_58, ka_k_59, ka_k_60, ka_k_61, ka_k_62, ka_k_63, ka_k_64, ka_k_65, ka_k_66, ka_k_67, ka_k_68, ka_k_69, ka_k_70, ka_k_71, ka_k_72, ka_k_73, ka_k_74, ka_k_75, ka_k_76, ka_k_77, ka_k_78, ka_k_79, ka_k_80, ka_k_81, ka_k_82, ka_k_83, ka_k_84, ka_k_85, ka_k_86, ka_k_87, ka_k_88, ka_k_89, ka_k_90, ka_k_91, ka_k_92, ka_k_93, ka_k_94, ka_k_95, ka_k_96, ka_k_97, ka_k_98, ka_k_99, ka_k_100, ka_rf_0_0, ka_rf_0_1, ka_rf_0_2, ka_rf_0_4, ka_rf_0_5, ka_rf_0_6, ka_rf_0_7, ka_rf_0_8, ka_rf_0_9, ka_rf_61_0, ka_rf_61_2, ka_rf_67_0, ka_rf_67_1, ka_rf_67_2, ka_rf_75_0, ka_rf_87_0, ka_rf_87_1, ka_rf_87_2, ka_rf_87_4, ka_rf_87_11, ka_rf_87_12, ka_rf_87_14, ka_rf_87_15, ka_rf_87_16, ka_rf_87_19, ka_rf_87_20, ka_rf_87_21, ka_rf_87_22, ka_ln_63, ka_ln_64, ka_ln_65, ka_ln_68, ka_ln_69, ka_ln_70, ka_ln_76, ka_ln_77, ka_ln_78, ka_ln_80, ka_ln_82, ka_ln_84, ka_ln_86, ka_ln_88, ka_ln_89, ka_ln_90, ka_ln_91, ka_ln_92, ka_ln_93, ka_ln_94, ka_ln_95, ka_ln_96, ka_ln_97, ka_ln_98, ka_ln_99, ka_ln_100, sp_99_1, sp_99_2, sp_99_3, sp_99_4, sp_99_5, sp_116_1, sp_116_2, sp_116_3, sp_116_4, sp_116_5, sp_100, sp_106, sp_109, sp_110, sp_111, sp_112, sp_113, sp_117, sp_191, ka_i64, ka_b_0, ka_one0, and_self, ka_lit64_69, ka_lit64_5, ka_lit64_99, ka_lit64_8, ka_lit64_48, ka_lit64_57, ka_lit64_9, ka_lit64_6, ka_lit64_3, ka_lit64_60, ka_lit64_20, ka_lit64_12, ka_lit64_4, ka_lit64_400, ka_lit64_999, ka_lit64_m1, ka_lit64_1, ka_l0, ka_t_0, ka_t_1, ka_t_3, ka_t_4, ka_t_6, ka_t_7, ka_t_9, ka_t_5, ka_t_8, ka_t_60, ka_t_69, ka_t_99, ka_t_400, ka_t_999, ka_t_m1, sp_121' q9, y88, c1, c2])
  · exact op_e (k := 1) (v := -1000000000 - 1) (by decide) h (by simp only [x87_0, x87_1, x87_2, x87_5, x87_8, x87_9, x87_10, x87_11, x87_14, x87_17, x87_18, x87_19, x87_22, x87_23, x87_24, x87_27, x87_28, x87_29, x87_32, x87_35, x87_36, x87_37, x87_38, x87_39, x87_42, ka_kk_i, ka_kk_n, ka_cl_i, ka_cl_r, ka_cl_n, or_true, true_or, ka_ne2, ka_ne4, ka_ne5, ka_ne10, not_false_eq_true, not_true_eq_false, if_true, if_false, ka_k_0, ka_k_1, ka_k_2, ka_k_3, ka_k_4, ka_k_5, ka_k_6, ka_k_7, ka_k_8, ka_k_9, ka_k_10, ka_k_11, ka_k_12, ka_k_13, ka_k_14, ka_k_15, ka_k_16, ka_k_17, ka_k_18, ka_k_19, ka_k_20, ka_k_21, ka_k_22, ka_k_23, ka_k_24, ka_k_25, ka_k_26, ka_k_27, ka_k_28, ka_k_29, ka_k_30, ka_k_31, ka_k_32, ka_k_33, ka_k_34, ka_k_35, ka_k_36, ka_k_37, ka_k_38, ka_k_39, ka_k_40, ka_k_41, ka_k_42, ka_k_43, ka_k_44, ka_k_45, ka_k_46, ka_k_47, ka_k_48, ka_k_49, ka_k_50, ka_k_51, ka_k_52, ka_k_53, ka_k_54, ka_k_55, ka_k_56, ka_k_57, ka_k_58, ka_k_59, ka_k_60, ka_k_61, ka_k_62, ka_k_63, ka_k_64, ka_k_65, ka_k_66, ka_k_67, ka_k_68, ka_k_69, ka_k_70, ka_k_71, ka_k_72, ka_k_73, ka_k_74, ka_k_75, ka_k_76, ka_k_77, ka_k_78, ka_k_79, ka_k_80, ka_k_81, ka_k_82, ka_k_83, ka_k_84, ka_k_85, ka_k_86, ka_k_87, ka_k_88, ka_k_89, ka_k_90, ka_k_91, ka_k_92, ka_k_93, ka_k_94, ka_k_95, ka_k_96, ka_k_97, ka_k_98, ka_k_99, ka_k_100, ka_rf_0_0, ka_rf_0_1, ka_rf_0_2, ka_rf_0_4, ka_rf_0_5, ka_rf_0_6, ka_rf_0_7, ka_rf_0_8, ka_rf_0_9, ka_rf_61_0, ka_rf_61_2, ka_rf_67_0, ka_rf_67_1, ka_rf_67_2, ka_rf_75_0, ka_rf_87_0, ka_rf_87_1, ka_rf_87_2, ka_rf_87_4, ka_rf_87_11, ka_rf_87_12, ka_rf_87_14, ka_rf_87_15, ka_rf_87_16, ka_rf_87_19, ka_rf_87_20, ka_rf_87_21, ka_rf_87_22, ka_ln_63, ka_ln_64, ka_ln_65, ka_ln_68, ka_ln_69, ka_ln_70, ka_ln_76, ka_ln_77, ka_ln_78, ka_ln_80, ka_ln_82, ka_ln_84, ka_ln_86, ka_ln_88, ka_ln_89, ka_ln_90, ka_ln_91, ka_ln_92, ka_ln_93, ka_ln_94, ka_ln_95, ka_ln_96, ka_ln_97, ka_ln_98, ka_ln_99, ka_ln_100, sp_99_1, sp_99_2, sp_99_3, sp_99_4, sp_99_5, sp_116_1, sp_116_2, sp_116_3, sp_116_4, sp_116_5, sp_100, sp_106, sp_109, sp_110, sp_111, sp_112, sp_113, sp_117, sp_191, ka_i64, ka_b_0, ka_one0, and_self, ka_lit64_69, ka_lit64_5, ka_lit64_99, ka_lit64_8, ka_lit64_48, ka_lit64_57, ka_lit64_9, ka_lit64_6, ka_lit64_3, ka_lit64_60, ka_lit64_20, ka_lit64_12, ka_lit64_4, ka_lit64_400, ka_lit64_999, ka_lit64_m1, ka_lit64_1, ka_l0, ka_t_0, ka_t_1, ka_t_3, ka_t_4, ka_t_6, ka_t_7, ka_t_9, ka_t_5, ka_t_8, ka_t_60, ka_t_69, ka_t_99, ka_t_400, ka_t_999, ka_t_m1, e1, c1]) (fun Y hY => by
      have y88 : Y 88 = X 88 := hY 88 (by decide)
      have q9 : 0 ≤ (Y 88 9).toInt := by rw [y88]; exact hN.1
      simp only [x189_0, x189_1, x189_2, x189_5, x189_8, x189_9, x189_10, x189_11, x189_14, x189_17, x189_20, x189_21, x189_22, x189_25, x189_26, x189_27, x189_28, x189_31, x189_32, x189_33, x189_36, x189_37, x189_40, x189_42, x189_43, x189_46, x189_47, x189_49, x189_50, x189_53, x189_56, x189_57, x189_58, x189_61, x189_62, x189_64, x189_65, x189_68, x189_71, x189_72, x189_73, x189_76, x189_77, x189_79, x189_80, x189_83, x189_86, x189_87, x189_89, x189_90, x189_93, ka_kk_i, ka_kk_n, ka_cl_i, ka_cl_r, ka_cl_n, or_true, true_or, ka_ne2, ka_ne4, ka_ne5, ka_ne10, not_false_eq_true, not_true_eq_false, if_true, if_false, ka_k_0, ka_k_1, ka_k_2, ka_k_3, ka_k_4, ka_k_5, ka_k_6, ka_k_7, ka_k_8, ka_k_9, ka_k_10, ka_k_11, ka_k_12, ka_k_13, ka_k_14, ka_k_15, ka_k_16, ka_k_17, ka_k_18, ka_k_19, ka_k_20, ka_k_21, ka_k_22, ka_k_23, ka_k_24, ka_k_25, ka_k_26, ka_k_27, ka_k_28, ka_k_29, ka_k_30, ka_k_31, ka_k_32, ka_k_33, ka_k_34, ka_k_35, ka_k_36, ka_k_37, ka_k_38, ka_k_39, ka_k_40, ka_k_41, ka_k_42, ka_k_43, ka_k_44, ka_k_45, ka_k_46, ka_k_47, ka_k_48, ka_k_49, ka_k_50, ka_k_51, ka_k_52, ka_k_53, ka_k_54, ka_k_55, ka_k_56, ka_k_57, ka_k_58, ka_k_59, ka_k_60, ka_k_61, ka_k_62, ka_k_63, ka_k_64, ka_k_65, ka_k_66, ka_k_67, ka_k_68, ka_k_69, ka_k_70, ka_k_71, ka_k_72, ka_k_73, ka_k_74, ka_k_75, ka_k_76, ka_k_77, ka_k_78, ka_k_79, ka_k_80, ka_k_81, ka_k_82, ka_k_83, ka_k_84, ka_k_85, ka_k_86, ka_k_87, ka_k_88, ka_k_89, ka_k_90, ka_k_91, ka_k_92, ka_k_93, ka_k_94, ka_k_95, ka_k_96, ka_k_97, ka_k_98, ka_k_99, ka_k_100, ka_rf_0_0, ka_rf_0_1, ka_rf_0_2, ka_rf_0_4, ka_rf_0_5, ka_rf_0_6, ka_rf_0_7, ka_rf_0_8, ka_rf_0_9, ka_rf_61_0, ka_rf_61_2, ka_rf_67_0, ka_rf_67_1, ka_rf_67_2, ka_rf_75_0, ka_rf_87_0, ka_rf_87_1, ka_rf_87_2, ka_rf_87_4, ka_rf_87_11, ka_rf_87_12, ka_rf_87_14, ka_rf_87_15, ka_rf_87_16, ka_rf_87_19, ka_rf_87_20, ka_rf_87_21, ka_rf_87_22, ka_ln_63, ka_ln_64, ka_ln_65, ka_ln_68, ka_ln_69, ka_ln_70, ka_ln_76, ka_ln_77, ka_ln_78, ka_ln_80, ka_ln_82, ka_ln_84, ka_ln_86, ka_ln_88, ka_ln_89, ka_ln_90, ka_ln_91, ka_ln_92, ka_ln_93, ka_ln_94, ka_ln_95, ka_ln_96, ka_ln_97, ka_ln_98, ka_ln_99, ka_ln_100, sp_99_1, sp_99_2, sp_99_3, sp_99_4, sp_99_5, sp_116_1, sp_116_2, sp_116_3, sp_116_4, sp_116_5, sp_100, sp_106, sp_109, sp_110, sp_111, sp_112, sp_113, sp_117, sp_191, ka_i64, ka_b_0, ka_one0, and_self, ka_lit64_69, ka_lit64_5, ka_lit64_99, ka_lit64_8, ka_lit64_48, ka_lit64_57, ka_lit64_9, ka_lit64_6, ka_lit64_3, ka_lit64_60, ka_lit64_20, ka_lit64_12, ka_lit64_4, ka_lit64_400, ka_lit64_999, ka_lit64_m1, ka_lit64_1, ka_l0, ka_t_0, ka_t_1, ka_t_3, ka_t_4, ka_t_6, ka_t_7, ka_t_9, ka_t_5, ka_t_8, ka_t_60, ka_t_69, ka_t_99, ka_t_400, ka_t_999, ka_t_m1, sp_121' q9, y88, c1])
end
