/-! what is opened; a whole text is read -/
section
variable {sc : aS} {d : Nat} {k : Int32} {B : Nat → Int32} {n o : Nat}
theorem p134_0 : OP sc (d + 1) k B n 5 := by
  intro i C X h h8 hi hB
  obtain ⟨q1, q2, q3, q4, q5, q6, q7, q8, q9, q10, q11, q12, q13, q14⟩ := id h
  have h125 := @sp_125 sc d X k B n i 5 C h h8
  have e5 : (nI 5 = 5) = True := by decide
  refine ⟨kn_row X 87 (kn_up (X 87) 8 (nI i)), ?_, om_s (by decide) (by decide), Or.inl ⟨i, by rw [kn_row_at, kn_up_at], q10, q11, fun P T hP hcn => au_on hi ?_⟩⟩
  · simp only [x134_0, x134_1, x134_4, x134_5, x134_8, x134_9, x134_12, x134_13, x134_14, x134_15, x134_18, x134_19, x134_20, x134_23, x134_24, x134_25, x134_28, x134_29, x134_30, x134_33, x134_34, x134_36, x134_39, x134_40, x134_43, x134_44, x134_47, x134_50, x134_53, x134_54, x134_57, x134_58, x134_60, x134_63, x134_66, x134_67, x134_70, x134_71, x134_72, x134_75, x134_76, x134_77, x134_80, ka_kk_i, ka_kk_n, ka_cl_i, ka_cl_r, ka_cl_n, or_true, true_or, ka_ne2, ka_ne4, ka_ne5, ka_ne10, not_false_eq_true, not_true_eq_false, if_true, if_false, ka_k_0, ka_k_1, ka_k_2, ka_k_3, ka_k_4, ka_k_5, ka_k_6, ka_k_7, ka_k_8, ka_k_9, ka_k_10, ka_k_11, ka_k_12, ka_k_13, ka_k_14, ka_k_15, ka_k_16, ka_k_17, ka_k_18, ka_k_19, ka_k_20, ka_k_21, ka_k_22, ka_k_23, ka_k_24, ka_k_25, ka_k_26, ka_k_27, ka_k_28, ka_k_29, ka_k_30, ka_k_31, ka_k_32, ka_k_33, ka_k_34, ka_k_35, ka_k_36, ka_k_37, ka_k_38, ka_k_39, ka_k_40, ka_k_41, ka_k_42, ka_k_43, ka_k_44, ka_k_45, ka_k_46, ka_k_47, ka_k_48, ka_k_49, ka_k_50, ka_k_51, ka_k_52, ka_k_53, ka_k_54, ka_k_55, ka_k_56, ka_k_57, ka_k_58, ka_k_59, ka_k_60, ka_k_61, ka_k_62, ka_k_63, ka_k_64, ka_k_65, ka_k_66, ka_k_67, ka_k_68, ka_k_69, ka_k_70, ka_k_71, ka_k_72, ka_k_73, ka_k_74, ka_k_75, ka_k_76, ka_k_77, ka_k_78, ka_k_79, ka_k_80, ka_k_81, ka_k_82, ka_k_83, ka_k_84, ka_k_85, ka_k_86, ka_k_87, ka_k_88, ka_k_89, ka_k_90, ka_k_91, ka_k_92, ka_k_93, ka_k_94, ka_k_95, ka_k_96, ka_k_97, ka_k_98, ka_k_99, ka_k_100, ka_rf_0_0, ka_rf_0_1, ka_rf_0_2, ka_rf_0_4, ka_rf_0_5, ka_rf_0_6, ka_rf_0_7, ka_rf_0_8, ka_rf_0_9, ka_rf_61_0, ka_rf_61_2, ka_rf_67_0, ka_rf_67_1, ka_rf_67_2, ka_rf_75_0, ka_rf_87_0, ka_rf_87_1, ka_rf_87_2, ka_rf_87_4, ka_rf_87_11, ka_rf_87_12, ka_rf_87_14, ka_rf_87_15, ka_rf_87_16, ka_rf_87_19, ka_rf_87_20, ka_rf_87_21, ka_rf_87_22, ka_ln_63, ka_ln_64, ka_ln_65, ka_ln_68, ka_ln_69, ka_ln_70, ka_ln_76, ka_ln_77, ka_ln_78, ka_ln_80, ka_ln_82, ka_ln_84, ka_ln_86, ka_ln_88, ka_ln_89, ka_ln_90, ka_ln_91, ka_ln_92, ka_ln_93, ka_ln_94, ka_ln_95, ka_ln_96, ka_ln_97, ka_ln_98, ka_ln_99, ka_ln_100, q4, e5, h125]
  · unfold o1
    rw [if_pos hB, if_neg (by omega)]
theorem p134_s (ho : o < 5) (h1 : UP sc (d + 5) 135 7 k B n (o + 1) [.ref 87, ka_nv, ka_nv, ka_nv, ka_nv]) (h2 : UP sc (d + 5) 129 1 k B n (o + 1) [.ref 87]) : OP sc (d + 6) k B n o := by
  intro i C X h h8 hi hB
  obtain ⟨q1, q2, q3, q4, q5, q6, q7, q8, q9, q10, q11, q12, q13, q14⟩ := id h
  have e5 : (nI o = 5) = False := eq_false (by
    intro e
    have := congrArg Int32.toInt e
    rw [ka_nIt (by omega)] at this
    simp only [ka_t_0, ka_t_1, ka_t_2, ka_t_3, ka_t_4, ka_t_5, ka_t_6, ka_t_7, ka_t_8, ka_t_9, ka_t_10, ka_t_11, ka_t_12, ka_t_13, ka_t_14, ka_t_15, ka_t_16, ka_t_17, ka_t_18, ka_t_19, ka_t_20, ka_t_25, ka_t_26, ka_t_28, ka_t_30, ka_t_31, ka_t_32, ka_t_33, ka_t_37, ka_t_38, ka_t_39, ka_t_40, ka_t_41, ka_t_42, ka_t_43, ka_t_45, ka_t_47, ka_t_48, ka_t_50, ka_t_57, ka_t_60, ka_t_61, ka_t_62, ka_t_63, ka_t_64, ka_t_65, ka_t_69, ka_t_70, ka_t_71, ka_t_80, ka_t_85, ka_t_87, ka_t_98, ka_t_99, ka_t_100, ka_t_104, ka_t_107, ka_t_109, ka_t_110, ka_t_112, ka_t_115, ka_t_116, ka_t_117, ka_t_124, ka_t_125, ka_t_160, ka_t_200, ka_t_207, ka_t_255, ka_t_260, ka_t_400, ka_t_624, ka_t_625, ka_t_999, ka_t_9999, ka_t_10000, ka_t_20000, ka_t_20033, ka_t_999999, ka_t_1000000000, ka_t_m1, ka_t_m2, ka_t_m3, ka_t_m5, ka_t_m9, ka_t_m10, ka_t_m1000000000] at this
    omega)
  have es : nI i + 1 = nI (i + 1) := nI_s.symm
  have eo : nI o + 1 = nI (o + 1) := nI_s.symm
  have ep : nI (o + 1) - 1 = nI o := nI_p
  have e6 : ∀ v, kn_up (X 87) 9 v 6 = X 87 6 := fun v => kn_up_ne (by decide)
  have hA := ms_at (ms_op h (show o + 1 ≤ 5 by omega)) hi
  rw [kn_row_at, kn_row_row] at hA
  generalize hAA : kn_row X 87 (kn_up (kn_up (X 87) 9 (nI (o + 1))) 6 (nI (i + 1))) = A at hA
  have oA : om X A := ⟨fun p h1 _ => by rw [← hAA, kn_row_off h1], by rw [← hAA, kn_row_at, kn_up_ne (by decide), kn_up_ne (by decide)], by rw [← hAA, kn_row_at, kn_up_ne (by decide), kn_up_ne (by decide)]⟩
  have a8 : A 87 8 = -1 := by rw [← hAA, kn_row_at, kn_up_ne (by decide), kn_up_ne (by decide), h8]
  have step : ∀ (P T : List Int32), cnt P = o → au k B (n - i) i P T true 0 = au k B (n - (i + 1)) (i + 1) (B i :: P) T true 0 := by
    intro P T hcn
    refine au_o hi ?_
    unfold o1
    rw [if_pos hB, if_pos (by omega)]
  have hcn2 : ∀ P, cnt P = o → cnt (B i :: P) = o + 1 := by
    intro P hcn
    rw [cnt, if_pos hB, hcn, Nat.add_comm]
  -- one closed again
  have closed : ∀ (Z : ka_X) (f : Nat), om X Z → Z 87 8 = nI f → f ≤ n → (∀ P T, rhd P < 7 → cnt P = o → au k B (n - i) i P T true 0 = .inl f) → om X (kn_row Z 87 (kn_up (Z 87) 9 (Z 87 9 - 1))) ∧ fin k B n o 7 i C (kn_row Z 87 (kn_up (Z 87) 9 (Z 87 9 - 1))) := by
    intro Z f zo z8 hf hP
    exact ⟨om_t zo (om_s (by decide) (by decide)), Or.inl ⟨f, by rw [ms_up8 (by decide), z8], hf, q11, hP⟩⟩
  rcases hB with hB | hB
  · obtain ⟨Z1, z1, zo, zf⟩ := h1 (i + 1) C A hA a8
    have n33 : ((33 : Int32) = 33) = True := eq_self _
    rcases zf with ⟨f, f1, f2, f3, f4⟩ | ⟨j, Q, R, dl, D, g, g1, g2, g3⟩
    · have d0 := dead_0 f1 f2 f3
      obtain ⟨c1, c2⟩ := closed Z1 f (om_t oA zo) f1 f2 (fun P T hP hcn => by
        rw [step P T hcn]
        exact f4 _ _ (by show rk (B i) < 7; have := @rk_6 (B i); omega) (hcn2 P hcn))
      refine ⟨_, ?_, c1, c2⟩
      simp only [x134_0, x134_1, x134_4, x134_5, x134_8, x134_9, x134_12, x134_13, x134_14, x134_15, x134_18, x134_19, x134_20, x134_23, x134_24, x134_25, x134_28, x134_29, x134_30, x134_33, x134_34, x134_36, x134_39, x134_40, x134_43, x134_44, x134_47, x134_50, x134_53, x134_54, x134_57, x134_58, x134_60, x134_63, x134_66, x134_67, x134_70, x134_71, x134_72, x134_75, x134_76, x134_77, x134_80, ka_kk_i, ka_kk_n, ka_cl_i, ka_cl_r, ka_cl_n, or_true, true_or, ka_ne2, ka_ne4, ka_ne5, ka_ne10, not_false_eq_true, not_true_eq_false, if_true, if_false, ka_k_0, ka_k_1, ka_k_2, ka_k_3, ka_k_4, ka_k_5, ka_k_6, ka_k_7, ka_k_8, ka_k_9, ka_k_10, ka_k_11, ka_k_12, ka_k_13, ka_k_14, ka_k_15, ka_k_16, ka_k_17, ka_k_18, ka_k_19, ka_k_20, ka_k_21, ka_k_22, ka_k_23, ka_k_24, ka_k_25, ka_k_26, ka_k_27, ka_k_28, ka_k_29, ka_k_30, ka_k_31, ka_k_32, ka_k_33, ka_k_34, ka_k_35, ka_k_36, ka_k_37, ka_k_38, ka_k_39, ka_k_40, ka_k_41, ka_k_42, ka_k_43, ka_k_44, ka_k_45, ka_k_46, ka_k_47, ka_k_48, ka_k_49, ka_k_50, ka_k_51, ka_k_52, ka_k_53, ka_k_54, ka_k_55, ka_k_56, ka_k_57, ka_k_58, ka_k_59, ka_k_60, ka_k_61, ka_k_62, ka_k_63, ka_k_64, ka_k_65, ka_k_66, ka_k_67, ka_k_68, ka_k_69, ka_k_70, ka_k_71, ka_k_72, ka_k_73, ka_k_74, ka_k_75, ka_k_76, ka_k_77, ka_k_78, ka_k_79, ka_k_80, ka_k_81, ka_k_82, ka_k_83, ka_k_84, ka_k_85, ka_k_86, ka_k_87, ka_k_88, ka_k_89, ka_k_90, ka_k_91, ka_k_92, ka_k_93, ka_k_94, ka_k_95, ka_k_96, ka_k_97, ka_k_98, ka_k_99, ka_k_100, ka_rf_0_0, ka_rf_0_1, ka_rf_0_2, ka_rf_0_4, ka_rf_0_5, ka_rf_0_6, ka_rf_0_7, ka_rf_0_8, ka_rf_0_9, ka_rf_61_0, ka_rf_61_2, ka_rf_67_0, ka_rf_67_1, ka_rf_67_2, ka_rf_75_0, ka_rf_87_0, ka_rf_87_1, ka_rf_87_2, ka_rf_87_4, ka_rf_87_11, ka_rf_87_12, ka_rf_87_14, ka_rf_87_15, ka_rf_87_16, ka_rf_87_19, ka_rf_87_20, ka_rf_87_21, ka_rf_87_22, ka_ln_63, ka_ln_64, ka_ln_65, ka_ln_68, ka_ln_69, ka_ln_70, ka_ln_76, ka_ln_77, ka_ln_78, ka_ln_80, ka_ln_82, ka_ln_84, ka_ln_86, ka_ln_88, ka_ln_89, ka_ln_90, ka_ln_91, ka_ln_92, ka_ln_93, ka_ln_94, ka_ln_95, ka_ln_96, ka_ln_97, ka_ln_98, ka_ln_99, ka_ln_100, q4, e5, q2, es, eo, e6, kn_put_r, kn_row_at, kn_row_row, hAA, hB, z1, @sp_128d sc (d + 5) Z1 _ d0]
    · obtain ⟨a1, a2, a3, a4, a5, a6, a7⟩ := g
      obtain ⟨Z2, w1, w2, w3, w4⟩ := @sp_128 sc (d + 5) Z1 k B n j (o + 1) (D ++ C) 20033 g1 g2 (by rw [List.length_append]; omega)
      have w9 := w3.2.2.2.1
      refine ⟨kn_row Z2 87 (kn_up (Z2 87) 9 (nI o)), ?_, om_t oA (om_t zo (om_t w2 (om_s (by decide) (by decide)))), Or.inr ⟨j, Q ++ [33], R, dl, 20033 :: D, ⟨?_, ?_, ?_, ?_, by omega, a6, by rw [List.length_cons]; omega⟩, ms_op w3 (by omega), by rw [ms_up8 (by decide), w4], ?_⟩⟩
      · simp only [x134_0, x134_1, x134_4, x134_5, x134_8, x134_9, x134_12, x134_13, x134_14, x134_15, x134_18, x134_19, x134_20, x134_23, x134_24, x134_25, x134_28, x134_29, x134_30, x134_33, x134_34, x134_36, x134_39, x134_40, x134_43, x134_44, x134_47, x134_50, x134_53, x134_54, x134_57, x134_58, x134_60, x134_63, x134_66, x134_67, x134_70, x134_71, x134_72, x134_75, x134_76, x134_77, x134_80, ka_kk_i, ka_kk_n, ka_cl_i, ka_cl_r, ka_cl_n, or_true, true_or, ka_ne2, ka_ne4, ka_ne5, ka_ne10, not_false_eq_true, not_true_eq_false, if_true, if_false, ka_k_0, ka_k_1, ka_k_2, ka_k_3, ka_k_4, ka_k_5, ka_k_6, ka_k_7, ka_k_8, ka_k_9, ka_k_10, ka_k_11, ka_k_12, ka_k_13, ka_k_14, ka_k_15, ka_k_16, ka_k_17, ka_k_18, ka_k_19, ka_k_20, ka_k_21, ka_k_22, ka_k_23, ka_k_24, ka_k_25, ka_k_26, ka_k_27, ka_k_28, ka_k_29, ka_k_30, ka_k_31, ka_k_32, ka_k_33, ka_k_34, ka_k_35, ka_k_36, ka_k_37, ka_k_38, ka_k_39, ka_k_40, ka_k_41, ka_k_42, ka_k_43, ka_k_44, ka_k_45, ka_k_46, ka_k_47, ka_k_48, ka_k_49, ka_k_50, ka_k_51, ka_k_52, ka_k_53, ka_k_54, ka_k_55, ka_k_56, ka_k_57, ka_k_58, ka_k_59, ka_k_60, ka_k_61, ka_k_62, ka_k_63, ka_k_64, ka_k_65, ka_k_66, ka_k_67, ka_k_68, ka_k_69, ka_k_70, ka_k_71, ka_k_72, ka_k_73, ka_k_74, ka_k_75, ka_k_76, ka_k_77, ka_k_78, ka_k_79, ka_k_80, ka_k_81, ka_k_82, ka_k_83, ka_k_84, ka_k_85, ka_k_86, ka_k_87, ka_k_88, ka_k_89, ka_k_90, ka_k_91, ka_k_92, ka_k_93, ka_k_94, ka_k_95, ka_k_96, ka_k_97, ka_k_98, ka_k_99, ka_k_100, ka_rf_0_0, ka_rf_0_1, ka_rf_0_2, ka_rf_0_4, ka_rf_0_5, ka_rf_0_6, ka_rf_0_7, ka_rf_0_8, ka_rf_0_9, ka_rf_61_0, ka_rf_61_2, ka_rf_67_0, ka_rf_67_1, ka_rf_67_2, ka_rf_75_0, ka_rf_87_0, ka_rf_87_1, ka_rf_87_2, ka_rf_87_4, ka_rf_87_11, ka_rf_87_12, ka_rf_87_14, ka_rf_87_15, ka_rf_87_16, ka_rf_87_19, ka_rf_87_20, ka_rf_87_21, ka_rf_87_22, ka_ln_63, ka_ln_64, ka_ln_65, ka_ln_68, ka_ln_69, ka_ln_70, ka_ln_76, ka_ln_77, ka_ln_78, ka_ln_80, ka_ln_82, ka_ln_84, ka_ln_86, ka_ln_88, ka_ln_89, ka_ln_90, ka_ln_91, ka_ln_92, ka_ln_93, ka_ln_94, ka_ln_95, ka_ln_96, ka_ln_97, ka_ln_98, ka_ln_99, ka_ln_100, q4, e5, q2, es, eo, e6, kn_put_r, kn_row_at, kn_row_row, hAA, hB, z1, w1, w9, ep]
      · intro c hc
        rcases List.mem_append.mp hc with e | e
        · exact a1 c e
        · rw [List.mem_singleton.mp e]; exact Or.inr (by decide)
      · intro P T hP hcn
        rw [step P T hcn, a2 _ _ (by show rk (B i) < 7; have := @rk_6 (B i); omega) (hcn2 P hcn), hB, List.append_assoc]
        rfl
      · rw [List.map_cons, a3, pd_snoc]
        rfl
      · intro t
        exact ⟨t + 1, a4 t, Or.inr (Or.inl ⟨rfl, by omega, rfl⟩)⟩
      · rcases g3 with e | e | e | e
        · exact Or.inl e
        · exact Or.inr (Or.inl e)
        · exact Or.inr (Or.inr (Or.inl e))
        · refine Or.inr (Or.inr (Or.inr fun P T hP hcn => ?_))
          have := e (33 :: P) T (by show rk 33 < 7; decide) (by rw [← hB]; exact hcn2 P hcn)
          rw [List.append_assoc]
          exact this
  · obtain ⟨Z1, z1, zo, zf⟩ := h2 (i + 1) C A hA a8
    have n33 : ((40 : Int32) = 33) = False := by decide
    have hr0 : ∀ P, rhd (B i :: P) < 1 := fun P => by rw [hB]; show rk 40 < 1; decide
    rcases zf with ⟨f, f1, f2, f3, f4⟩ | ⟨j, Q, R, dl, D, g, g1, g2, g3⟩
    · have d0 := dead_0 f1 f2 f3
      obtain ⟨c1, c2⟩ := closed Z1 f (om_t oA zo) f1 f2 (fun P T hP hcn => by
        rw [step P T hcn]
        exact f4 _ _ (hr0 P) (hcn2 P hcn))
      refine ⟨_, ?_, c1, c2⟩
      simp only [x134_0, x134_1, x134_4, x134_5, x134_8, x134_9, x134_12, x134_13, x134_14, x134_15, x134_18, x134_19, x134_20, x134_23, x134_24, x134_25, x134_28, x134_29, x134_30, x134_33, x134_34, x134_36, x134_39, x134_40, x134_43, x134_44, x134_47, x134_50, x134_53, x134_54, x134_57, x134_58, x134_60, x134_63, x134_66, x134_67, x134_70, x134_71, x134_72, x134_75, x134_76, x134_77, x134_80, ka_kk_i, ka_kk_n, ka_cl_i, ka_cl_r, ka_cl_n, or_true, true_or, ka_ne2, ka_ne4, ka_ne5, ka_ne10, not_false_eq_true, not_true_eq_false, if_true, if_false, ka_k_0, ka_k_1, ka_k_2, ka_k_3, ka_k_4, ka_k_5, ka_k_6, ka_k_7, ka_k_8, ka_k_9, ka_k_10, ka_k_11, ka_k_12, ka_k_13, ka_k_14, ka_k_15, ka_k_16, ka_k_17, ka_k_18, ka_k_19, ka_k_20, ka_k_21, ka_k_22, ka_k_23, ka_k_24, ka_k_25, ka_k_26, ka_k_27, ka_k_28, ka_k_29, ka_k_30, ka_k_31, ka_k_32, ka_k_33, ka_k_34, ka_k_35, ka_k_36, ka_k_37, ka_k_38, ka_k_39, ka_k_40, ka_k_41, ka_k_42, ka_k_43, ka_k_44, ka_k_45, ka_k_46, ka_k_47, ka_k_48, ka_k_49, ka_k_50, ka_k_51, ka_k_52, ka_k_53, ka_k_54, ka_k_55, ka_k_56, ka_k_57, ka_k_58, ka_k_59, ka_k_60, ka_k_61, ka_k_62, ka_k_63, ka_k_64, ka_k_65, ka_k_66, ka_k_67, ka_k_68, ka_k_69, ka_k_70, ka_k_71, ka_k_72, ka_k_73, ka_k_74, ka_k_75, ka_k_76, ka_k_77, ka_k_78, ka_k_79, ka_k_80, ka_k_81, ka_k_82, ka_k_83, ka_k_84, ka_k_85, ka_k_86, ka_k_87, ka_k_88, ka_k_89, ka_k_90, ka_k_91, ka_k_92, ka_k_93, ka_k_94, ka_k_95, ka_k_96, ka_k_97, ka_k_98, ka_k_99, ka_k_100, ka_rf_0_0, ka_rf_0_1, ka_rf_0_2, ka_rf_0_4, ka_rf_0_5, ka_rf_0_6, ka_rf_0_7, ka_rf_0_8, ka_rf_0_9, ka_rf_61_0, ka_rf_61_2, ka_rf_67_0, ka_rf_67_1, ka_rf_67_2, ka_rf_75_0, ka_rf_87_0, ka_rf_87_1, ka_rf_87_2, ka_rf_87_4, ka_rf_87_11, ka_rf_87_12, ka_rf_87_14, ka_rf_87_15, ka_rf_87_16, ka_rf_87_19, ka_rf_87_20, ka_rf_87_21, ka_rf_87_22, ka_ln_63, ka_ln_64, ka_ln_65, ka_ln_68, ka_ln_69, ka_ln_70, ka_ln_76, ka_ln_77, ka_ln_78, ka_ln_80, ka_ln_82, ka_ln_84, ka_ln_86, ka_ln_88, ka_ln_89, ka_ln_90, ka_ln_91, ka_ln_92, ka_ln_93, ka_ln_94, ka_ln_95, ka_ln_96, ka_ln_97, ka_ln_98, ka_ln_99, ka_ln_100, q4, e5, q2, es, eo, e6, kn_put_r, kn_row_at, kn_row_row, hAA, hB, n33, z1, @sp_126d sc (d + 4) Z1 41 d0 (by decide), @sp_125d sc (d + 5) Z1 d0]
    · obtain ⟨a1, a2, a3, a4, a5, a6, a7⟩ := g
      have hQ1 : ∀ c, c ∈ Q → 1 ≤ rk c := fun c hc => by rcases a1 c hc with e | e <;> omega
      have z9 := g1.2.2.2.1
      have z6 := g1.2.1
      have h126 := @sp_126 sc (d + 4) Z1 k B n j (o + 1) (D ++ C) 41 g1 g2
      by_cases c41 : j < n ∧ B j = 41
      · obtain ⟨hj, c41⟩ := c41
        have hvv : hv B n j = B j := if_pos hj
        have ej : nI j + 1 = nI (j + 1) := nI_s.symm
        have hM := ms_op (ms_at g1 hj) (show o ≤ 5 by omega)
        rw [kn_row_at, kn_row_row] at hM
        have e9 : ∀ v, kn_up (Z1 87) 6 v 9 = Z1 87 9 := fun v => kn_up_ne (by decide)
        refine ⟨kn_row Z1 87 (kn_up (kn_up (Z1 87) 6 (nI (j + 1))) 9 (nI o)), ?_, om_t oA (om_t zo ⟨fun p h1 _ => kn_row_off h1, by rw [kn_row_at, kn_up_ne (by decide), kn_up_ne (by decide)], by rw [kn_row_at, kn_up_ne (by decide), kn_up_ne (by decide)]⟩), Or.inr ⟨j + 1, [], pd Q R, 0, D, ⟨fun c hc => absurd hc List.not_mem_nil, ?_, a3, a4, by omega, by omega, by omega⟩, hM, by rw [kn_row_at, kn_up_ne (by decide), kn_up_ne (by decide), g2], sto_any (by omega) (fun _ _ => rfl)⟩⟩
        · simp only [x134_0, x134_1, x134_4, x134_5, x134_8, x134_9, x134_12, x134_13, x134_14, x134_15, x134_18, x134_19, x134_20, x134_23, x134_24, x134_25, x134_28, x134_29, x134_30, x134_33, x134_34, x134_36, x134_39, x134_40, x134_43, x134_44, x134_47, x134_50, x134_53, x134_54, x134_57, x134_58, x134_60, x134_63, x134_66, x134_67, x134_70, x134_71, x134_72, x134_75, x134_76, x134_77, x134_80, ka_kk_i, ka_kk_n, ka_cl_i, ka_cl_r, ka_cl_n, or_true, true_or, ka_ne2, ka_ne4, ka_ne5, ka_ne10, not_false_eq_true, not_true_eq_false, if_true, if_false, ka_k_0, ka_k_1, ka_k_2, ka_k_3, ka_k_4, ka_k_5, ka_k_6, ka_k_7, ka_k_8, ka_k_9, ka_k_10, ka_k_11, ka_k_12, ka_k_13, ka_k_14, ka_k_15, ka_k_16, ka_k_17, ka_k_18, ka_k_19, ka_k_20, ka_k_21, ka_k_22, ka_k_23, ka_k_24, ka_k_25, ka_k_26, ka_k_27, ka_k_28, ka_k_29, ka_k_30, ka_k_31, ka_k_32, ka_k_33, ka_k_34, ka_k_35, ka_k_36, ka_k_37, ka_k_38, ka_k_39, ka_k_40, ka_k_41, ka_k_42, ka_k_43, ka_k_44, ka_k_45, ka_k_46, ka_k_47, ka_k_48, ka_k_49, ka_k_50, ka_k_51, ka_k_52, ka_k_53, ka_k_54, ka_k_55, ka_k_56, ka_k_57, ka_k_58, ka_k_59, ka_k_60, ka_k_61, ka_k_62, ka_k_63, ka_k_64, ka_k_65, ka_k_66, ka_k_67, ka_k_68, ka_k_69, ka_k_70, ka_k_71, ka_k_72, ka_k_73, ka_k_74, ka_k_75, ka_k_76, ka_k_77, ka_k_78, ka_k_79, ka_k_80, ka_k_81, ka_k_82, ka_k_83, ka_k_84, ka_k_85, ka_k_86, ka_k_87, ka_k_88, ka_k_89, ka_k_90, ka_k_91, ka_k_92, ka_k_93, ka_k_94, ka_k_95, ka_k_96, ka_k_97, ka_k_98, ka_k_99, ka_k_100, ka_rf_0_0, ka_rf_0_1, ka_rf_0_2, ka_rf_0_4, ka_rf_0_5, ka_rf_0_6, ka_rf_0_7, ka_rf_0_8, ka_rf_0_9, ka_rf_61_0, ka_rf_61_2, ka_rf_67_0, ka_rf_67_1, ka_rf_67_2, ka_rf_75_0, ka_rf_87_0, ka_rf_87_1, ka_rf_87_2, ka_rf_87_4, ka_rf_87_11, ka_rf_87_12, ka_rf_87_14, ka_rf_87_15, ka_rf_87_16, ka_rf_87_19, ka_rf_87_20, ka_rf_87_21, ka_rf_87_22, ka_ln_63, ka_ln_64, ka_ln_65, ka_ln_68, ka_ln_69, ka_ln_70, ka_ln_76, ka_ln_77, ka_ln_78, ka_ln_80, ka_ln_82, ka_ln_84, ka_ln_86, ka_ln_88, ka_ln_89, ka_ln_90, ka_ln_91, ka_ln_92, ka_ln_93, ka_ln_94, ka_ln_95, ka_ln_96, ka_ln_97, ka_ln_98, ka_ln_99, ka_ln_100, q4, e5, q2, es, eo, e6, kn_put_r, kn_row_at, kn_row_row, hAA, hB, n33, z1, h126, hvv, c41, ka_one0, e9, z9, ep]
        · intro P T hP hcn
          rw [step P T hcn, a2 _ _ (hr0 P) (hcn2 P hcn)]
          refine au_b hj ?_
          have hs : rsl 1 (Q ++ (B i :: P)) (R ++ T) = (B i :: P, pd Q R ++ T) := by rw [sl_pd hQ1 (hr0 P), pd_app]
          unfold b1
          rw [c41, if_neg (by decide), if_pos rfl, hs]
          rfl
      · have hne : (hv B n j = 41) = False := by
          apply eq_false
          intro e
          by_cases w : j < n
          · rw [hv, if_pos w] at e; exact c41 ⟨w, e⟩
          · rw [hv, if_neg w] at e; exact absurd e (by decide)
        have h125 := @sp_125 sc (d + 5) Z1 k B n j (o + 1) (D ++ C) g1 g2
        generalize hE : kn_row Z1 87 (kn_up (Z1 87) 8 (nI j)) = E at h125
        have oE : om Z1 E := by rw [← hE]; exact om_s (by decide) (by decide)
        have s8 : E 87 8 = nI j := by rw [← hE, kn_row_at, kn_up_at]
        obtain ⟨c1, c2⟩ := closed E j (om_t oA (om_t zo oE)) s8 a6 (fun P T hP hcn => by
          rw [step P T hcn, a2 _ _ (hr0 P) (hcn2 P hcn)]
          by_cases w : j = n
          · subst w
            rw [au_end, sl_pd hQ1 (hr0 P), if_pos (Or.inr (List.cons_ne_nil _ _))]
          · rcases g3 with e | e | e | e
            · exact absurd e w
            · exact absurd ⟨by omega, e⟩ c41
            · omega
            · exact e _ _ (hr0 P) (hcn2 P hcn))
        refine ⟨_, ?_, c1, c2⟩
        simp only [x134_0, x134_1, x134_4, x134_5, x134_8, x134_9, x134_12, x134_13, x134_14, x134_15, x134_18, x134_19, x134_20, x134_23, x134_24, x134_25, x134_28, x134_29, x134_30, x134_33, x134_34, x134_36, x134_39, x134_40, x134_43, x134_44, x134_47, x134_50, x134_53, x134_54, x134_57, x134_58, x134_60, x134_63, x134_66, x134_67, x134_70, x134_71, x134_72, x134_75, x134_76, x134_77, x134_80, ka_kk_i, ka_kk_n, ka_cl_i, ka_cl_r, ka_cl_n, or_true, true_or, ka_ne2, ka_ne4, ka_ne5, ka_ne10, not_false_eq_true, not_true_eq_false, if_true, if_false, ka_k_0, ka_k_1, ka_k_2, ka_k_3, ka_k_4, ka_k_5, ka_k_6, ka_k_7, ka_k_8, ka_k_9, ka_k_10, ka_k_11, ka_k_12, ka_k_13, ka_k_14, ka_k_15, ka_k_16, ka_k_17, ka_k_18, ka_k_19, ka_k_20, ka_k_21, ka_k_22, ka_k_23, ka_k_24, ka_k_25, ka_k_26, ka_k_27, ka_k_28, ka_k_29, ka_k_30, ka_k_31, ka_k_32, ka_k_33, ka_k_34, ka_k_35, ka_k_36, ka_k_37, ka_k_38, ka_k_39, ka_k_40, ka_k_41, ka_k_42, ka_k_43, ka_k_44, ka_k_45, ka_k_46, ka_k_47, ka_k_48, ka_k_49, ka_k_50, ka_k_51, ka_k_52, ka_k_53, ka_k_54, ka_k_55, ka_k_56, ka_k_57, ka_k_58, ka_k_59, ka_k_60, ka_k_61, ka_k_62, ka_k_63, ka_k_64, ka_k_65, ka_k_66, ka_k_67, ka_k_68, ka_k_69, ka_k_70, ka_k_71, ka_k_72, ka_k_73, ka_k_74, ka_k_75, ka_k_76, ka_k_77, ka_k_78, ka_k_79, ka_k_80, ka_k_81, ka_k_82, ka_k_83, ka_k_84, ka_k_85, ka_k_86, ka_k_87, ka_k_88, ka_k_89, ka_k_90, ka_k_91, ka_k_92, ka_k_93, ka_k_94, ka_k_95, ka_k_96, ka_k_97, ka_k_98, ka_k_99, ka_k_100, ka_rf_0_0, ka_rf_0_1, ka_rf_0_2, ka_rf_0_4, ka_rf_0_5, ka_rf_0_6, ka_rf_0_7, ka_rf_0_8, ka_rf_0_9, ka_rf_61_0, ka_rf_61_2, ka_rf_67_0, ka_rf_67_1, ka_rf_67_2, ka_rf_75_0, ka_rf_87_0, ka_rf_87_1, ka_rf_87_2, ka_rf_87_4, ka_rf_87_11, ka_rf_87_12, ka_rf_87_14, ka_rf_87_15, ka_rf_87_16, ka_rf_87_19, ka_rf_87_20, ka_rf_87_21, ka_rf_87_22, ka_ln_63, ka_ln_64, ka_ln_65, ka_ln_68, ka_ln_69, ka_ln_70, ka_ln_76, ka_ln_77, ka_ln_78, ka_ln_80, ka_ln_82, ka_ln_84, ka_ln_86, ka_ln_88, ka_ln_89, ka_ln_90, ka_ln_91, ka_ln_92, ka_ln_93, ka_ln_94, ka_ln_95, ka_ln_96, ka_ln_97, ka_ln_98, ka_ln_99, ka_ln_100, q4, e5, q2, es, eo, e6, kn_put_r, kn_row_at, kn_row_row, hAA, hB, n33, z1, h126, hne, h125]
theorem p135 : ∀ (e o d : Nat), o + e = 5 → UP sc (d + 7 * e + 2) 135 7 k B n o [.ref 87, ka_nv, ka_nv, ka_nv, ka_nv] := by
  intro e
  induction e with
  | zero =>
    intro o d ho
    obtain rfl : o = 5 := by omega
    exact p135_of p134_0
  | succ e ih =>
    intro o d ho
    have u0 := ih (o + 1) d (by omega)
    have u5 := ih (o + 1) (d + 5) (by omega)
    have l1 := p129 (p130 (p131 (p132 (p133 (d := d + 7 * e + 2) u0))))
    have u5' : UP sc (d + 7 * e + 2 + 5) 135 7 k B n (o + 1) [.ref 87, ka_nv, ka_nv, ka_nv, ka_nv] := by
      rw [show d + 7 * e + 2 + 5 = d + 5 + 7 * e + 2 by omega]
      exact u5
    have r := p135_of (p134_s (d := d + 7 * e + 2) (by omega) u5' l1)
    rw [show d + 7 * (e + 1) + 2 = d + 7 * e + 2 + 5 + 2 by omega]
    exact r
theorem p129_0 : UP sc (d + 42) 129 1 k B n 0 [.ref 87] := p129 (p130 (p131 (p132 (p133 (d := d + 7 * 5 + 2) (p135 5 0 d rfl)))))
/-- what the text comes to -/
theorem sp_136 {X : ka_X} (hk : k = 0 ∨ k = 1) (hn : n ≤ 50) (hB : ∀ j, j < n → 0 ≤ (B j).toInt ∧ (B j).toInt ≤ 255) (hX : ∀ j, j < n → X 88 (207 + j) = B j) : ∃ Y, ka_ex sc (d + 43) 136 0 [.ref 87, .int 207, .int (nI n), .int k] [] (ka_mem X) = some (none, ka_mem Y) ∧ om X Y ∧ ((∃ f : Nat, au k B n 0 [] [] true 0 = .inl f ∧ Y 87 8 = nI f ∧ f ≤ 50) ∨ ∃ T D, au k B n 0 [] [] true 0 = .inr T ∧ Y 87 8 = -1 ∧ Y 87 13 = nI D.length ∧ lk (Y 93) D ∧ D.map mw_cd = T ∧ (∀ t, ev D t (t + 1)) ∧ D.length ≤ 50 ∧ 1 ≤ n) := by
  generalize hAA : kn_row X 87 (kn_up (kn_up (kn_up (kn_up (kn_up (kn_up (kn_up (X 87) 5 207) 6 0) 7 (nI n)) 8 (-1)) 9 0) 13 0) 10 k) = A
  have hA : ms A k B n 0 [] 0 := by
    unfold ms
    rw [← hAA, kn_row_at, kn_row_off (by decide), kn_row_off (by decide)]
    simp only [kn_up_at, kn_up_ne, Nat.reduceEqDiff, reduceCtorEq, not_false_eq_true]
    exact ⟨trivial, rfl, trivial, rfl, trivial, rfl, trivial, hX, Nat.le_refl _, Nat.zero_le _, hn, by decide, hk, hB⟩
  have a8 : A 87 8 = -1 := by
    rw [← hAA, kn_row_at]
    simp only [kn_up_at, kn_up_ne, Nat.reduceEqDiff, reduceCtorEq, not_false_eq_true]
  have oA : om X A := by
    refine ⟨fun p h1 _ => by rw [← hAA, kn_row_off h1], ?_, ?_⟩
    · rw [← hAA, kn_row_at]
      simp only [kn_up_at, kn_up_ne, Nat.reduceEqDiff, reduceCtorEq, not_false_eq_true]
    · rw [← hAA, kn_row_at]
      simp only [kn_up_at, kn_up_ne, Nat.reduceEqDiff, reduceCtorEq, not_false_eq_true]
  obtain ⟨Y, y1, y2, y3⟩ := @p129_0 sc d k B n 0 [] A hA a8
  have hkk : (if k = 1 then (1 : Int32) else 0) = k := by rcases hk with rfl | rfl <;> rfl
  have hmem : ka_ex sc (d + 43) 136 0 [.ref 87, .int 207, .int (nI n), .int k] [] (ka_mem X) = ka_kk (ka_ex sc (d + 42) 129 0 [.ref 87] [] (ka_mem A)) sc (d + 43) 136 48 [.ref 87, .int 207, .int (nI n), .int k] [] := by
    rcases hk with e | e
    · subst e
      simp only [x136_0, x136_1, x136_2, x136_5, x136_6, x136_7, x136_10, x136_11, x136_12, x136_15, x136_16, x136_17, x136_20, x136_21, x136_22, x136_25, x136_26, x136_27, x136_30, x136_31, x136_32, x136_33, x136_36, x136_37, x136_40, x136_41, x136_44, x136_45, or_true, true_or, not_false_eq_true, if_true, if_false, ka_k_0, ka_k_1, ka_k_2, ka_k_3, ka_k_4, ka_k_5, ka_k_6, ka_k_7, ka_k_8, ka_k_9, ka_k_10, ka_k_11, ka_k_12, ka_k_13, ka_k_14, ka_k_15, ka_k_16, ka_k_17, ka_k_18, ka_k_19, ka_k_20, ka_k_21, ka_k_22, ka_k_23, ka_k_24, ka_k_25, ka_k_26, ka_k_27, ka_k_28, ka_k_29, ka_k_30, ka_k_31, ka_k_32, ka_k_33, ka_k_34, ka_k_35, ka_k_36, ka_k_37, ka_k_38, ka_k_39, ka_k_40, ka_k_41, ka_k_42, ka_k_43, ka_k_44, ka_k_45, ka_k_46, ka_k_47, ka_k_48, ka_k_49, ka_k_50, ka_k_51, ka_k_52, ka_k_53, ka_k_54, ka_k_55, ka_k_56, ka_k_57, ka_k_58, ka_k_59, ka_k_60, ka_k_61, ka_k_62, ka_k_63, ka_k_64, ka_k_65, ka_k_66, ka_k_67, ka_k_68, ka_k_69, ka_k_70, ka_k_71, ka_k_72, ka_k_73, ka_k_74, ka_k_75, ka_k_76, ka_k_77, ka_k_78, ka_k_79, ka_k_80, ka_k_81, ka_k_82, ka_k_83, ka_k_84, ka_k_85, ka_k_86, ka_k_87, ka_k_88, ka_k_89, ka_k_90, ka_k_91, ka_k_92, ka_k_93, ka_k_94, ka_k_95, ka_k_96, ka_k_97, ka_k_98, ka_k_99, ka_k_100, show ((0 : Int32) = 1) = False by decide, kn_put_r, kn_row_at, kn_row_row, hAA]
    · subst e
      simp only [x136_0, x136_1, x136_2, x136_5, x136_6, x136_7, x136_10, x136_11, x136_12, x136_15, x136_16, x136_17, x136_20, x136_21, x136_22, x136_25, x136_26, x136_27, x136_30, x136_31, x136_32, x136_33, x136_36, x136_37, x136_40, x136_41, x136_44, x136_45, or_true, true_or, not_false_eq_true, if_true, if_false, ka_k_0, ka_k_1, ka_k_2, ka_k_3, ka_k_4, ka_k_5, ka_k_6, ka_k_7, ka_k_8, ka_k_9, ka_k_10, ka_k_11, ka_k_12, ka_k_13, ka_k_14, ka_k_15, ka_k_16, ka_k_17, ka_k_18, ka_k_19, ka_k_20, ka_k_21, ka_k_22, ka_k_23, ka_k_24, ka_k_25, ka_k_26, ka_k_27, ka_k_28, ka_k_29, ka_k_30, ka_k_31, ka_k_32, ka_k_33, ka_k_34, ka_k_35, ka_k_36, ka_k_37, ka_k_38, ka_k_39, ka_k_40, ka_k_41, ka_k_42, ka_k_43, ka_k_44, ka_k_45, ka_k_46, ka_k_47, ka_k_48, ka_k_49, ka_k_50, ka_k_51, ka_k_52, ka_k_53, ka_k_54, ka_k_55, ka_k_56, ka_k_57, ka_k_58, ka_k_59, ka_k_60, ka_k_61, ka_k_62, ka_k_63, ka_k_64, ka_k_65, ka_k_66, ka_k_67, ka_k_68, ka_k_69, ka_k_70, ka_k_71, ka_k_72, ka_k_73, ka_k_74, ka_k_75, ka_k_76, ka_k_77, ka_k_78, ka_k_79, ka_k_80, ka_k_81, ka_k_82, ka_k_83, ka_k_84, ka_k_85, ka_k_86, ka_k_87, ka_k_88, ka_k_89, ka_k_90, ka_k_91, ka_k_92, ka_k_93, ka_k_94, ka_k_95, ka_k_96, ka_k_97, ka_k_98, ka_k_99, ka_k_100, kn_put_r, kn_row_at, kn_row_row, hAA]
  rw [hmem, y1]
  have m0 : (-1 : Int32) < 0 := by decide
  rcases y3 with ⟨f, f1, f2, f3, f4⟩ | ⟨j, Q, R, dl, D, g, g1, g2, g3⟩
  · have d0 := dead_0 f1 f2 f3
    have a0 : ¬ Y 87 8 < 0 := by rw [ka_ilt]; simp only [ka_t_0, ka_t_1, ka_t_2, ka_t_3, ka_t_4, ka_t_5, ka_t_6, ka_t_7, ka_t_8, ka_t_9, ka_t_10, ka_t_11, ka_t_12, ka_t_13, ka_t_14, ka_t_15, ka_t_16, ka_t_17, ka_t_18, ka_t_19, ka_t_20, ka_t_25, ka_t_26, ka_t_28, ka_t_30, ka_t_31, ka_t_32, ka_t_33, ka_t_37, ka_t_38, ka_t_39, ka_t_40, ka_t_41, ka_t_42, ka_t_43, ka_t_45, ka_t_47, ka_t_48, ka_t_50, ka_t_57, ka_t_60, ka_t_61, ka_t_62, ka_t_63, ka_t_64, ka_t_65, ka_t_69, ka_t_70, ka_t_71, ka_t_80, ka_t_85, ka_t_87, ka_t_98, ka_t_99, ka_t_100, ka_t_104, ka_t_107, ka_t_109, ka_t_110, ka_t_112, ka_t_115, ka_t_116, ka_t_117, ka_t_124, ka_t_125, ka_t_160, ka_t_200, ka_t_207, ka_t_255, ka_t_260, ka_t_400, ka_t_624, ka_t_625, ka_t_999, ka_t_9999, ka_t_10000, ka_t_20000, ka_t_20033, ka_t_999999, ka_t_1000000000, ka_t_m1, ka_t_m2, ka_t_m3, ka_t_m5, ka_t_m9, ka_t_m10, ka_t_m1000000000]; omega
    refine ⟨Y, ?_, om_t oA y2, Or.inl ⟨f, f4 [] [] (by decide) rfl, f1, by omega⟩⟩
    simp only [x136_0, x136_1, x136_2, x136_5, x136_6, x136_7, x136_10, x136_11, x136_12, x136_15, x136_16, x136_17, x136_20, x136_21, x136_22, x136_25, x136_26, x136_27, x136_30, x136_31, x136_32, x136_33, x136_36, x136_37, x136_40, x136_41, x136_44, x136_45, x136_48, x136_49, x136_52, x136_55, x136_56, x136_59, x136_60, x136_63, x136_66, x136_67, x136_70, ka_kk_i, ka_kk_n, ka_cl_i, ka_cl_r, ka_cl_n, or_true, true_or, ka_ne2, ka_ne4, ka_ne5, ka_ne10, not_false_eq_true, not_true_eq_false, if_true, if_false, ka_k_0, ka_k_1, ka_k_2, ka_k_3, ka_k_4, ka_k_5, ka_k_6, ka_k_7, ka_k_8, ka_k_9, ka_k_10, ka_k_11, ka_k_12, ka_k_13, ka_k_14, ka_k_15, ka_k_16, ka_k_17, ka_k_18, ka_k_19, ka_k_20, ka_k_21, ka_k_22, ka_k_23, ka_k_24, ka_k_25, ka_k_26, ka_k_27, ka_k_28, ka_k_29, ka_k_30, ka_k_31, ka_k_32, ka_k_33, ka_k_34, ka_k_35, ka_k_36, ka_k_37, ka_k_38, ka_k_39, ka_k_40, ka_k_41, ka_k_42, ka_k_43, ka_k_44, ka_k_45, ka_k_46, ka_k_47, ka_k_48, ka_k_49, ka_k_50, ka_k_51, ka_k_52, ka_k_53, ka_k_54, ka_k_55, ka_k_56, ka_k_57, ka_k_58, ka_k_59, ka_k_60, ka_k_61, ka_k_62, ka_k_63, ka_k_64, ka_k_65, ka_k_66, ka_k_67, ka_k_68, ka_k_69, ka_k_70, ka_k_71, ka_k_72, ka_k_73, ka_k_74, ka_k_75, ka_k_76, ka_k_77, ka_k_78, ka_k_79, ka_k_80, ka_k_81, ka_k_82, ka_k_83, ka_k_84, ka_k_85, ka_k_86, ka_k_87, ka_k_88, ka_k_89, ka_k_90, ka_k_91, ka_k_92, ka_k_93, ka_k_94, ka_k_95, ka_k_96, ka_k_97, ka_k_98, ka_k_99, ka_k_100, a0]
  · obtain ⟨b1', b2, b3, b4, b5, b6, b7⟩ := g
    have hQ1 : ∀ c, c ∈ Q → 1 ≤ rk c := fun c hc => by rcases b1' c hc with e | e <;> omega
    have z6 := g1.2.1
    have z7 := g1.2.2.1
    have hz := b2 [] [] (by decide) rfl
    rw [List.append_nil, List.append_nil] at hz
    have hs : rsl 1 Q R = ([], pd Q R) := by
      have := sl_pd (a := 1) (P := []) (R := R) hQ1 (by decide)
      rw [List.append_nil] at this
      exact this
    rw [Nat.sub_zero] at hz
    by_cases w : j = n
    · subst w
      rw [au_end, hs, if_neg (by rintro (e | e); cases e; exact e rfl)] at hz
      have h1 : ¬ nI j < nI j := by rw [ka_ilt]; omega
      rw [List.append_nil] at g1
      refine ⟨Y, ?_, om_t oA y2, Or.inr ⟨pd Q R, D, hz, g2, g1.2.2.2.2.2.1, g1.2.2.2.2.2.2.1, b3, b4, by omega, by omega⟩⟩
      simp only [x136_0, x136_1, x136_2, x136_5, x136_6, x136_7, x136_10, x136_11, x136_12, x136_15, x136_16, x136_17, x136_20, x136_21, x136_22, x136_25, x136_26, x136_27, x136_30, x136_31, x136_32, x136_33, x136_36, x136_37, x136_40, x136_41, x136_44, x136_45, x136_48, x136_49, x136_52, x136_55, x136_56, x136_59, x136_60, x136_63, x136_66, x136_67, x136_70, ka_kk_i, ka_kk_n, ka_cl_i, ka_cl_r, ka_cl_n, or_true, true_or, ka_ne2, ka_ne4, ka_ne5, ka_ne10, not_false_eq_true, not_true_eq_false, if_true, if_false, ka_k_0, ka_k_1, ka_k_2, ka_k_3, ka_k_4, ka_k_5, ka_k_6, ka_k_7, ka_k_8, ka_k_9, ka_k_10, ka_k_11, ka_k_12, ka_k_13, ka_k_14, ka_k_15, ka_k_16, ka_k_17, ka_k_18, ka_k_19, ka_k_20, ka_k_21, ka_k_22, ka_k_23, ka_k_24, ka_k_25, ka_k_26, ka_k_27, ka_k_28, ka_k_29, ka_k_30, ka_k_31, ka_k_32, ka_k_33, ka_k_34, ka_k_35, ka_k_36, ka_k_37, ka_k_38, ka_k_39, ka_k_40, ka_k_41, ka_k_42, ka_k_43, ka_k_44, ka_k_45, ka_k_46, ka_k_47, ka_k_48, ka_k_49, ka_k_50, ka_k_51, ka_k_52, ka_k_53, ka_k_54, ka_k_55, ka_k_56, ka_k_57, ka_k_58, ka_k_59, ka_k_60, ka_k_61, ka_k_62, ka_k_63, ka_k_64, ka_k_65, ka_k_66, ka_k_67, ka_k_68, ka_k_69, ka_k_70, ka_k_71, ka_k_72, ka_k_73, ka_k_74, ka_k_75, ka_k_76, ka_k_77, ka_k_78, ka_k_79, ka_k_80, ka_k_81, ka_k_82, ka_k_83, ka_k_84, ka_k_85, ka_k_86, ka_k_87, ka_k_88, ka_k_89, ka_k_90, ka_k_91, ka_k_92, ka_k_93, ka_k_94, ka_k_95, ka_k_96, ka_k_97, ka_k_98, ka_k_99, ka_k_100, g2, m0, z6, z7, h1]
    · have hj : j < n := by omega
      have h1 : nI j < nI n := by rw [ka_ilt, ka_nIt (by omega), ka_nIt (by omega)]; omega
      have h125 := @sp_125 sc (d + 42) Y k B n j 0 (D ++ []) g1 g2
      have hf : au k B (n - j) j Q R false dl = .inl j := by
        rcases g3 with e | e | e | e
        · exact absurd e w
        · refine au_bn hj ?_
          unfold b1
          rw [e, if_neg (by decide), if_pos rfl, hs]
        · omega
        · have := e [] [] (by decide) rfl
          rw [List.append_nil, List.append_nil] at this
          exact this
      rw [hf] at hz
      refine ⟨kn_row Y 87 (kn_up (Y 87) 8 (nI j)), ?_, om_t oA (om_t y2 (om_s (by decide) (by decide))), Or.inl ⟨j, hz, by rw [kn_row_at, kn_up_at], by omega⟩⟩
      simp only [x136_0, x136_1, x136_2, x136_5, x136_6, x136_7, x136_10, x136_11, x136_12, x136_15, x136_16, x136_17, x136_20, x136_21, x136_22, x136_25, x136_26, x136_27, x136_30, x136_31, x136_32, x136_33, x136_36, x136_37, x136_40, x136_41, x136_44, x136_45, x136_48, x136_49, x136_52, x136_55, x136_56, x136_59, x136_60, x136_63, x136_66, x136_67, x136_70, ka_kk_i, ka_kk_n, ka_cl_i, ka_cl_r, ka_cl_n, or_true, true_or, ka_ne2, ka_ne4, ka_ne5, ka_ne10, not_false_eq_true, not_true_eq_false, if_true, if_false, ka_k_0, ka_k_1, ka_k_2, ka_k_3, ka_k_4, ka_k_5, ka_k_6, ka_k_7, ka_k_8, ka_k_9, ka_k_10, ka_k_11, ka_k_12, ka_k_13, ka_k_14, ka_k_15, ka_k_16, ka_k_17, ka_k_18, ka_k_19, ka_k_20, ka_k_21, ka_k_22, ka_k_23, ka_k_24, ka_k_25, ka_k_26, ka_k_27, ka_k_28, ka_k_29, ka_k_30, ka_k_31, ka_k_32, ka_k_33, ka_k_34, ka_k_35, ka_k_36, ka_k_37, ka_k_38, ka_k_39, ka_k_40, ka_k_41, ka_k_42, ka_k_43, ka_k_44, ka_k_45, ka_k_46, ka_k_47, ka_k_48, ka_k_49, ka_k_50, ka_k_51, ka_k_52, ka_k_53, ka_k_54, ka_k_55, ka_k_56, ka_k_57, ka_k_58, ka_k_59, ka_k_60, ka_k_61, ka_k_62, ka_k_63, ka_k_64, ka_k_65, ka_k_66, ka_k_67, ka_k_68, ka_k_69, ka_k_70, ka_k_71, ka_k_72, ka_k_73, ka_k_74, ka_k_75, ka_k_76, ka_k_77, ka_k_78, ka_k_79, ka_k_80, ka_k_81, ka_k_82, ka_k_83, ka_k_84, ka_k_85, ka_k_86, ka_k_87, ka_k_88, ka_k_89, ka_k_90, ka_k_91, ka_k_92, ka_k_93, ka_k_94, ka_k_95, ka_k_96, ka_k_97, ka_k_98, ka_k_99, ka_k_100, g2, m0, z6, z7, h1, h125]
end
