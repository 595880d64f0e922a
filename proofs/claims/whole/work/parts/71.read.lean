/-! the reader reads -/
def rvl : Nat ⊕ List Int32 → Int32
  | .inl f => nI f
  | .inr _ => -1
section
variable {sc : aS} {d : Nat} {X : ka_X} {s : Int32}
theorem sp_12l {k : Int32} {B : Nat → Int32} {q n nn : Nat} (hk : k = 0 ∧ s = 1007 ∨ k = 1 ∧ s = 1008) (hn : n ≤ 50) (hB : ∀ j, j < n → 0 ≤ (B j).toInt ∧ (B j).toInt ≤ 255) (hq : ka_k q = 50) (hql : ka_ln q = 50) (hqo : ¬ q = 61 ∧ ¬ q = 62 ∧ ¬ q = 63 ∧ ¬ q = 65) : ∀ (m i : Nat) (P T : List Int32) (w : Bool) (dl : Nat) (X : ka_X) (a5 : Value), cs X s P T w dl → P.length + T.length ≤ i → dl < 10 → i + m = n → (∀ j, j < n → X q j = B j) → ∃ Y, ka_ex sc (d + 6) 12 35 [.ref 61, .ref q, .int (nI n), .ref nn, .int (nI i), a5] [] (ka_mem X) = some (some (.int (rvl (au k B m i P T w dl))), ka_mem Y) ∧ of X Y ∧ ∀ T', au k B m i P T w dl = .inr T' → Y 62 1 = nI T'.length ∧ lk (Y 63) T' ∧ T'.length ≤ 50 := by
  intro m
  induction m with
  | zero =>
    intro i P T w dl X a5 h hl hdl hi hX
    obtain rfl : i = n := by omega
    have h1 : ¬ nI i < nI i := by rw [ka_ilt]; omega
    obtain ⟨Y, hY, hy, yo⟩ := @sp_17 sc (d + 3) s w dl 1 (by decide) P T X ka_nv h (by omega)
    have hY' : ka_ex sc (d + 5) 17 0 [.ref 61, .int 1, ka_nv] [] (ka_mem X) = some (none, ka_mem Y) := hY
    have hlen := @sl_len 1 P T
    unfold au
    generalize (rsl 1 P T).1 = P2 at *
    generalize (rsl 1 P T).2 = T2 at *
    obtain ⟨q1, q2, q3, q4, q5, q6, q7, q8, q9, q10⟩ := hy
    cases w with
    | true =>
      have h5 : Y 61 5 = 1 := q4
      refine ⟨Y, ?_, yo, ?_⟩
      · rw [x12_35]
        simp only [x12_0, x12_1, x12_4, x12_7, x12_8, x12_9, x12_12, x12_13, x12_14, x12_17, x12_18, x12_19, x12_22, x12_23, x12_24, x12_27, x12_28, x12_29, x12_32, x12_33, x12_37, x12_38, x12_41, x12_43, x12_45, x12_48, x12_49, x12_52, x12_55, x12_56, x12_57, x12_59, x12_60, x12_63, x12_66, x12_67, x12_68, x12_70, x12_71, x12_74, x12_76, x12_78, x12_81, x12_83, x12_84, x12_87, x12_90, x12_91, x12_92, x12_95, x12_96, x12_99, x12_102, x12_103, x12_106, x12_109, x12_110, x12_113, x12_114, x12_44 (Or.inl hq), hq, ka_kk_i, ka_kk_n, ka_cl_i, ka_cl_r, ka_cl_n, or_true, true_or, ka_ne2, ka_ne4, ka_ne5, ka_ne10, not_false_eq_true, not_true_eq_false, if_true, if_false, ka_k_0, ka_k_1, ka_k_2, ka_k_3, ka_k_4, ka_k_5, ka_k_6, ka_k_7, ka_k_8, ka_k_9, ka_k_10, ka_k_11, ka_k_12, ka_k_13, ka_k_14, ka_k_15, ka_k_16, ka_k_17, ka_k_18, ka_k_19, ka_k_20, ka_k_21, ka_k_22, ka_k_23, ka_k_24, ka_k_25, ka_k_26, ka_k_27, ka_k_28, ka_k_29, ka_k_30, ka_k_31, ka_k_32, ka_k_33, ka_k_34, ka_k_35, ka_k_36, ka_k_37, ka_k_38, ka_k_39, ka_k_40, ka_k_41, ka_k_42, ka_k_43, ka_k_44, ka_k_45, ka_k_46, ka_k_47, ka_k_48, ka_k_49, ka_k_50, ka_k_51, ka_k_52, ka_k_53, ka_k_54, ka_k_55, ka_k_56, ka_k_57, ka_k_58, ka_k_59, ka_k_60, ka_k_61, ka_k_62, ka_k_63, ka_k_64, ka_k_65, ka_k_66, ka_k_67, ka_k_68, ka_k_69, ka_k_70, ka_k_71, ka_k_72, ka_k_73, ka_k_74, ka_k_75, ka_k_76, ka_k_77, ka_k_78, ka_k_79, ka_k_80, ka_k_81, ka_k_82, ka_k_83, ka_k_84, ka_k_85, ka_k_86, ka_k_87, ka_k_88, ka_k_89, ka_k_90, ka_k_91, ka_k_92, ka_k_93, ka_k_94, ka_k_95, ka_k_96, ka_k_97, ka_k_98, ka_k_99, ka_k_100, h1, hY', h5, ka_one0, rvl]
      · intro T' e
        rw [if_pos (Or.inl rfl)] at e
        cases e
    | false =>
      have h5 : Y 61 5 = 0 := q4
      cases P2 with
      | nil =>
        have h3 : ¬ 0 < Y 61 3 := by rw [q2]; decide
        refine ⟨Y, ?_, yo, ?_⟩
        · rw [x12_35]
          simp only [x12_0, x12_1, x12_4, x12_7, x12_8, x12_9, x12_12, x12_13, x12_14, x12_17, x12_18, x12_19, x12_22, x12_23, x12_24, x12_27, x12_28, x12_29, x12_32, x12_33, x12_37, x12_38, x12_41, x12_43, x12_45, x12_48, x12_49, x12_52, x12_55, x12_56, x12_57, x12_59, x12_60, x12_63, x12_66, x12_67, x12_68, x12_70, x12_71, x12_74, x12_76, x12_78, x12_81, x12_83, x12_84, x12_87, x12_90, x12_91, x12_92, x12_95, x12_96, x12_99, x12_102, x12_103, x12_106, x12_109, x12_110, x12_113, x12_114, x12_44 (Or.inl hq), hq, ka_kk_i, ka_kk_n, ka_cl_i, ka_cl_r, ka_cl_n, or_true, true_or, ka_ne2, ka_ne4, ka_ne5, ka_ne10, not_false_eq_true, not_true_eq_false, if_true, if_false, ka_k_0, ka_k_1, ka_k_2, ka_k_3, ka_k_4, ka_k_5, ka_k_6, ka_k_7, ka_k_8, ka_k_9, ka_k_10, ka_k_11, ka_k_12, ka_k_13, ka_k_14, ka_k_15, ka_k_16, ka_k_17, ka_k_18, ka_k_19, ka_k_20, ka_k_21, ka_k_22, ka_k_23, ka_k_24, ka_k_25, ka_k_26, ka_k_27, ka_k_28, ka_k_29, ka_k_30, ka_k_31, ka_k_32, ka_k_33, ka_k_34, ka_k_35, ka_k_36, ka_k_37, ka_k_38, ka_k_39, ka_k_40, ka_k_41, ka_k_42, ka_k_43, ka_k_44, ka_k_45, ka_k_46, ka_k_47, ka_k_48, ka_k_49, ka_k_50, ka_k_51, ka_k_52, ka_k_53, ka_k_54, ka_k_55, ka_k_56, ka_k_57, ka_k_58, ka_k_59, ka_k_60, ka_k_61, ka_k_62, ka_k_63, ka_k_64, ka_k_65, ka_k_66, ka_k_67, ka_k_68, ka_k_69, ka_k_70, ka_k_71, ka_k_72, ka_k_73, ka_k_74, ka_k_75, ka_k_76, ka_k_77, ka_k_78, ka_k_79, ka_k_80, ka_k_81, ka_k_82, ka_k_83, ka_k_84, ka_k_85, ka_k_86, ka_k_87, ka_k_88, ka_k_89, ka_k_90, ka_k_91, ka_k_92, ka_k_93, ka_k_94, ka_k_95, ka_k_96, ka_k_97, ka_k_98, ka_k_99, ka_k_100, h1, hY', h5, h3, rvl, not_true_eq_false, or_self, Bool.false_eq_true]
        · intro T' e
          rw [if_neg (by rintro (e | e); cases e; exact e rfl)] at e
          cases e
          exact ⟨q6, q8, by rw [List.length_nil] at hlen; omega⟩
      | cons c P2 =>
        have h3 : 0 < Y 61 3 := by
          have : (c :: P2).length = P2.length + 1 := List.length_cons
          rw [q2, ka_ilt, ka_nIt (by omega)]; simp only [ka_t_0, ka_t_1, ka_t_2, ka_t_3, ka_t_4, ka_t_5, ka_t_6, ka_t_7, ka_t_8, ka_t_9, ka_t_10, ka_t_11, ka_t_12, ka_t_13, ka_t_14, ka_t_15, ka_t_16, ka_t_17, ka_t_18, ka_t_19, ka_t_20, ka_t_25, ka_t_26, ka_t_28, ka_t_30, ka_t_31, ka_t_32, ka_t_33, ka_t_37, ka_t_38, ka_t_39, ka_t_40, ka_t_41, ka_t_42, ka_t_43, ka_t_45, ka_t_47, ka_t_48, ka_t_50, ka_t_57, ka_t_60, ka_t_61, ka_t_62, ka_t_63, ka_t_64, ka_t_65, ka_t_69, ka_t_70, ka_t_71, ka_t_80, ka_t_85, ka_t_87, ka_t_98, ka_t_99, ka_t_100, ka_t_104, ka_t_107, ka_t_109, ka_t_110, ka_t_112, ka_t_115, ka_t_116, ka_t_117, ka_t_124, ka_t_125, ka_t_160, ka_t_200, ka_t_207, ka_t_255, ka_t_260, ka_t_400, ka_t_624, ka_t_625, ka_t_999, ka_t_9999, ka_t_10000, ka_t_20000, ka_t_20033, ka_t_999999, ka_t_1000000000, ka_t_m1, ka_t_m2, ka_t_m3, ka_t_m5, ka_t_m9, ka_t_m10, ka_t_m1000000000]; omega
        refine ⟨Y, ?_, yo, ?_⟩
        · rw [x12_35]
          simp only [x12_0, x12_1, x12_4, x12_7, x12_8, x12_9, x12_12, x12_13, x12_14, x12_17, x12_18, x12_19, x12_22, x12_23, x12_24, x12_27, x12_28, x12_29, x12_32, x12_33, x12_37, x12_38, x12_41, x12_43, x12_45, x12_48, x12_49, x12_52, x12_55, x12_56, x12_57, x12_59, x12_60, x12_63, x12_66, x12_67, x12_68, x12_70, x12_71, x12_74, x12_76, x12_78, x12_81, x12_83, x12_84, x12_87, x12_90, x12_91, x12_92, x12_95, x12_96, x12_99, x12_102, x12_103, x12_106, x12_109, x12_110, x12_113, x12_114, x12_44 (Or.inl hq), hq, ka_kk_i, ka_kk_n, ka_cl_i, ka_cl_r, ka_cl_n, or_true, true_or, ka_ne2, ka_ne4, ka_ne5, ka_ne10, not_false_eq_true, not_true_eq_false, if_true, if_false, ka_k_0, ka_k_1, ka_k_2, ka_k_3, ka_k_4, ka_k_5, ka_k_6, ka_k_7, ka_k_8, ka_k_9, ka_k_10, ka_k_11, ka_k_12, ka_k_13, ka_k_14, ka_k_15, ka_k_16, ka_k_17, ka_k_18, ka_k_19, ka_k_20, ka_k_21, ka_k_22, ka_k_23, ka_k_24, ka_k_25, ka_k_26, ka_k_27, ka_k_28, ka_k_29, ka_k_30, ka_k_31, ka_k_32, ka_k_33, ka_k_34, ka_k_35, ka_k_36, ka_k_37, ka_k_38, ka_k_39, ka_k_40, ka_k_41, ka_k_42, ka_k_43, ka_k_44, ka_k_45, ka_k_46, ka_k_47, ka_k_48, ka_k_49, ka_k_50, ka_k_51, ka_k_52, ka_k_53, ka_k_54, ka_k_55, ka_k_56, ka_k_57, ka_k_58, ka_k_59, ka_k_60, ka_k_61, ka_k_62, ka_k_63, ka_k_64, ka_k_65, ka_k_66, ka_k_67, ka_k_68, ka_k_69, ka_k_70, ka_k_71, ka_k_72, ka_k_73, ka_k_74, ka_k_75, ka_k_76, ka_k_77, ka_k_78, ka_k_79, ka_k_80, ka_k_81, ka_k_82, ka_k_83, ka_k_84, ka_k_85, ka_k_86, ka_k_87, ka_k_88, ka_k_89, ka_k_90, ka_k_91, ka_k_92, ka_k_93, ka_k_94, ka_k_95, ka_k_96, ka_k_97, ka_k_98, ka_k_99, ka_k_100, h1, hY', h5, h3, rvl, reduceCtorEq]
        · intro T' e
          rw [if_pos (Or.inr (List.cons_ne_nil _ _))] at e
          cases e
  | succ m ih =>
    intro i P T w dl X a5 h hl hdl hi hX
    have h1 : nI i < nI n := by rw [ka_ilt, ka_nIt (by omega), ka_nIt (by omega)]; omega
    have h2 : nI i < nI 50 := by rw [ka_ilt, ka_nIt (by omega), ka_nIt (by omega)]; omega
    obtain ⟨hin, hc⟩ := ka_ixs (a := nI i) (n := i) (m := 50) (ka_nIt (by omega)) (by omega)
    have hXi := hX i (by omega)
    have hBi := hB i (by omega)
    have h5 : X 61 5 = (if w = true then 1 else 0) := h.2.2.2.1
    have es : nI i + 1 = nI (i + 1) := nI_s.symm
    have next : ∀ (Y : ka_X) (P' T' : List Int32) (w' : Bool) (dl' : Nat), of X Y → cs Y s P' T' w' dl' → P'.length + T'.length ≤ P.length + T.length + 1 → dl' < 10 → ∃ Z, ka_ex sc (d + 6) 12 35 [.ref 61, .ref q, .int (nI n), .ref nn, .int (nI (i + 1)), .int 1] [] (ka_mem Y) = some (some (.int (rvl (au k B m (i + 1) P' T' w' dl'))), ka_mem Z) ∧ of X Z ∧ ∀ T'', au k B m (i + 1) P' T' w' dl' = .inr T'' → Z 62 1 = nI T''.length ∧ lk (Z 63) T'' ∧ T''.length ≤ 50 := by
      intro Y P' T' w' dl' yo yc yl yd
      obtain ⟨Z, z1, z2, z3⟩ := ih (i + 1) P' T' w' dl' Y (.int 1) yc (by omega) yd (by omega) (fun j hj => by rw [yo q hqo.1 hqo.2.1 hqo.2.2.1 hqo.2.2.2]; exact hX j hj)
      exact ⟨Z, z1, of_t yo z2, z3⟩
    unfold au
    cases w with
    | true =>
      have h5' : X 61 5 = 1 := h5
      rw [if_pos rfl]
      obtain ⟨Y, yo, hY⟩ := @sp_13 sc d X s P T dl k (B i) hk hBi h (by omega) cnt_le
      rcases hY with ⟨y1, y2⟩ | ⟨P', T', w', dl', y1, y2, y3, y4⟩
      · rw [y1]
        refine ⟨Y, ?_, yo, fun T' e => by cases e⟩
        rw [x12_35]
        simp only [x12_0, x12_1, x12_4, x12_7, x12_8, x12_9, x12_12, x12_13, x12_14, x12_17, x12_18, x12_19, x12_22, x12_23, x12_24, x12_27, x12_28, x12_29, x12_32, x12_33, x12_37, x12_38, x12_41, x12_43, x12_45, x12_48, x12_49, x12_52, x12_55, x12_56, x12_57, x12_59, x12_60, x12_63, x12_66, x12_67, x12_68, x12_70, x12_71, x12_74, x12_76, x12_78, x12_81, x12_83, x12_84, x12_87, x12_90, x12_91, x12_92, x12_95, x12_96, x12_99, x12_102, x12_103, x12_106, x12_109, x12_110, x12_113, x12_114, x12_44 (Or.inl hq), hq, ka_kk_i, ka_kk_n, ka_cl_i, ka_cl_r, ka_cl_n, or_true, true_or, ka_ne2, ka_ne4, ka_ne5, ka_ne10, not_false_eq_true, not_true_eq_false, if_true, if_false, ka_k_0, ka_k_1, ka_k_2, ka_k_3, ka_k_4, ka_k_5, ka_k_6, ka_k_7, ka_k_8, ka_k_9, ka_k_10, ka_k_11, ka_k_12, ka_k_13, ka_k_14, ka_k_15, ka_k_16, ka_k_17, ka_k_18, ka_k_19, ka_k_20, ka_k_21, ka_k_22, ka_k_23, ka_k_24, ka_k_25, ka_k_26, ka_k_27, ka_k_28, ka_k_29, ka_k_30, ka_k_31, ka_k_32, ka_k_33, ka_k_34, ka_k_35, ka_k_36, ka_k_37, ka_k_38, ka_k_39, ka_k_40, ka_k_41, ka_k_42, ka_k_43, ka_k_44, ka_k_45, ka_k_46, ka_k_47, ka_k_48, ka_k_49, ka_k_50, ka_k_51, ka_k_52, ka_k_53, ka_k_54, ka_k_55, ka_k_56, ka_k_57, ka_k_58, ka_k_59, ka_k_60, ka_k_61, ka_k_62, ka_k_63, ka_k_64, ka_k_65, ka_k_66, ka_k_67, ka_k_68, ka_k_69, ka_k_70, ka_k_71, ka_k_72, ka_k_73, ka_k_74, ka_k_75, ka_k_76, ka_k_77, ka_k_78, ka_k_79, ka_k_80, ka_k_81, ka_k_82, ka_k_83, ka_k_84, ka_k_85, ka_k_86, ka_k_87, ka_k_88, ka_k_89, ka_k_90, ka_k_91, ka_k_92, ka_k_93, ka_k_94, ka_k_95, ka_k_96, ka_k_97, ka_k_98, ka_k_99, ka_k_100, h1, h2, hql, h5', ka_one0, hin, hc, hXi, y2, rvl]
      · rw [y1]
        have yd : dl' < 10 := by
          unfold o1 at y1
          (repeat' split at y1) <;> cases y1 <;> omega
        obtain ⟨Z, z1, z2, z3⟩ := next Y P' T' w' dl' yo y3 y4 yd
        refine ⟨Z, ?_, z2, z3⟩
        rw [x12_35]
        simp only [x12_0, x12_1, x12_4, x12_7, x12_8, x12_9, x12_12, x12_13, x12_14, x12_17, x12_18, x12_19, x12_22, x12_23, x12_24, x12_27, x12_28, x12_29, x12_32, x12_33, x12_37, x12_38, x12_41, x12_43, x12_45, x12_48, x12_49, x12_52, x12_55, x12_56, x12_57, x12_59, x12_60, x12_63, x12_66, x12_67, x12_68, x12_70, x12_71, x12_74, x12_76, x12_78, x12_81, x12_83, x12_84, x12_87, x12_90, x12_91, x12_92, x12_95, x12_96, x12_99, x12_102, x12_103, x12_106, x12_109, x12_110, x12_113, x12_114, x12_44 (Or.inl hq), hq, ka_kk_i, ka_kk_n, ka_cl_i, ka_cl_r, ka_cl_n, or_true, true_or, ka_ne2, ka_ne4, ka_ne5, ka_ne10, not_false_eq_true, not_true_eq_false, if_true, if_false, ka_k_0, ka_k_1, ka_k_2, ka_k_3, ka_k_4, ka_k_5, ka_k_6, ka_k_7, ka_k_8, ka_k_9, ka_k_10, ka_k_11, ka_k_12, ka_k_13, ka_k_14, ka_k_15, ka_k_16, ka_k_17, ka_k_18, ka_k_19, ka_k_20, ka_k_21, ka_k_22, ka_k_23, ka_k_24, ka_k_25, ka_k_26, ka_k_27, ka_k_28, ka_k_29, ka_k_30, ka_k_31, ka_k_32, ka_k_33, ka_k_34, ka_k_35, ka_k_36, ka_k_37, ka_k_38, ka_k_39, ka_k_40, ka_k_41, ka_k_42, ka_k_43, ka_k_44, ka_k_45, ka_k_46, ka_k_47, ka_k_48, ka_k_49, ka_k_50, ka_k_51, ka_k_52, ka_k_53, ka_k_54, ka_k_55, ka_k_56, ka_k_57, ka_k_58, ka_k_59, ka_k_60, ka_k_61, ka_k_62, ka_k_63, ka_k_64, ka_k_65, ka_k_66, ka_k_67, ka_k_68, ka_k_69, ka_k_70, ka_k_71, ka_k_72, ka_k_73, ka_k_74, ka_k_75, ka_k_76, ka_k_77, ka_k_78, ka_k_79, ka_k_80, ka_k_81, ka_k_82, ka_k_83, ka_k_84, ka_k_85, ka_k_86, ka_k_87, ka_k_88, ka_k_89, ka_k_90, ka_k_91, ka_k_92, ka_k_93, ka_k_94, ka_k_95, ka_k_96, ka_k_97, ka_k_98, ka_k_99, ka_k_100, h1, h2, hql, h5', ka_one0, hin, hc, hXi, y2, es, z1]
    | false =>
      have h5' : X 61 5 = 0 := h5
      rw [if_neg Bool.false_ne_true]
      obtain ⟨Y, yo, hY⟩ := @sp_14 sc (d + 1) X s P T dl (B i) h (by omega) hdl
      rcases hY with ⟨y1, y2⟩ | ⟨P', T', w', dl', y1, y2, y3, y4, y5⟩
      · rw [y1]
        refine ⟨Y, ?_, yo, fun T' e => by cases e⟩
        rw [x12_35]
        simp only [x12_0, x12_1, x12_4, x12_7, x12_8, x12_9, x12_12, x12_13, x12_14, x12_17, x12_18, x12_19, x12_22, x12_23, x12_24, x12_27, x12_28, x12_29, x12_32, x12_33, x12_37, x12_38, x12_41, x12_43, x12_45, x12_48, x12_49, x12_52, x12_55, x12_56, x12_57, x12_59, x12_60, x12_63, x12_66, x12_67, x12_68, x12_70, x12_71, x12_74, x12_76, x12_78, x12_81, x12_83, x12_84, x12_87, x12_90, x12_91, x12_92, x12_95, x12_96, x12_99, x12_102, x12_103, x12_106, x12_109, x12_110, x12_113, x12_114, x12_44 (Or.inl hq), hq, ka_kk_i, ka_kk_n, ka_cl_i, ka_cl_r, ka_cl_n, or_true, true_or, ka_ne2, ka_ne4, ka_ne5, ka_ne10, not_false_eq_true, not_true_eq_false, if_true, if_false, ka_k_0, ka_k_1, ka_k_2, ka_k_3, ka_k_4, ka_k_5, ka_k_6, ka_k_7, ka_k_8, ka_k_9, ka_k_10, ka_k_11, ka_k_12, ka_k_13, ka_k_14, ka_k_15, ka_k_16, ka_k_17, ka_k_18, ka_k_19, ka_k_20, ka_k_21, ka_k_22, ka_k_23, ka_k_24, ka_k_25, ka_k_26, ka_k_27, ka_k_28, ka_k_29, ka_k_30, ka_k_31, ka_k_32, ka_k_33, ka_k_34, ka_k_35, ka_k_36, ka_k_37, ka_k_38, ka_k_39, ka_k_40, ka_k_41, ka_k_42, ka_k_43, ka_k_44, ka_k_45, ka_k_46, ka_k_47, ka_k_48, ka_k_49, ka_k_50, ka_k_51, ka_k_52, ka_k_53, ka_k_54, ka_k_55, ka_k_56, ka_k_57, ka_k_58, ka_k_59, ka_k_60, ka_k_61, ka_k_62, ka_k_63, ka_k_64, ka_k_65, ka_k_66, ka_k_67, ka_k_68, ka_k_69, ka_k_70, ka_k_71, ka_k_72, ka_k_73, ka_k_74, ka_k_75, ka_k_76, ka_k_77, ka_k_78, ka_k_79, ka_k_80, ka_k_81, ka_k_82, ka_k_83, ka_k_84, ka_k_85, ka_k_86, ka_k_87, ka_k_88, ka_k_89, ka_k_90, ka_k_91, ka_k_92, ka_k_93, ka_k_94, ka_k_95, ka_k_96, ka_k_97, ka_k_98, ka_k_99, ka_k_100, h1, h2, hql, h5', ka_one0, hin, hc, hXi, y2, rvl]
      · rw [y1]
        obtain ⟨Z, z1, z2, z3⟩ := next Y P' T' w' dl' yo y3 y4 (by omega)
        refine ⟨Z, ?_, z2, z3⟩
        rw [x12_35]
        simp only [x12_0, x12_1, x12_4, x12_7, x12_8, x12_9, x12_12, x12_13, x12_14, x12_17, x12_18, x12_19, x12_22, x12_23, x12_24, x12_27, x12_28, x12_29, x12_32, x12_33, x12_37, x12_38, x12_41, x12_43, x12_45, x12_48, x12_49, x12_52, x12_55, x12_56, x12_57, x12_59, x12_60, x12_63, x12_66, x12_67, x12_68, x12_70, x12_71, x12_74, x12_76, x12_78, x12_81, x12_83, x12_84, x12_87, x12_90, x12_91, x12_92, x12_95, x12_96, x12_99, x12_102, x12_103, x12_106, x12_109, x12_110, x12_113, x12_114, x12_44 (Or.inl hq), hq, ka_kk_i, ka_kk_n, ka_cl_i, ka_cl_r, ka_cl_n, or_true, true_or, ka_ne2, ka_ne4, ka_ne5, ka_ne10, not_false_eq_true, not_true_eq_false, if_true, if_false, ka_k_0, ka_k_1, ka_k_2, ka_k_3, ka_k_4, ka_k_5, ka_k_6, ka_k_7, ka_k_8, ka_k_9, ka_k_10, ka_k_11, ka_k_12, ka_k_13, ka_k_14, ka_k_15, ka_k_16, ka_k_17, ka_k_18, ka_k_19, ka_k_20, ka_k_21, ka_k_22, ka_k_23, ka_k_24, ka_k_25, ka_k_26, ka_k_27, ka_k_28, ka_k_29, ka_k_30, ka_k_31, ka_k_32, ka_k_33, ka_k_34, ka_k_35, ka_k_36, ka_k_37, ka_k_38, ka_k_39, ka_k_40, ka_k_41, ka_k_42, ka_k_43, ka_k_44, ka_k_45, ka_k_46, ka_k_47, ka_k_48, ka_k_49, ka_k_50, ka_k_51, ka_k_52, ka_k_53, ka_k_54, ka_k_55, ka_k_56, ka_k_57, ka_k_58, ka_k_59, ka_k_60, ka_k_61, ka_k_62, ka_k_63, ka_k_64, ka_k_65, ka_k_66, ka_k_67, ka_k_68, ka_k_69, ka_k_70, ka_k_71, ka_k_72, ka_k_73, ka_k_74, ka_k_75, ka_k_76, ka_k_77, ka_k_78, ka_k_79, ka_k_80, ka_k_81, ka_k_82, ka_k_83, ka_k_84, ka_k_85, ka_k_86, ka_k_87, ka_k_88, ka_k_89, ka_k_90, ka_k_91, ka_k_92, ka_k_93, ka_k_94, ka_k_95, ka_k_96, ka_k_97, ka_k_98, ka_k_99, ka_k_100, h1, h2, hql, h5', ka_one0, hin, hc, hXi, y2, es, z1]
theorem sp_12 {k : Int32} {B : Nat → Int32} {q n nn : Nat} (hnn : nn = 1007 ∨ nn = 1008) (hk : k = 0 ∧ nn = 1007 ∨ k = 1 ∧ nn = 1008) (hn : n ≤ 50) (hB : ∀ j, j < n → 0 ≤ (B j).toInt ∧ (B j).toInt ≤ 255) (hq : ka_k q = 50) (hql : ka_ln q = 50) (hqo : ¬ q = 61 ∧ ¬ q = 62 ∧ ¬ q = 63 ∧ ¬ q = 65) (hX : ∀ j, j < n → X q j = B j) : ∃ Y, ka_ex sc (d + 6) 12 0 [.ref 61, .ref q, .int (nI n), .ref nn, ka_nv, ka_nv] [] (ka_mem X) = some (some (.int (rvl (au k B n 0 [] [] true 0))), ka_mem Y) ∧ of X Y ∧ ∀ T', au k B n 0 [] [] true 0 = .inr T' → Y 62 1 = nI T'.length ∧ lk (Y 63) T' ∧ T'.length ≤ 50 := by
  have hk2 : k = 0 ∧ nI nn = 1007 ∨ k = 1 ∧ nI nn = 1008 := by
    rcases hk with ⟨e, rfl⟩ | ⟨e, rfl⟩
    · exact Or.inl ⟨e, rfl⟩
    · exact Or.inr ⟨e, rfl⟩
  have h51 := @sp_51 sc (d + 5) X 62 ka_k_62
  have hnn2 : nn < 2000 := by omega
  have hA : cs (kn_row (kn_row X 62 (kn_up (X 62) 1 0)) 61 (kn_up (kn_up (kn_up (kn_up (kn_up (X 61) 1 (nI nn)) 3 0) 4 0) 5 1) 6 0)) (nI nn) [] [] true 0 := by
    unfold cs
    rw [kn_row_at]
    simp only [kn_row_at, kn_row_off, kn_up_at, kn_up_ne, Nat.reduceEqDiff, reduceCtorEq, not_false_eq_true]
    exact ⟨trivial, rfl, rfl, rfl, rfl, rfl, trivial, trivial, fun c hc => absurd hc List.not_mem_nil, fun e => absurd e (by decide)⟩
  obtain ⟨Y, y1, y2, y3⟩ := @sp_12l sc d (nI nn) k B q n nn hk2 hn hB hq hql hqo n 0 [] [] true 0 _ ka_nv hA (Nat.le_refl _) (by decide) (by omega) (fun j hj => by rw [kn_row_off hqo.1, kn_row_off hqo.2.1]; exact hX j hj)
  refine ⟨Y, ?_, fun p x1 x2 x3 x4 => by rw [y2 p x1 x2 x3 x4, kn_row_off x1, kn_row_off x2], y3⟩
  rw [kn_put_r] at h51
  have w61 : ∀ r, kn_row X 62 r 61 = X 61 := fun r => kn_row_off (by decide)
  have y1' : ka_ex sc (d + 6) 12 35 [.ref 61, .ref q, .int (nI n), .ref nn, .int 0, ka_nv] [] _ = _ := y1
  simp only [x12_0, x12_1, x12_4, x12_7, x12_8, x12_9, x12_12, x12_13, x12_14, x12_17, x12_18, x12_19, x12_22, x12_23, x12_24, x12_27, x12_28, x12_29, x12_32, x12_33, x12_37, x12_38, x12_41, x12_43, x12_45, x12_48, x12_49, x12_52, x12_55, x12_56, x12_57, x12_59, x12_60, x12_63, x12_66, x12_67, x12_68, x12_70, x12_71, x12_74, x12_76, x12_78, x12_81, x12_83, x12_84, x12_87, x12_90, x12_91, x12_92, x12_95, x12_96, x12_99, x12_102, x12_103, x12_106, x12_109, x12_110, x12_113, x12_114, x12_44 (Or.inl hq), hq, ka_kk_i, ka_kk_n, ka_cl_i, ka_cl_r, ka_cl_n, or_true, true_or, ka_ne2, ka_ne4, ka_ne5, ka_ne10, not_false_eq_true, not_true_eq_false, if_true, if_false, ka_k_0, ka_k_1, ka_k_2, ka_k_3, ka_k_4, ka_k_5, ka_k_6, ka_k_7, ka_k_8, ka_k_9, ka_k_10, ka_k_11, ka_k_12, ka_k_13, ka_k_14, ka_k_15, ka_k_16, ka_k_17, ka_k_18, ka_k_19, ka_k_20, ka_k_21, ka_k_22, ka_k_23, ka_k_24, ka_k_25, ka_k_26, ka_k_27, ka_k_28, ka_k_29, ka_k_30, ka_k_31, ka_k_32, ka_k_33, ka_k_34, ka_k_35, ka_k_36, ka_k_37, ka_k_38, ka_k_39, ka_k_40, ka_k_41, ka_k_42, ka_k_43, ka_k_44, ka_k_45, ka_k_46, ka_k_47, ka_k_48, ka_k_49, ka_k_50, ka_k_51, ka_k_52, ka_k_53, ka_k_54, ka_k_55, ka_k_56, ka_k_57, ka_k_58, ka_k_59, ka_k_60, ka_k_61, ka_k_62, ka_k_63, ka_k_64, ka_k_65, ka_k_66, ka_k_67, ka_k_68, ka_k_69, ka_k_70, ka_k_71, ka_k_72, ka_k_73, ka_k_74, ka_k_75, ka_k_76, ka_k_77, ka_k_78, ka_k_79, ka_k_80, ka_k_81, ka_k_82, ka_k_83, ka_k_84, ka_k_85, ka_k_86, ka_k_87, ka_k_88, ka_k_89, ka_k_90, ka_k_91, ka_k_92, ka_k_93, ka_k_94, ka_k_95, ka_k_96, ka_k_97, ka_k_98, ka_k_99, ka_k_100, ka_rf_0_0, ka_rf_0_1, ka_rf_0_2, ka_rf_0_4, ka_rf_0_5, ka_rf_0_6, ka_rf_0_7, ka_rf_0_8, ka_rf_0_9, ka_rf_61_0, ka_rf_61_2, ka_rf_67_0, ka_rf_67_1, ka_rf_67_2, ka_rf_75_0, ka_rf_87_0, ka_rf_87_1, ka_rf_87_2, ka_rf_87_4, ka_rf_87_11, ka_rf_87_12, ka_rf_87_14, ka_rf_87_15, ka_rf_87_16, ka_rf_87_19, ka_rf_87_20, ka_rf_87_21, ka_rf_87_22, ka_ln_63, ka_ln_64, ka_ln_65, ka_ln_68, ka_ln_69, ka_ln_70, ka_ln_76, ka_ln_77, ka_ln_78, ka_ln_80, ka_ln_82, ka_ln_84, ka_ln_86, ka_ln_88, ka_ln_89, ka_ln_90, ka_ln_91, ka_ln_92, ka_ln_93, ka_ln_94, ka_ln_95, ka_ln_96, ka_ln_97, ka_ln_98, ka_ln_99, ka_ln_100, h51, kn_put_r, w61, kn_row_at, kn_row_row, hnn2, y1']
end
