/-! the invariant: what the class's object and the model have in common -/
def I1 (X : ka_X) : Prop := rl 1 X (X 88) ∧ dk (X 88) ∧ (X 88 8).toInt ≤ 9999
def I2 (X : ka_X) : Prop := X 0 3 = X 87 3 ∧ (X 87 3 = 0 ∨ (rl 41 X (X 90) ∧ dk (X 90) ∧ (X 90 8).toInt ≤ 9999))
def I3 (X : ka_X) : Prop := ∀ j, j < 6 → X 78 j = X 91 j
def I4 (X : ka_X) : Prop := ∀ s, s < 4 → X (79 + 2 * s) 0 = X 97 s ∧ X (79 + 2 * s) 1 = X 98 s ∧ (0 ≤ (X 98 s).toInt ∧ (X 98 s).toInt ≤ 40) ∧ ∀ j, j < 40 → X (79 + 2 * s + 1) j = X 99 (40 * s + j)
def I5 (X : ka_X) : Prop := X 75 1 = X 87 17 ∧ (0 ≤ (X 87 17).toInt ∧ (X 87 17).toInt ≤ 40) ∧ ∀ j, j < (X 87 17).toInt.toNat → X 76 j = X 96 j
def Inv (X : ka_X) : Prop := I1 X ∧ I2 X ∧ I3 X ∧ I4 X ∧ I5 X
theorem rl_cg {b : Nat} {X Y : ka_X} {D : Nat → Int32} (h : rl b X D) (hY : ∀ p, b ≤ p → p < b + 20 → ¬ p = b + 5 → ¬ p = b + 8 → ¬ p = b + 11 → Y p = X p) (hN : (D 9).toInt ≤ 8) : rl b Y D := by
  refine rl_mk h ch_refl ?_ ?_ ?_
  · unfold rl_s
    rw [hY b (by omega) (by omega) (by omega) (by omega) (by omega)]
    exact h.1
  · intro j hj f hf
    rw [hY _ (by omega) (by omega) (by omega) (by omega) (by omega)]
    exact h.2.2.1 j hj f hf
  · intro p hp
    exact hY p (by omega) (by omega) (by omega) (by omega) (by omega)
theorem I1_cg {X Z : ka_X} (h : I1 X) (hZ : ∀ p, 1 ≤ p → p < 21 → ¬ p = 6 → ¬ p = 9 → ¬ p = 12 → Z p = X p) (h8 : Z 88 = X 88) : I1 Z := by
  unfold I1 at h ⊢
  rw [h8]
  exact ⟨rl_cg h.1 (fun p a b c e f => hZ p a b c e f) h.2.1.1.2, h.2⟩
/-- what acts on the street that stands now leave as it is -/
def fr (X Z : ka_X) : Prop := (∀ p, (p = 0 ∨ (41 ≤ p ∧ p < 61) ∨ (75 ≤ p ∧ p < 87) ∨ p = 90 ∨ p = 91 ∨ (96 ≤ p ∧ p < 100)) → Z p = X p) ∧ Z 87 3 = X 87 3 ∧ Z 87 17 = X 87 17
theorem I2_fr {X Z : ka_X} (h : I2 X) (f : fr X Z) : I2 Z := by
  unfold I2 at h ⊢
  rw [f.1 0 (by omega), f.2.1, f.1 90 (by omega)]
  refine ⟨h.1, ?_⟩
  rcases h.2 with h | ⟨h1, h2, h3⟩
  · exact Or.inl h
  · exact Or.inr ⟨rl_cg h1 (fun p a b _ _ _ => f.1 p (by omega)) h2.1.2, h2, h3⟩
theorem I3_fr {X Z : ka_X} (h : I3 X) (f : fr X Z) : I3 Z := by
  unfold I3 at h ⊢
  rw [f.1 78 (by omega), f.1 91 (by omega)]
  exact h
theorem I4_fr {X Z : ka_X} (h : I4 X) (f : fr X Z) : I4 Z := by
  intro s hs
  have k := h s hs
  rw [f.1 97 (by omega), f.1 98 (by omega), f.1 99 (by omega), f.1 (79 + 2 * s) (by omega), f.1 (79 + 2 * s + 1) (by omega)]
  exact k
theorem I5_fr {X Z : ka_X} (h : I5 X) (f : fr X Z) : I5 Z := by
  unfold I5 at h ⊢
  rw [f.2.2, f.1 75 (by omega), f.1 76 (by omega), f.1 96 (by omega)]
  exact h
theorem Inv_fr {X Z : ka_X} (h : Inv X) (f : fr X Z) (h1 : I1 Z) : Inv Z := ⟨h1, I2_fr h.2.1 f, I3_fr h.2.2.1 f, I4_fr h.2.2.2.1 f, I5_fr h.2.2.2.2 f⟩
/-- what acts that only ask leave as it is -/
def qu (X Z : ka_X) : Prop := ∀ p, ¬ p = 6 → ¬ p = 9 → ¬ p = 12 → ¬ (21 ≤ p ∧ p < 41) → ¬ (61 ≤ p ∧ p < 75) → ¬ p = 89 → ¬ p = 92 → ¬ p = 93 → ¬ p = 94 → ¬ p = 95 → ¬ p = 100 → Z p = X p
theorem Inv_qu {X Z : ka_X} (h : Inv X) (q : qu X Z) : Inv Z := by
  refine Inv_fr h ⟨fun p hp => q p (by omega) (by omega) (by omega) (by omega) (by omega) (by omega) (by omega) (by omega) (by omega) (by omega) (by omega), ?_, ?_⟩ (I1_cg h.1 (fun p a b c e f => q p (by omega) (by omega) (by omega) (by omega) (by omega) (by omega) (by omega) (by omega) (by omega) (by omega) (by omega)) ?_)
  · rw [q 87 (by omega) (by omega) (by omega) (by omega) (by omega) (by omega) (by omega) (by omega) (by omega) (by omega) (by omega)]
  · rw [q 87 (by omega) (by omega) (by omega) (by omega) (by omega) (by omega) (by omega) (by omega) (by omega) (by omega) (by omega)]
  · exact q 88 (by omega) (by omega) (by omega) (by omega) (by omega) (by omega) (by omega) (by omega) (by omega) (by omega) (by omega)
/-- errors -/
def er (X : ka_X) (k : Nat) : ka_X := kn_row X 78 (kn_up (X 78) k (X 78 k + 1))
def fo (X : ka_X) (k : Nat) : ka_X := kn_row X 91 (kn_up (X 91) k (X 91 k + 1))
theorem er_off {X : ka_X} {k p : Nat} (h : ¬ p = 78) : er X k p = X p := kn_row_off h
theorem fo_off {X : ka_X} {k p : Nat} (h : ¬ p = 91) : fo X k p = X p := kn_row_off h
theorem Inv_err {X : ka_X} {k : Nat} (h : Inv X) (hk : k < 6) : Inv (fo (er X k) k) := by
  have o : ∀ p, ¬ p = 78 → ¬ p = 91 → fo (er X k) k p = X p := fun p a b => (fo_off b).trans (er_off a)
  obtain ⟨h1, h2, h3, h4, h5⟩ := h
  refine ⟨I1_cg h1 (fun p a b _ _ _ => o p (by omega) (by omega)) (o 88 (by decide) (by decide)), ?_, ?_, ?_, ?_⟩
  · unfold I2 at h2 ⊢
    rw [o 0 (by decide) (by decide), o 87 (by decide) (by decide), o 90 (by decide) (by decide)]
    refine ⟨h2.1, ?_⟩
    rcases h2.2 with h | ⟨q1, q2, q3⟩
    · exact Or.inl h
    · exact Or.inr ⟨rl_cg q1 (fun p a b _ _ _ => o p (by omega) (by omega)) q2.1.2, q2, q3⟩
  · intro j hj
    have e1 : fo (er X k) k 78 = kn_up (X 78) k (X 78 k + 1) := (fo_off (by decide)).trans kn_row_at
    have e2 : fo (er X k) k 91 = kn_up (X 91) k (X 91 k + 1) := by
      unfold fo
      rw [kn_row_at, er_off (by decide)]
    rw [e1, e2]
    unfold kn_up
    rw [h3 j hj, h3 k hk]
  · intro s hs
    have q := h4 s hs
    rw [o 97 (by decide) (by decide), o 98 (by decide) (by decide), o 99 (by decide) (by decide), o (79 + 2 * s) (by omega) (by omega), o (79 + 2 * s + 1) (by omega) (by omega)]
    exact q
  · unfold I5 at h5 ⊢
    rw [o 75 (by decide) (by decide), o 87 (by decide) (by decide), o 76 (by decide) (by decide), o 96 (by decide) (by decide)]
    exact h5
/-- one act of the class, then of the model: the same answer, and the invariant holds -/
def op (sc : aS) (d cm mm : Nat) (ca ma : List Value) (X : ka_X) : Prop := ∃ (v : Int32) (Y Z : ka_X), ka_ex sc d cm 0 ca [] (ka_mem X) = some (some (.int v), ka_mem Y) ∧ ka_ex sc d mm 0 ma [] (ka_mem Y) = some (some (.int v), ka_mem Z) ∧ Inv Z
section
variable {sc : aS} {d : Nat} {X : ka_X}
theorem sp_99_1 : ka_ex sc d 99 0 [.ref 0, .int 1] [] (ka_mem X) = some (some (.int (-1000000000 - 1)), ka_mem (er X 1)) := sp_99 (by decide)
theorem sp_99_2 : ka_ex sc d 99 0 [.ref 0, .int 2] [] (ka_mem X) = some (some (.int (-1000000000 - 2)), ka_mem (er X 2)) := sp_99 (by decide)
theorem sp_99_3 : ka_ex sc d 99 0 [.ref 0, .int 3] [] (ka_mem X) = some (some (.int (-1000000000 - 3)), ka_mem (er X 3)) := sp_99 (by decide)
theorem sp_99_4 : ka_ex sc d 99 0 [.ref 0, .int 4] [] (ka_mem X) = some (some (.int (-1000000000 - 4)), ka_mem (er X 4)) := sp_99 (by decide)
theorem sp_99_5 : ka_ex sc d 99 0 [.ref 0, .int 5] [] (ka_mem X) = some (some (.int (-1000000000 - 5)), ka_mem (er X 5)) := sp_99 (by decide)
theorem sp_116_1 : ka_ex sc d 116 0 [.ref 87, .int 1] [] (ka_mem X) = some (some (.int (-1000000000 - 1)), ka_mem (fo X 1)) := sp_116 (by decide)
theorem sp_116_2 : ka_ex sc d 116 0 [.ref 87, .int 2] [] (ka_mem X) = some (some (.int (-1000000000 - 2)), ka_mem (fo X 2)) := sp_116 (by decide)
theorem sp_116_3 : ka_ex sc d 116 0 [.ref 87, .int 3] [] (ka_mem X) = some (some (.int (-1000000000 - 3)), ka_mem (fo X 3)) := sp_116 (by decide)
theorem sp_116_4 : ka_ex sc d 116 0 [.ref 87, .int 4] [] (ka_mem X) = some (some (.int (-1000000000 - 4)), ka_mem (fo X 4)) := sp_116 (by decide)
theorem sp_116_5 : ka_ex sc d 116 0 [.ref 87, .int 5] [] (ka_mem X) = some (some (.int (-1000000000 - 5)), ka_mem (fo X 5)) := sp_116 (by decide)
theorem sp_121' (hN : 0 ≤ (X 88 9).toInt) {k : Int32} : ka_ex sc (d + 1) 121 0 [.ref 87, .int k] [] (ka_mem X) = some (some (.int (ka_b (0 ≤ k.toInt ∧ k.toInt < (X 88 9).toInt))), ka_mem X) := by
  have hb := ka_bd (X 88 9)
  have e : (X 88 9 - 1).toInt = (X 88 9).toInt - 1 := by rw [ka_sub (by simp only [ka_t_0, ka_t_1, ka_t_2, ka_t_3, ka_t_4, ka_t_5, ka_t_6, ka_t_7, ka_t_8, ka_t_9, ka_t_10, ka_t_11, ka_t_12, ka_t_13, ka_t_14, ka_t_15, ka_t_16, ka_t_17, ka_t_18, ka_t_19, ka_t_20, ka_t_25, ka_t_26, ka_t_28, ka_t_30, ka_t_31, ka_t_32, ka_t_33, ka_t_37, ka_t_38, ka_t_39, ka_t_40, ka_t_41, ka_t_42, ka_t_43, ka_t_45, ka_t_47, ka_t_48, ka_t_50, ka_t_57, ka_t_60, ka_t_61, ka_t_62, ka_t_63, ka_t_64, ka_t_65, ka_t_69, ka_t_70, ka_t_71, ka_t_80, ka_t_85, ka_t_87, ka_t_98, ka_t_99, ka_t_100, ka_t_104, ka_t_107, ka_t_109, ka_t_110, ka_t_112, ka_t_115, ka_t_116, ka_t_117, ka_t_124, ka_t_125, ka_t_160, ka_t_200, ka_t_207, ka_t_255, ka_t_260, ka_t_400, ka_t_624, ka_t_625, ka_t_999, ka_t_9999, ka_t_10000, ka_t_20000, ka_t_20033, ka_t_999999, ka_t_1000000000, ka_t_m1, ka_t_m2, ka_t_m3, ka_t_m5, ka_t_m9, ka_t_m10, ka_t_m1000000000]; omega)]; simp only [ka_t_0, ka_t_1, ka_t_2, ka_t_3, ka_t_4, ka_t_5, ka_t_6, ka_t_7, ka_t_8, ka_t_9, ka_t_10, ka_t_11, ka_t_12, ka_t_13, ka_t_14, ka_t_15, ka_t_16, ka_t_17, ka_t_18, ka_t_19, ka_t_20, ka_t_25, ka_t_26, ka_t_28, ka_t_30, ka_t_31, ka_t_32, ka_t_33, ka_t_37, ka_t_38, ka_t_39, ka_t_40, ka_t_41, ka_t_42, ka_t_43, ka_t_45, ka_t_47, ka_t_48, ka_t_50, ka_t_57, ka_t_60, ka_t_61, ka_t_62, ka_t_63, ka_t_64, ka_t_65, ka_t_69, ka_t_70, ka_t_71, ka_t_80, ka_t_85, ka_t_87, ka_t_98, ka_t_99, ka_t_100, ka_t_104, ka_t_107, ka_t_109, ka_t_110, ka_t_112, ka_t_115, ka_t_116, ka_t_117, ka_t_124, ka_t_125, ka_t_160, ka_t_200, ka_t_207, ka_t_255, ka_t_260, ka_t_400, ka_t_624, ka_t_625, ka_t_999, ka_t_9999, ka_t_10000, ka_t_20000, ka_t_20033, ka_t_999999, ka_t_1000000000, ka_t_m1, ka_t_m2, ka_t_m3, ka_t_m5, ka_t_m9, ka_t_m10, ka_t_m1000000000]
  rw [sp_121]
  by_cases h : 0 ≤ k.toInt ∧ k.toInt < (X 88 9).toInt
  · rw [ka_b_t h, ka_b_t (by rw [e]; omega)]
  · rw [ka_b_f h, ka_b_f (by rw [e]; omega)]
theorem sp_165l : ∀ (m : Nat) (n i : Int32) (X : ka_X), dk (X 88) → (X 88 8).toInt + m < 2000000000 → n.toInt - i.toInt = m → ∃ Y, ka_ex sc (d + 5) 165 2 [.ref 87, .int n, .int i] [] (ka_mem X) = some (none, ka_mem Y) ∧ Y 88 = gs 0 m (X 88) ∧ ∀ p, ¬ p = 88 → ¬ p = 92 → ¬ p = 94 → ¬ p = 95 → Y p = X p := by
  intro m
  induction m with
  | zero =>
    intro n i X hD h8 hm
    have h1 : ¬ i < n := by rw [ka_ilt]; omega
    refine ⟨X, ?_, rfl, fun _ _ _ _ _ => rfl⟩
    rw [x165_2]
    simp only [x165_0, x165_1, x165_3, x165_4, x165_7, x165_8, x165_9, x165_12, x165_15, x165_18, ka_kk_i, ka_kk_n, ka_cl_i, ka_cl_r, ka_cl_n, or_true, true_or, ka_ne2, ka_ne4, ka_ne5, ka_ne10, not_false_eq_true, not_true_eq_false, if_true, if_false, h1]
  | succ m ih =>
    intro n i X hD h8 hm
    have hbn := ka_bd n
    have hbi := ka_bd i
    have h1 : i < n := by rw [ka_ilt]; omega
    obtain ⟨Y, hY, y1, y2⟩ := @sp_164 sc d X 0 hD
    have k := gb_ok (l := 0) hD (by omega)
    obtain ⟨Z, hZ, z1, z2⟩ := ih n (i + 1) Y (by rw [y1]; exact k.2.1) (by rw [y1, k.2.2]; omega) (by rw [ka_add (by simp only [ka_t_0, ka_t_1, ka_t_2, ka_t_3, ka_t_4, ka_t_5, ka_t_6, ka_t_7, ka_t_8, ka_t_9, ka_t_10, ka_t_11, ka_t_12, ka_t_13, ka_t_14, ka_t_15, ka_t_16, ka_t_17, ka_t_18, ka_t_19, ka_t_20, ka_t_25, ka_t_26, ka_t_28, ka_t_30, ka_t_31, ka_t_32, ka_t_33, ka_t_37, ka_t_38, ka_t_39, ka_t_40, ka_t_41, ka_t_42, ka_t_43, ka_t_45, ka_t_47, ka_t_48, ka_t_50, ka_t_57, ka_t_60, ka_t_61, ka_t_62, ka_t_63, ka_t_64, ka_t_65, ka_t_69, ka_t_70, ka_t_71, ka_t_80, ka_t_85, ka_t_87, ka_t_98, ka_t_99, ka_t_100, ka_t_104, ka_t_107, ka_t_109, ka_t_110, ka_t_112, ka_t_115, ka_t_116, ka_t_117, ka_t_124, ka_t_125, ka_t_160, ka_t_200, ka_t_207, ka_t_255, ka_t_260, ka_t_400, ka_t_624, ka_t_625, ka_t_999, ka_t_9999, ka_t_10000, ka_t_20000, ka_t_20033, ka_t_999999, ka_t_1000000000, ka_t_m1, ka_t_m2, ka_t_m3, ka_t_m5, ka_t_m9, ka_t_m10, ka_t_m1000000000]; omega)]; simp only [ka_t_0, ka_t_1, ka_t_2, ka_t_3, ka_t_4, ka_t_5, ka_t_6, ka_t_7, ka_t_8, ka_t_9, ka_t_10, ka_t_11, ka_t_12, ka_t_13, ka_t_14, ka_t_15, ka_t_16, ka_t_17, ka_t_18, ka_t_19, ka_t_20, ka_t_25, ka_t_26, ka_t_28, ka_t_30, ka_t_31, ka_t_32, ka_t_33, ka_t_37, ka_t_38, ka_t_39, ka_t_40, ka_t_41, ka_t_42, ka_t_43, ka_t_45, ka_t_47, ka_t_48, ka_t_50, ka_t_57, ka_t_60, ka_t_61, ka_t_62, ka_t_63, ka_t_64, ka_t_65, ka_t_69, ka_t_70, ka_t_71, ka_t_80, ka_t_85, ka_t_87, ka_t_98, ka_t_99, ka_t_100, ka_t_104, ka_t_107, ka_t_109, ka_t_110, ka_t_112, ka_t_115, ka_t_116, ka_t_117, ka_t_124, ka_t_125, ka_t_160, ka_t_200, ka_t_207, ka_t_255, ka_t_260, ka_t_400, ka_t_624, ka_t_625, ka_t_999, ka_t_9999, ka_t_10000, ka_t_20000, ka_t_20033, ka_t_999999, ka_t_1000000000, ka_t_m1, ka_t_m2, ka_t_m3, ka_t_m5, ka_t_m9, ka_t_m10, ka_t_m1000000000]; omega)
    refine ⟨Z, ?_, ?_, fun p a b c e => (z2 p a b c e).trans (y2 p a b c e)⟩
    · rw [← hZ, x165_2]
      simp only [x165_0, x165_1, x165_3, x165_4, x165_7, x165_8, x165_9, x165_12, x165_15, x165_18, ka_kk_i, ka_kk_n, ka_cl_i, ka_cl_r, ka_cl_n, or_true, true_or, ka_ne2, ka_ne4, ka_ne5, ka_ne10, not_false_eq_true, not_true_eq_false, if_true, if_false, ka_k_0, ka_k_1, ka_k_2, ka_k_3, ka_k_4, ka_k_5, ka_k_6, ka_k_7, ka_k_8, ka_k_9, ka_k_10, ka_k_11, ka_k_12, ka_k_13, ka_k_14, ka_k_15, ka_k_16, ka_k_17, ka_k_18, ka_k_19, ka_k_20, ka_k_21, ka_k_22, ka_k_23, ka_k_24, ka_k_25, ka_k_26, ka_k_27, ka_k_28, ka_k_29, ka_k_30, ka_k_31, ka_k_32, ka_k_33, ka_k_34, ka_k_35, ka_k_36, ka_k_37, ka_k_38, ka_k_39, ka_k_40, ka_k_41, ka_k_42, ka_k_43, ka_k_44, ka_k_45, ka_k_46, ka_k_47, ka_k_48, ka_k_49, ka_k_50, ka_k_51, ka_k_52, ka_k_53, ka_k_54, ka_k_55, ka_k_56, ka_k_57, ka_k_58, ka_k_59, ka_k_60, ka_k_61, ka_k_62, ka_k_63, ka_k_64, ka_k_65, ka_k_66, ka_k_67, ka_k_68, ka_k_69, ka_k_70, ka_k_71, ka_k_72, ka_k_73, ka_k_74, ka_k_75, ka_k_76, ka_k_77, ka_k_78, ka_k_79, ka_k_80, ka_k_81, ka_k_82, ka_k_83, ka_k_84, ka_k_85, ka_k_86, ka_k_87, ka_k_88, ka_k_89, ka_k_90, ka_k_91, ka_k_92, ka_k_93, ka_k_94, ka_k_95, ka_k_96, ka_k_97, ka_k_98, ka_k_99, ka_k_100, h1, hY]
    · rw [z1, y1]
      rfl
theorem sp_165 {n : Int32} (hD : dk (X 88)) (hn : 0 ≤ n.toInt) (h8 : (X 88 8).toInt + n.toInt < 2000000000) : ∃ Y, ka_ex sc (d + 5) 165 0 [.ref 87, .int n, ka_nv] [] (ka_mem X) = some (none, ka_mem Y) ∧ Y 88 = gs 0 n.toInt.toNat (X 88) ∧ ∀ p, ¬ p = 88 → ¬ p = 92 → ¬ p = 94 → ¬ p = 95 → Y p = X p := by
  obtain ⟨Y, hY, y⟩ := @sp_165l sc d n.toInt.toNat n 0 X hD (by omega) (by simp only [ka_t_0, ka_t_1, ka_t_2, ka_t_3, ka_t_4, ka_t_5, ka_t_6, ka_t_7, ka_t_8, ka_t_9, ka_t_10, ka_t_11, ka_t_12, ka_t_13, ka_t_14, ka_t_15, ka_t_16, ka_t_17, ka_t_18, ka_t_19, ka_t_20, ka_t_25, ka_t_26, ka_t_28, ka_t_30, ka_t_31, ka_t_32, ka_t_33, ka_t_37, ka_t_38, ka_t_39, ka_t_40, ka_t_41, ka_t_42, ka_t_43, ka_t_45, ka_t_47, ka_t_48, ka_t_50, ka_t_57, ka_t_60, ka_t_61, ka_t_62, ka_t_63, ka_t_64, ka_t_65, ka_t_69, ka_t_70, ka_t_71, ka_t_80, ka_t_85, ka_t_87, ka_t_98, ka_t_99, ka_t_100, ka_t_104, ka_t_107, ka_t_109, ka_t_110, ka_t_112, ka_t_115, ka_t_116, ka_t_117, ka_t_124, ka_t_125, ka_t_160, ka_t_200, ka_t_207, ka_t_255, ka_t_260, ka_t_400, ka_t_624, ka_t_625, ka_t_999, ka_t_9999, ka_t_10000, ka_t_20000, ka_t_20033, ka_t_999999, ka_t_1000000000, ka_t_m1, ka_t_m2, ka_t_m3, ka_t_m5, ka_t_m9, ka_t_m10, ka_t_m1000000000]; omega)
  refine ⟨Y, ?_, y⟩
  rw [x165_0, x165_1, ka_cl_i, hY]
/-- a part of a knife as asked for -/
def pv (D : Nat → Int32) (k : Nat) (w : Int32) : Int32 := if w.toInt < 9 then D (13 + 9 * k + w.toInt.toNat) else dl D (md_kd D k)
theorem sp_150 {k w : Int32} (hk : 0 ≤ k.toInt ∧ k.toInt < 8) (hw : 0 ≤ w.toInt ∧ w.toInt ≤ 9) (g : gv_ok (X 88) 0) : ∃ Y, ka_ex sc (d + 4) 150 0 [.ref 87, .int k, .int w] [] (ka_mem X) = some (some (.int (pv (X 88) k.toNatClampNeg w)), ka_mem Y) ∧ ∀ p, ¬ p = 92 → ¬ p = 94 → Y p = X p := by
  unfold pv
  by_cases h : w.toInt < 9
  · have h' : w < 9 := by rw [ka_ilt]; simp only [ka_t_0, ka_t_1, ka_t_2, ka_t_3, ka_t_4, ka_t_5, ka_t_6, ka_t_7, ka_t_8, ka_t_9, ka_t_10, ka_t_11, ka_t_12, ka_t_13, ka_t_14, ka_t_15, ka_t_16, ka_t_17, ka_t_18, ka_t_19, ka_t_20, ka_t_25, ka_t_26, ka_t_28, ka_t_30, ka_t_31, ka_t_32, ka_t_33, ka_t_37, ka_t_38, ka_t_39, ka_t_40, ka_t_41, ka_t_42, ka_t_43, ka_t_45, ka_t_47, ka_t_48, ka_t_50, ka_t_57, ka_t_60, ka_t_61, ka_t_62, ka_t_63, ka_t_64, ka_t_65, ka_t_69, ka_t_70, ka_t_71, ka_t_80, ka_t_85, ka_t_87, ka_t_98, ka_t_99, ka_t_100, ka_t_104, ka_t_107, ka_t_109, ka_t_110, ka_t_112, ka_t_115, ka_t_116, ka_t_117, ka_t_124, ka_t_125, ka_t_160, ka_t_200, ka_t_207, ka_t_255, ka_t_260, ka_t_400, ka_t_624, ka_t_625, ka_t_999, ka_t_9999, ka_t_10000, ka_t_20000, ka_t_20033, ka_t_999999, ka_t_1000000000, ka_t_m1, ka_t_m2, ka_t_m3, ka_t_m5, ka_t_m9, ka_t_m10, ka_t_m1000000000]; omega
    rw [if_pos h]
    refine ⟨X, ?_, fun _ _ _ => rfl⟩
    simp only [x150_0, x150_1, x150_3, x150_6, x150_7, x150_8, x150_9, x150_12, x150_15, x150_16, x150_17, x150_20, ka_kk_i, ka_kk_n, ka_cl_i, ka_cl_r, ka_cl_n, or_true, true_or, ka_ne2, ka_ne4, ka_ne5, ka_ne10, not_false_eq_true, not_true_eq_false, if_true, if_false, ka_k_0, ka_k_1, ka_k_2, ka_k_3, ka_k_4, ka_k_5, ka_k_6, ka_k_7, ka_k_8, ka_k_9, ka_k_10, ka_k_11, ka_k_12, ka_k_13, ka_k_14, ka_k_15, ka_k_16, ka_k_17, ka_k_18, ka_k_19, ka_k_20, ka_k_21, ka_k_22, ka_k_23, ka_k_24, ka_k_25, ka_k_26, ka_k_27, ka_k_28, ka_k_29, ka_k_30, ka_k_31, ka_k_32, ka_k_33, ka_k_34, ka_k_35, ka_k_36, ka_k_37, ka_k_38, ka_k_39, ka_k_40, ka_k_41, ka_k_42, ka_k_43, ka_k_44, ka_k_45, ka_k_46, ka_k_47, ka_k_48, ka_k_49, ka_k_50, ka_k_51, ka_k_52, ka_k_53, ka_k_54, ka_k_55, ka_k_56, ka_k_57, ka_k_58, ka_k_59, ka_k_60, ka_k_61, ka_k_62, ka_k_63, ka_k_64, ka_k_65, ka_k_66, ka_k_67, ka_k_68, ka_k_69, ka_k_70, ka_k_71, ka_k_72, ka_k_73, ka_k_74, ka_k_75, ka_k_76, ka_k_77, ka_k_78, ka_k_79, ka_k_80, ka_k_81, ka_k_82, ka_k_83, ka_k_84, ka_k_85, ka_k_86, ka_k_87, ka_k_88, ka_k_89, ka_k_90, ka_k_91, ka_k_92, ka_k_93, ka_k_94, ka_k_95, ka_k_96, ka_k_97, ka_k_98, ka_k_99, ka_k_100, h', sp_122 hk ⟨hw.1, h⟩]
    rfl
  · have h' : ¬ w < 9 := by rw [ka_ilt]; simp only [ka_t_0, ka_t_1, ka_t_2, ka_t_3, ka_t_4, ka_t_5, ka_t_6, ka_t_7, ka_t_8, ka_t_9, ka_t_10, ka_t_11, ka_t_12, ka_t_13, ka_t_14, ka_t_15, ka_t_16, ka_t_17, ka_t_18, ka_t_19, ka_t_20, ka_t_25, ka_t_26, ka_t_28, ka_t_30, ka_t_31, ka_t_32, ka_t_33, ka_t_37, ka_t_38, ka_t_39, ka_t_40, ka_t_41, ka_t_42, ka_t_43, ka_t_45, ka_t_47, ka_t_48, ka_t_50, ka_t_57, ka_t_60, ka_t_61, ka_t_62, ka_t_63, ka_t_64, ka_t_65, ka_t_69, ka_t_70, ka_t_71, ka_t_80, ka_t_85, ka_t_87, ka_t_98, ka_t_99, ka_t_100, ka_t_104, ka_t_107, ka_t_109, ka_t_110, ka_t_112, ka_t_115, ka_t_116, ka_t_117, ka_t_124, ka_t_125, ka_t_160, ka_t_200, ka_t_207, ka_t_255, ka_t_260, ka_t_400, ka_t_624, ka_t_625, ka_t_999, ka_t_9999, ka_t_10000, ka_t_20000, ka_t_20033, ka_t_999999, ka_t_1000000000, ka_t_m1, ka_t_m2, ka_t_m3, ka_t_m5, ka_t_m9, ka_t_m10, ka_t_m1000000000]; omega
    rw [if_neg h]
    refine ⟨gv_x X 0 (md_kd (X 88) k.toNatClampNeg 7) (md_kd (X 88) k.toNatClampNeg 3) (md_kd (X 88) k.toNatClampNeg 4) (md_kd (X 88) k.toNatClampNeg 1), ?_, fun p a b => gv_x_off a b⟩
    simp only [x150_0, x150_1, x150_3, x150_6, x150_7, x150_8, x150_9, x150_12, x150_15, x150_16, x150_17, x150_20, ka_kk_i, ka_kk_n, ka_cl_i, ka_cl_r, ka_cl_n, or_true, true_or, ka_ne2, ka_ne4, ka_ne5, ka_ne10, not_false_eq_true, not_true_eq_false, if_true, if_false, ka_k_0, ka_k_1, ka_k_2, ka_k_3, ka_k_4, ka_k_5, ka_k_6, ka_k_7, ka_k_8, ka_k_9, ka_k_10, ka_k_11, ka_k_12, ka_k_13, ka_k_14, ka_k_15, ka_k_16, ka_k_17, ka_k_18, ka_k_19, ka_k_20, ka_k_21, ka_k_22, ka_k_23, ka_k_24, ka_k_25, ka_k_26, ka_k_27, ka_k_28, ka_k_29, ka_k_30, ka_k_31, ka_k_32, ka_k_33, ka_k_34, ka_k_35, ka_k_36, ka_k_37, ka_k_38, ka_k_39, ka_k_40, ka_k_41, ka_k_42, ka_k_43, ka_k_44, ka_k_45, ka_k_46, ka_k_47, ka_k_48, ka_k_49, ka_k_50, ka_k_51, ka_k_52, ka_k_53, ka_k_54, ka_k_55, ka_k_56, ka_k_57, ka_k_58, ka_k_59, ka_k_60, ka_k_61, ka_k_62, ka_k_63, ka_k_64, ka_k_65, ka_k_66, ka_k_67, ka_k_68, ka_k_69, ka_k_70, ka_k_71, ka_k_72, ka_k_73, ka_k_74, ka_k_75, ka_k_76, ka_k_77, ka_k_78, ka_k_79, ka_k_80, ka_k_81, ka_k_82, ka_k_83, ka_k_84, ka_k_85, ka_k_86, ka_k_87, ka_k_88, ka_k_89, ka_k_90, ka_k_91, ka_k_92, ka_k_93, ka_k_94, ka_k_95, ka_k_96, ka_k_97, ka_k_98, ka_k_99, ka_k_100, h', sp_146 hk g]
theorem part_rl {b : Nat} (hb : ka_k b = 4) {D : Nat → Int32} (h : rl b X D) (hD : dk D) {k : Nat} (hk : k < (D 9).toInt.toNat) {w : Int32} (hw : 0 ≤ w.toInt ∧ w.toInt ≤ 9) : ∃ Y, ka_ex sc (d + 4) 37 0 [.ref b, .ref (b + 12 + k), .int w] [] (ka_mem X) = some (some (.int (pv D k w)), ka_mem Y) ∧ ∀ p, ¬ p = b + 5 → Y p = X p := by
  have hk8 : k < 8 := by have := hD.1.2; omega
  have hp := ka_st_kn hb hk8
  have hx : ∀ f, f < 9 → X (b + 12 + k) f = md_kd D k f := h.2.2.1 k hk
  unfold pv
  by_cases h9 : w.toInt < 9
  · rw [if_pos h9]
    refine ⟨X, ?_, fun _ _ => rfl⟩
    rw [sp_37 hb hp (by omega), hx _ (by omega)]
    rfl
  · have e9 : w = 9 := ka_eq_lit (by simp only [ka_t_0, ka_t_1, ka_t_2, ka_t_3, ka_t_4, ka_t_5, ka_t_6, ka_t_7, ka_t_8, ka_t_9, ka_t_10, ka_t_11, ka_t_12, ka_t_13, ka_t_14, ka_t_15, ka_t_16, ka_t_17, ka_t_18, ka_t_19, ka_t_20, ka_t_25, ka_t_26, ka_t_28, ka_t_30, ka_t_31, ka_t_32, ka_t_33, ka_t_37, ka_t_38, ka_t_39, ka_t_40, ka_t_41, ka_t_42, ka_t_43, ka_t_45, ka_t_47, ka_t_48, ka_t_50, ka_t_57, ka_t_60, ka_t_61, ka_t_62, ka_t_63, ka_t_64, ka_t_65, ka_t_69, ka_t_70, ka_t_71, ka_t_80, ka_t_85, ka_t_87, ka_t_98, ka_t_99, ka_t_100, ka_t_104, ka_t_107, ka_t_109, ka_t_110, ka_t_112, ka_t_115, ka_t_116, ka_t_117, ka_t_124, ka_t_125, ka_t_160, ka_t_200, ka_t_207, ka_t_255, ka_t_260, ka_t_400, ka_t_624, ka_t_625, ka_t_999, ka_t_9999, ka_t_10000, ka_t_20000, ka_t_20033, ka_t_999999, ka_t_1000000000, ka_t_m1, ka_t_m2, ka_t_m3, ka_t_m5, ka_t_m9, ka_t_m10, ka_t_m1000000000]; omega)
    subst e9
    rw [if_neg h9]
    have g := hD.2.2.2.2.2.2.2.2.2.1
    refine ⟨kn_row X (b + 5) (tx_of X (b + 3) (X (b + 12 + k) 7) (X (b + 12 + k) 3) (X (b + 12 + k) 4) (X (b + 12 + k) 1)).2, ?_, fun p a => kn_row_off a⟩
    rw [sp_37d hb hp (rl_t_sz h.2.2.2.1 g) (by omega), st_dl_eq h.2.2.2.1 g hx]
end
