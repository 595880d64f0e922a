/-! a day of class street tells as the row's day -/
theorem us_eq1 {s c q : Int32} (hs : 0 ≤ s.toInt ∧ s.toInt ≤ 99) (h0 : c = 0 ∨ s = 0) (hc : 0 ≤ c.toInt ∧ c.toInt ≤ 18) (hq : 0 ≤ q.toInt ∧ q.toInt ≤ 99) : md_hd (s - c * q) 0 99 = s := by
  have em : (c * q).toInt = c.toInt * q.toInt := ka_mul (by
    have h1 : 0 ≤ c.toInt * q.toInt := Int.mul_nonneg hc.1 hq.1
    have h2 : c.toInt * q.toInt ≤ 18 * 99 := Int.mul_le_mul hc.2 hq.2 hq.1 (by decide)
    omega)
  have h1 : 0 ≤ c.toInt * q.toInt := Int.mul_nonneg hc.1 hq.1
  have h2 : c.toInt * q.toInt ≤ 18 * 99 := Int.mul_le_mul hc.2 hq.2 hq.1 (by decide)
  have e : (s - c * q).toInt = s.toInt - c.toInt * q.toInt := by rw [ka_sub (by rw [em]; omega), em]
  refine ka_eq_lit ?_
  unfold md_hd
  rcases h0 with h0 | h0
  · have z : c.toInt = 0 := by rw [h0]; rfl
    have e2 : (s - c * q).toInt = s.toInt := by rw [e, z, Int.zero_mul]; omega
    simp only [ka_ilt, ka_t_0, ka_t_1, ka_t_2, ka_t_3, ka_t_4, ka_t_5, ka_t_6, ka_t_7, ka_t_8, ka_t_9, ka_t_10, ka_t_11, ka_t_12, ka_t_13, ka_t_14, ka_t_15, ka_t_16, ka_t_17, ka_t_18, ka_t_19, ka_t_20, ka_t_25, ka_t_26, ka_t_28, ka_t_30, ka_t_31, ka_t_32, ka_t_33, ka_t_37, ka_t_38, ka_t_39, ka_t_40, ka_t_41, ka_t_42, ka_t_43, ka_t_45, ka_t_47, ka_t_48, ka_t_50, ka_t_57, ka_t_60, ka_t_61, ka_t_62, ka_t_63, ka_t_64, ka_t_65, ka_t_69, ka_t_70, ka_t_71, ka_t_80, ka_t_85, ka_t_87, ka_t_98, ka_t_99, ka_t_100, ka_t_104, ka_t_107, ka_t_109, ka_t_110, ka_t_112, ka_t_115, ka_t_116, ka_t_117, ka_t_124, ka_t_125, ka_t_160, ka_t_200, ka_t_207, ka_t_255, ka_t_260, ka_t_400, ka_t_624, ka_t_625, ka_t_999, ka_t_9999, ka_t_10000, ka_t_20000, ka_t_20033, ka_t_999999, ka_t_1000000000, ka_t_m1, ka_t_m2, ka_t_m3, ka_t_m5, ka_t_m9, ka_t_m10, ka_t_m1000000000, e2]
    (repeat' split) <;> simp only [ka_t_0, ka_t_1, ka_t_2, ka_t_3, ka_t_4, ka_t_5, ka_t_6, ka_t_7, ka_t_8, ka_t_9, ka_t_10, ka_t_11, ka_t_12, ka_t_13, ka_t_14, ka_t_15, ka_t_16, ka_t_17, ka_t_18, ka_t_19, ka_t_20, ka_t_25, ka_t_26, ka_t_28, ka_t_30, ka_t_31, ka_t_32, ka_t_33, ka_t_37, ka_t_38, ka_t_39, ka_t_40, ka_t_41, ka_t_42, ka_t_43, ka_t_45, ka_t_47, ka_t_48, ka_t_50, ka_t_57, ka_t_60, ka_t_61, ka_t_62, ka_t_63, ka_t_64, ka_t_65, ka_t_69, ka_t_70, ka_t_71, ka_t_80, ka_t_85, ka_t_87, ka_t_98, ka_t_99, ka_t_100, ka_t_104, ka_t_107, ka_t_109, ka_t_110, ka_t_112, ka_t_115, ka_t_116, ka_t_117, ka_t_124, ka_t_125, ka_t_160, ka_t_200, ka_t_207, ka_t_255, ka_t_260, ka_t_400, ka_t_624, ka_t_625, ka_t_999, ka_t_9999, ka_t_10000, ka_t_20000, ka_t_20033, ka_t_999999, ka_t_1000000000, ka_t_m1, ka_t_m2, ka_t_m3, ka_t_m5, ka_t_m9, ka_t_m10, ka_t_m1000000000, e2] <;> omega
  · have z : s.toInt = 0 := by rw [h0]; rfl
    simp only [ka_ilt, ka_t_0, ka_t_1, ka_t_2, ka_t_3, ka_t_4, ka_t_5, ka_t_6, ka_t_7, ka_t_8, ka_t_9, ka_t_10, ka_t_11, ka_t_12, ka_t_13, ka_t_14, ka_t_15, ka_t_16, ka_t_17, ka_t_18, ka_t_19, ka_t_20, ka_t_25, ka_t_26, ka_t_28, ka_t_30, ka_t_31, ka_t_32, ka_t_33, ka_t_37, ka_t_38, ka_t_39, ka_t_40, ka_t_41, ka_t_42, ka_t_43, ka_t_45, ka_t_47, ka_t_48, ka_t_50, ka_t_57, ka_t_60, ka_t_61, ka_t_62, ka_t_63, ka_t_64, ka_t_65, ka_t_69, ka_t_70, ka_t_71, ka_t_80, ka_t_85, ka_t_87, ka_t_98, ka_t_99, ka_t_100, ka_t_104, ka_t_107, ka_t_109, ka_t_110, ka_t_112, ka_t_115, ka_t_116, ka_t_117, ka_t_124, ka_t_125, ka_t_160, ka_t_200, ka_t_207, ka_t_255, ka_t_260, ka_t_400, ka_t_624, ka_t_625, ka_t_999, ka_t_9999, ka_t_10000, ka_t_20000, ka_t_20033, ka_t_999999, ka_t_1000000000, ka_t_m1, ka_t_m2, ka_t_m3, ka_t_m5, ka_t_m9, ka_t_m10, ka_t_m1000000000, e]
    (repeat' split) <;> simp only [ka_t_0, ka_t_1, ka_t_2, ka_t_3, ka_t_4, ka_t_5, ka_t_6, ka_t_7, ka_t_8, ka_t_9, ka_t_10, ka_t_11, ka_t_12, ka_t_13, ka_t_14, ka_t_15, ka_t_16, ka_t_17, ka_t_18, ka_t_19, ka_t_20, ka_t_25, ka_t_26, ka_t_28, ka_t_30, ka_t_31, ka_t_32, ka_t_33, ka_t_37, ka_t_38, ka_t_39, ka_t_40, ka_t_41, ka_t_42, ka_t_43, ka_t_45, ka_t_47, ka_t_48, ka_t_50, ka_t_57, ka_t_60, ka_t_61, ka_t_62, ka_t_63, ka_t_64, ka_t_65, ka_t_69, ka_t_70, ka_t_71, ka_t_80, ka_t_85, ka_t_87, ka_t_98, ka_t_99, ka_t_100, ka_t_104, ka_t_107, ka_t_109, ka_t_110, ka_t_112, ka_t_115, ka_t_116, ka_t_117, ka_t_124, ka_t_125, ka_t_160, ka_t_200, ka_t_207, ka_t_255, ka_t_260, ka_t_400, ka_t_624, ka_t_625, ka_t_999, ka_t_9999, ka_t_10000, ka_t_20000, ka_t_20033, ka_t_999999, ka_t_1000000000, ka_t_m1, ka_t_m2, ka_t_m3, ka_t_m5, ka_t_m9, ka_t_m10, ka_t_m1000000000, e] <;> omega
theorem us_eq2 {s c q : Int32} (hs : 0 ≤ s.toInt ∧ s.toInt ≤ 99) (hc : 0 ≤ c.toInt ∧ c.toInt ≤ 18) (hq : 0 ≤ q.toInt ∧ q.toInt ≤ 99) : md_hd (s - c * q) 0 99 = kn_mx (s - c * q) 0 := by
  have h1 : 0 ≤ c.toInt * q.toInt := Int.mul_nonneg hc.1 hq.1
  have h2 : c.toInt * q.toInt ≤ 18 * 99 := Int.mul_le_mul hc.2 hq.2 hq.1 (by decide)
  have em : (c * q).toInt = c.toInt * q.toInt := ka_mul (by omega)
  have e : (s - c * q).toInt = s.toInt - c.toInt * q.toInt := by rw [ka_sub (by rw [em]; omega), em]
  unfold md_hd kn_mx
  simp only [ka_ilt, ka_t_0, ka_t_1, ka_t_2, ka_t_3, ka_t_4, ka_t_5, ka_t_6, ka_t_7, ka_t_8, ka_t_9, ka_t_10, ka_t_11, ka_t_12, ka_t_13, ka_t_14, ka_t_15, ka_t_16, ka_t_17, ka_t_18, ka_t_19, ka_t_20, ka_t_25, ka_t_26, ka_t_28, ka_t_30, ka_t_31, ka_t_32, ka_t_33, ka_t_37, ka_t_38, ka_t_39, ka_t_40, ka_t_41, ka_t_42, ka_t_43, ka_t_45, ka_t_47, ka_t_48, ka_t_50, ka_t_57, ka_t_60, ka_t_61, ka_t_62, ka_t_63, ka_t_64, ka_t_65, ka_t_69, ka_t_70, ka_t_71, ka_t_80, ka_t_85, ka_t_87, ka_t_98, ka_t_99, ka_t_100, ka_t_104, ka_t_107, ka_t_109, ka_t_110, ka_t_112, ka_t_115, ka_t_116, ka_t_117, ka_t_124, ka_t_125, ka_t_160, ka_t_200, ka_t_207, ka_t_255, ka_t_260, ka_t_400, ka_t_624, ka_t_625, ka_t_999, ka_t_9999, ka_t_10000, ka_t_20000, ka_t_20033, ka_t_999999, ka_t_1000000000, ka_t_m1, ka_t_m2, ka_t_m3, ka_t_m5, ka_t_m9, ka_t_m10, ka_t_m1000000000, e]
  by_cases h3 : s.toInt - c.toInt * q.toInt < 0
  · rw [if_pos h3, if_pos h3]
  · rw [if_neg h3, if_neg h3, if_neg (by omega)]
theorem dl_5 {D r : Nat → Int32} : dl D (kn_up r 5 0) = dl D r := by
  unfold dl kn_edl
  simp only [kn_up_ne, Nat.reduceEqDiff, reduceCtorEq, not_false_eq_true]
section
variable {sc : aS} {d : Nat} {b : Nat}
theorem s45b (hb : ka_k b = 4) {X : ka_X} {E : Nat → Int32} {k : Nat} {l ii t c : Int32} (h : rl b X E) (hD : dk E) (hk : k < (E 9).toInt.toNat) (hc : 0 ≤ c.toInt ∧ c.toInt ≤ 18) : ∃ Y, ka_ex sc (d + 4) 45 66 [.ref b, .int l, .int ii, .ref (b + 12 + k), .int t, .int c] [] (ka_mem X) = ka_ex sc (d + 4) 45 2 [.ref b, .int l, .int (ii + 1), .ref (b + 12 + k), .int t, .int c] [] (ka_mem Y) ∧ rl b Y (md_wk E k (us_r E (md_kd E k) c)) ∧ ∀ p, (p < b ∨ b + 20 ≤ p) → Y p = X p := by
  have hk8 : k < 8 := by have := hD.1.2; omega
  have hp := ka_st_kn hb hk8
  have hx : ∀ f, f < 9 → X (b + 12 + k) f = md_kd E k f := h.2.2.1 k hk
  have hok := hD.2.1 k hk
  have x3 := hx 3 (by decide)
  have W3 : ∀ r, kn_row X (b + 12 + k) r (b + 3) = X (b + 3) := fun r => kn_row_off (by omega)
  have W4 : ∀ r, kn_row X (b + 12 + k) r (b + 3 + 1) = X (b + 3 + 1) := fun r => kn_row_off (by omega)
  have main : ∀ (Y : ka_X) (y : Nat → Int32), Y b = X b → Y (b + 12 + k) = y → (∀ f, f < 9 → y f = us_r E (md_kd E k) c f) → (∀ p, ¬ p = b + 12 + k → ¬ p = b + 5 → Y p = X p) → rl b Y (md_wk E k (us_r E (md_kd E k) c)) ∧ ∀ p, (p < b ∨ b + 20 ≤ p) → Y p = X p := by
    intro Y y hYb hYp hy hY
    refine ⟨rl_mk h (ch_wk hk8) ?_ ?_ ?_, fun p hp => hY p (by omega) (by omega)⟩
    · unfold rl_s
      rw [hYb]
      simp only [md_lo, Nat.reduceLT]
      exact h.1
    · exact rl_k_wk (D := E) h.2.2.1 rfl (fun _ _ => rfl) hYp (fun j hj _ => hY _ (by omega) (by omega)) hy hD.1.2
    · intro p hp
      exact hY p (by omega) (by omega)
  by_cases hz : c = 0 ∨ X (b + 12 + k) 3 = 0
  · have e := us_eq1 (s := X (b + 12 + k) 3) (q := dl E (md_kd E k)) (by rw [x3]; exact hok.2.2.2.1) hz hc dl_bd
    obtain ⟨m1, m2⟩ := main (kn_row X (b + 12 + k) (kn_up (X (b + 12 + k)) 5 0)) _ (kn_row_off (by omega)) kn_row_at (by
      intro f hf
      unfold us_r
      rw [← x3, e]
      unfold kn_up
      by_cases f5 : f = 5
      · rw [if_pos f5, if_pos f5]
      · rw [if_neg f5, if_neg f5]
        by_cases f3 : f = 3
        · rw [if_pos f3, f3]
        · rw [if_neg f3]; exact hx f hf) (fun p a _ => kn_row_off a)
    refine ⟨_, ?_, m1, m2⟩
    rw [x45_66]
    by_cases c0 : c = 0
    · simp only [x45_0, x45_1, x45_3, x45_4, x45_7, x45_10, x45_11, x45_12, x45_15, x45_16, x45_19, x45_20, x45_23, x45_24, x45_25, x45_26, x45_27, x45_30, x45_31, x45_34, x45_35, x45_36, x45_39, x45_40, x45_43, x45_44, x45_46, x45_48, x45_51, x45_52, x45_53, x45_56, x45_57, x45_60, x45_61, x45_64, x45_67, x45_68, x45_71, x45_73, x45_76, x45_77, x45_80, x45_83, x45_86, x45_87, x45_88, x45_91, x45_93, x45_94, x45_95, x45_98, x45_99, x45_100, x45_101, x45_104, x45_107, x45_110, x45_113, ka_kk_i, ka_kk_n, ka_cl_i, ka_cl_r, ka_cl_n, or_true, true_or, ka_ne2, ka_ne4, ka_ne5, ka_ne10, not_false_eq_true, not_true_eq_false, if_true, if_false, hp, c0, kn_put_r]
    · have s0 : X (b + 12 + k) 3 = 0 := by rcases hz with hz | hz; exact absurd hz c0; exact hz
      simp only [x45_0, x45_1, x45_3, x45_4, x45_7, x45_10, x45_11, x45_12, x45_15, x45_16, x45_19, x45_20, x45_23, x45_24, x45_25, x45_26, x45_27, x45_30, x45_31, x45_34, x45_35, x45_36, x45_39, x45_40, x45_43, x45_44, x45_46, x45_48, x45_51, x45_52, x45_53, x45_56, x45_57, x45_60, x45_61, x45_64, x45_67, x45_68, x45_71, x45_73, x45_76, x45_77, x45_80, x45_83, x45_86, x45_87, x45_88, x45_91, x45_93, x45_94, x45_95, x45_98, x45_99, x45_100, x45_101, x45_104, x45_107, x45_110, x45_113, ka_kk_i, ka_kk_n, ka_cl_i, ka_cl_r, ka_cl_n, or_true, true_or, ka_ne2, ka_ne4, ka_ne5, ka_ne10, not_false_eq_true, not_true_eq_false, if_true, if_false, hp, c0, kn_put_r, kn_row_at, kn_up_ne, Nat.reduceEqDiff, reduceCtorEq, s0]
  · have c0 : ¬ c = 0 := fun q => hz (Or.inl q)
    have s0 : ¬ X (b + 12 + k) 3 = 0 := fun q => hz (Or.inr q)
    generalize hW : kn_row X (b + 12 + k) (kn_up (X (b + 12 + k)) 5 0) = W
    have Wp : W (b + 12 + k) = kn_up (X (b + 12 + k)) 5 0 := by rw [← hW, kn_row_at]
    have Wt : rl_t (b + 3) W E 0 := by
      rw [← hW]
      unfold rl_t
      rw [W3, W4]
      exact h.2.2.2.1
    have g := hD.2.2.2.2.2.2.2.2.2.1
    have ev : st_dl W b (W (b + 12 + k)) = dl E (md_kd E k) := by
      rw [st_dl_eq (r2 := kn_up (md_kd E k) 5 0) Wt g (by
        intro f hf
        rw [Wp]
        unfold kn_up
        rw [hx f hf]), dl_5]
    have h41 := @sp_41 sc d W b (b + 12 + k) hb (rl_t_sz Wt g) hp (by omega)
    rw [ev] at h41
    generalize hV : kn_row W (b + 5) (tx_of W (b + 3) (W (b + 12 + k) 7) (W (b + 12 + k) 3) (W (b + 12 + k) 4) (W (b + 12 + k) 1)).2 = V at h41
    have Vp : V (b + 12 + k) = kn_up (X (b + 12 + k)) 5 0 := by rw [← hV, kn_row_off (by omega), Wp]
    have Voff : ∀ p, ¬ p = b + 12 + k → ¬ p = b + 5 → V p = X p := by
      intro p a c
      rw [← hV, kn_row_off c, ← hW, kn_row_off a]
    have e := us_eq2 (s := X (b + 12 + k) 3) (q := dl E (md_kd E k)) (by rw [x3]; exact hok.2.2.2.1) hc dl_bd
    obtain ⟨m1, m2⟩ := main (kn_row V (b + 12 + k) (kn_up (kn_up (X (b + 12 + k)) 5 0) 3 (kn_mx (X (b + 12 + k) 3 - c * dl E (md_kd E k)) 0))) _ ((kn_row_off (by omega)).trans (Voff b (by omega) (by omega))) kn_row_at (by
      intro f hf
      unfold us_r
      rw [← x3, e]
      unfold kn_up
      by_cases f3 : f = 3
      · rw [if_pos f3, if_neg (by omega), if_pos f3]
      · rw [if_neg f3]
        by_cases f5 : f = 5
        · rw [if_pos f5, if_pos f5]
        · rw [if_neg f5, if_neg f5, if_neg f3]; exact hx f hf) (fun p a b => (kn_row_off a).trans (Voff p a b))
    refine ⟨_, ?_, m1, m2⟩
    have w3 : W (b + 12 + k) 3 = X (b + 12 + k) 3 := by rw [Wp, kn_up_ne (by decide)]
    rw [x45_66]
    simp only [x45_0, x45_1, x45_3, x45_4, x45_7, x45_10, x45_11, x45_12, x45_15, x45_16, x45_19, x45_20, x45_23, x45_24, x45_25, x45_26, x45_27, x45_30, x45_31, x45_34, x45_35, x45_36, x45_39, x45_40, x45_43, x45_44, x45_46, x45_48, x45_51, x45_52, x45_53, x45_56, x45_57, x45_60, x45_61, x45_64, x45_67, x45_68, x45_71, x45_73, x45_76, x45_77, x45_80, x45_83, x45_86, x45_87, x45_88, x45_91, x45_93, x45_94, x45_95, x45_98, x45_99, x45_100, x45_101, x45_104, x45_107, x45_110, x45_113, ka_kk_i, ka_kk_n, ka_cl_i, ka_cl_r, ka_cl_n, or_true, true_or, ka_ne2, ka_ne4, ka_ne5, ka_ne10, not_false_eq_true, not_true_eq_false, if_true, if_false, hb, hp, c0, kn_put_r, hW, w3, s0, h41, kn_mx_f, Vp]
theorem s45 (hb : ka_k b = 4) {X : ka_X} {D : Nat → Int32} {k : Nat} {l ii : Int32} {a3 a4 a5 : Value} (h : rl b X D) (hD : dk D) (hk : k < (D 9).toInt.toNat) (hii : ii.toInt = k) : ∃ (b3 b4 b5 : Value) (Y : ka_X), ka_ex sc (d + 4) 45 2 [.ref b, .int l, .int ii, a3, a4, a5] [] (ka_mem X) = ka_ex sc (d + 4) 45 2 [.ref b, .int l, .int (ii + 1), b3, b4, b5] [] (ka_mem Y) ∧ rl b Y (us_1 D l k) ∧ ∀ p, (p < b ∨ b + 20 ≤ p) → Y p = X p := by
  have hk8 : k < 8 := by have := hD.1.2; omega
  have hp := ka_st_kn hb hk8
  have hx : ∀ f, f < 9 → X (b + 12 + k) f = md_kd D k f := h.2.2.1 k hk
  have x6 := hx 6 (by decide)
  have hok := hD.2.1 k hk
  have e1 : X b 1 = D 9 := h.1.1
  have h1 : ii < D 9 := by rw [ka_ilt]; omega
  have h2 : ii < nI 8 := by rw [ka_ilt, ka_nIt (by decide)]; omega
  have hin : ka_in ii 8 := ka_inI.mpr (by omega)
  have hc : ii.toNatClampNeg = k := by rw [ka_nc]; omega
  have cb := us_c_bd (D := D) (l := l) hok.2.2.2.2.2.2.1
  by_cases hl : l = 0
  · obtain ⟨Y, hY, y1, y2⟩ := @s45b sc d b hb X D k l ii 0 (us_c D l (md_kd D k 6)) h hD hk cb
    have ec : us_c D l (md_kd D k 6) = md_kd D k 6 := by unfold us_c; rw [if_pos hl]
    refine ⟨.ref (b + 12 + k), .int 0, .int (us_c D l (md_kd D k 6)), Y, ?_, ?_, y2⟩
    · rw [← hY, ec, x45_2]
      simp only [x45_0, x45_1, x45_3, x45_4, x45_7, x45_10, x45_11, x45_12, x45_15, x45_16, x45_19, x45_20, x45_23, x45_24, x45_25, x45_26, x45_27, x45_30, x45_31, x45_34, x45_35, x45_36, x45_39, x45_40, x45_43, x45_44, x45_46, x45_48, x45_51, x45_52, x45_53, x45_56, x45_57, x45_60, x45_61, x45_64, x45_67, x45_68, x45_71, x45_73, x45_76, x45_77, x45_80, x45_83, x45_86, x45_87, x45_88, x45_91, x45_93, x45_94, x45_95, x45_98, x45_99, x45_100, x45_101, x45_104, x45_107, x45_110, x45_113, x45_24 (Or.inl rfl) (ka_st_k1 hb), ka_kk_i, ka_kk_n, ka_cl_i, ka_cl_r, ka_cl_n, or_true, true_or, ka_ne2, ka_ne4, ka_ne5, ka_ne10, not_false_eq_true, not_true_eq_false, if_true, if_false, hb, h1, h2, hin, hc, e1, ka_st_r0 hb, ka_st_k1 hb, ka_st_l1 hb, ka_st_ra hb hk8, hp, hl, x6]
    · unfold us_1 us_z
      rw [if_pos hl]
      exact y1
  · have hZ : kn_row X b (kn_up (X b) 14 (X b 14 * 1103515245 + 12345)) b = kn_up (X b) 14 (X b 14 * 1103515245 + 12345) := kn_row_at
    have e14 : X b 14 = D 10 := h.1.2.2.2.2.2.2.2.2
    have hr : rl b (kn_row X b (kn_up (X b) 14 (X b 14 * 1103515245 + 12345))) (us_z D l) := by
      refine rl_mk h us_z_ch ?_ ?_ ?_
      · obtain ⟨s1, s2, s3, s4, s5, s6, s7, s8, s9⟩ := h.1
        unfold rl_s
        rw [hZ, us_z_at (by decide), us_z_at (by decide), us_z_at (by decide), us_z_at (by decide), us_z_at (by decide), us_z_at (by decide), us_z_at (by decide), us_z_at (by decide)]
        simp only [kn_up_at, kn_up_ne, Nat.reduceEqDiff, reduceCtorEq, not_false_eq_true]
        refine ⟨s1, s2, s3, s4, s5, s6, s7, s8, ?_⟩
        unfold us_z
        rw [if_neg hl, kn_up_at, s9]
      · intro j hj f hf
        rw [us_z_at (by decide)] at hj
        rw [kn_row_off (by omega), us_z_at (by omega)]
        exact h.2.2.1 j hj f hf
      · intro p hp
        exact kn_row_off (by omega)
    have hDz : dk (us_z D l) := by
      refine dk_mk hD us_z_ch (fun j hj => ?_) ?_ ?_
      · rw [us_z_kd]; exact hD.2.1 j hj
      · rw [us_z_at (by decide)]; exact hD.2.2.2.2.2.1
      · rw [us_z_at (by decide)]; exact hD.2.2.2.2.2.2.1
    have ed : ((X b 14 * 1103515245 + 12345).toUInt32 >>> ((8 : Int32).toUInt32 &&& Int32.toUInt32 31)).toInt32 = us_dr D := by rw [e14]; rfl
    have h46 := @sp_46 sc (d + 3) X b hb
    rw [ed] at h46
    have hxp : ∀ r, kn_row X b r (b + 12 + k) 6 = md_kd D k 6 := by intro r; rw [kn_row_off (by omega), x6]
    by_cases hq : us_dr D - us_dr D / 4 * 4 = 0
    · obtain ⟨Y, hY, y1, y2⟩ := @s45b sc d b hb _ (us_z D l) k l ii 1 (us_c D l (md_kd D k 6)) hr hDz (by rw [us_z_at (by decide)]; exact hk) cb
      have ec : us_c D l (md_kd D k 6) = 2 * md_kd D k 6 := by unfold us_c; rw [if_neg hl, if_pos hq]
      refine ⟨.ref (b + 12 + k), .int 1, .int (us_c D l (md_kd D k 6)), Y, ?_, ?_, fun p hp => (y2 p hp).trans (kn_row_off (by omega))⟩
      · rw [← hY, x45_2]
        simp only [x45_0, x45_1, x45_3, x45_4, x45_7, x45_10, x45_11, x45_12, x45_15, x45_16, x45_19, x45_20, x45_23, x45_24, x45_25, x45_26, x45_27, x45_30, x45_31, x45_34, x45_35, x45_36, x45_39, x45_40, x45_43, x45_44, x45_46, x45_48, x45_51, x45_52, x45_53, x45_56, x45_57, x45_60, x45_61, x45_64, x45_67, x45_68, x45_71, x45_73, x45_76, x45_77, x45_80, x45_83, x45_86, x45_87, x45_88, x45_91, x45_93, x45_94, x45_95, x45_98, x45_99, x45_100, x45_101, x45_104, x45_107, x45_110, x45_113, x45_24 (Or.inl rfl) (ka_st_k1 hb), ka_kk_i, ka_kk_n, ka_cl_i, ka_cl_r, ka_cl_n, or_true, true_or, ka_ne2, ka_ne4, ka_ne5, ka_ne10, not_false_eq_true, not_true_eq_false, if_true, if_false, hb, h1, h2, hin, hc, e1, ka_st_r0 hb, ka_st_k1 hb, ka_st_l1 hb, ka_st_ra hb hk8, hp, hl, hxp, ec, h46, hq, ka_one0]
      · exact y1
    · obtain ⟨Y, hY, y1, y2⟩ := @s45b sc d b hb _ (us_z D l) k l ii 0 (us_c D l (md_kd D k 6)) hr hDz (by rw [us_z_at (by decide)]; exact hk) cb
      have ec : us_c D l (md_kd D k 6) = md_kd D k 6 := by unfold us_c; rw [if_neg hl, if_neg hq]
      refine ⟨.ref (b + 12 + k), .int 0, .int (us_c D l (md_kd D k 6)), Y, ?_, ?_, fun p hp => (y2 p hp).trans (kn_row_off (by omega))⟩
      · rw [← hY, x45_2]
        simp only [x45_0, x45_1, x45_3, x45_4, x45_7, x45_10, x45_11, x45_12, x45_15, x45_16, x45_19, x45_20, x45_23, x45_24, x45_25, x45_26, x45_27, x45_30, x45_31, x45_34, x45_35, x45_36, x45_39, x45_40, x45_43, x45_44, x45_46, x45_48, x45_51, x45_52, x45_53, x45_56, x45_57, x45_60, x45_61, x45_64, x45_67, x45_68, x45_71, x45_73, x45_76, x45_77, x45_80, x45_83, x45_86, x45_87, x45_88, x45_91, x45_93, x45_94, x45_95, x45_98, x45_99, x45_100, x45_101, x45_104, x45_107, x45_110, x45_113, x45_24 (Or.inl rfl) (ka_st_k1 hb), ka_kk_i, ka_kk_n, ka_cl_i, ka_cl_r, ka_cl_n, or_true, true_or, ka_ne2, ka_ne4, ka_ne5, ka_ne10, not_false_eq_true, not_true_eq_false, if_true, if_false, hb, h1, h2, hin, hc, e1, ka_st_r0 hb, ka_st_k1 hb, ka_st_l1 hb, ka_st_ra hb hk8, hp, hl, hxp, ec, h46, hq]
      · exact y1
theorem sp_45l (hb : ka_k b = 4) : ∀ (n i : Nat) (l ii : Int32) (X : ka_X) (D : Nat → Int32) (a3 a4 a5 : Value), rl b X D → dk D → (D 9).toInt = i + n → ii.toInt = i → ∃ Y, ka_ex sc (d + 4) 45 2 [.ref b, .int l, .int ii, a3, a4, a5] [] (ka_mem X) = some (none, ka_mem Y) ∧ rl b Y (us_go l n i D) ∧ ∀ p, (p < b ∨ b + 20 ≤ p) → Y p = X p := by
  intro n
  induction n with
  | zero =>
    intro i l ii X D a3 a4 a5 h hD hN hii
    have h1 : ¬ ii < D 9 := by rw [ka_ilt]; omega
    refine ⟨X, ?_, h, fun _ _ => rfl⟩
    rw [x45_2]
    simp only [x45_0, x45_1, x45_3, x45_4, x45_7, x45_10, x45_11, x45_12, x45_15, x45_16, x45_19, x45_20, x45_23, x45_24, x45_25, x45_26, x45_27, x45_30, x45_31, x45_34, x45_35, x45_36, x45_39, x45_40, x45_43, x45_44, x45_46, x45_48, x45_51, x45_52, x45_53, x45_56, x45_57, x45_60, x45_61, x45_64, x45_66, x45_67, x45_68, x45_71, x45_73, x45_76, x45_77, x45_80, x45_83, x45_86, x45_87, x45_88, x45_91, x45_93, x45_94, x45_95, x45_98, x45_99, x45_100, x45_101, x45_104, x45_107, x45_110, x45_113, ka_kk_i, ka_kk_n, ka_cl_i, ka_cl_r, ka_cl_n, or_true, true_or, ka_ne2, ka_ne4, ka_ne5, ka_ne10, not_false_eq_true, not_true_eq_false, if_true, if_false, hb, h.1.1, h1]
  | succ n ih =>
    intro i l ii X D a3 a4 a5 h hD hN hii
    have hN8 := hD.1
    have hi : i < (D 9).toInt.toNat := by omega
    obtain ⟨b3, b4, b5, Y, hs, y1, y2⟩ := @s45 sc d b hb X D i l ii a3 a4 a5 h hD hi hii
    have hi1 : (ii + 1).toInt = ((i + 1 : Nat) : Int) := by rw [ka_add (by simp only [ka_t_0, ka_t_1, ka_t_2, ka_t_3, ka_t_4, ka_t_5, ka_t_6, ka_t_7, ka_t_8, ka_t_9, ka_t_10, ka_t_11, ka_t_12, ka_t_13, ka_t_14, ka_t_15, ka_t_16, ka_t_17, ka_t_18, ka_t_19, ka_t_20, ka_t_25, ka_t_26, ka_t_28, ka_t_30, ka_t_31, ka_t_32, ka_t_33, ka_t_37, ka_t_38, ka_t_39, ka_t_40, ka_t_41, ka_t_42, ka_t_43, ka_t_45, ka_t_47, ka_t_48, ka_t_50, ka_t_57, ka_t_60, ka_t_61, ka_t_62, ka_t_63, ka_t_64, ka_t_65, ka_t_69, ka_t_70, ka_t_71, ka_t_80, ka_t_85, ka_t_87, ka_t_98, ka_t_99, ka_t_100, ka_t_104, ka_t_107, ka_t_109, ka_t_110, ka_t_112, ka_t_115, ka_t_116, ka_t_117, ka_t_124, ka_t_125, ka_t_160, ka_t_200, ka_t_207, ka_t_255, ka_t_260, ka_t_400, ka_t_624, ka_t_625, ka_t_999, ka_t_9999, ka_t_10000, ka_t_20000, ka_t_20033, ka_t_999999, ka_t_1000000000, ka_t_m1, ka_t_m2, ka_t_m3, ka_t_m5, ka_t_m9, ka_t_m10, ka_t_m1000000000]; omega)]; simp only [ka_t_0, ka_t_1, ka_t_2, ka_t_3, ka_t_4, ka_t_5, ka_t_6, ka_t_7, ka_t_8, ka_t_9, ka_t_10, ka_t_11, ka_t_12, ka_t_13, ka_t_14, ka_t_15, ka_t_16, ka_t_17, ka_t_18, ka_t_19, ka_t_20, ka_t_25, ka_t_26, ka_t_28, ka_t_30, ka_t_31, ka_t_32, ka_t_33, ka_t_37, ka_t_38, ka_t_39, ka_t_40, ka_t_41, ka_t_42, ka_t_43, ka_t_45, ka_t_47, ka_t_48, ka_t_50, ka_t_57, ka_t_60, ka_t_61, ka_t_62, ka_t_63, ka_t_64, ka_t_65, ka_t_69, ka_t_70, ka_t_71, ka_t_80, ka_t_85, ka_t_87, ka_t_98, ka_t_99, ka_t_100, ka_t_104, ka_t_107, ka_t_109, ka_t_110, ka_t_112, ka_t_115, ka_t_116, ka_t_117, ka_t_124, ka_t_125, ka_t_160, ka_t_200, ka_t_207, ka_t_255, ka_t_260, ka_t_400, ka_t_624, ka_t_625, ka_t_999, ka_t_9999, ka_t_10000, ka_t_20000, ka_t_20033, ka_t_999999, ka_t_1000000000, ka_t_m1, ka_t_m2, ka_t_m3, ka_t_m5, ka_t_m9, ka_t_m10, ka_t_m1000000000]; omega
    have k := us_1_ok (l := l) hD hi
    obtain ⟨Z, hz, z1, z2⟩ := ih (i + 1) l (ii + 1) Y _ b3 b4 b5 y1 k.2.1 (by rw [ch_9 k.1]; omega) hi1
    exact ⟨Z, hs.trans hz, z1, fun p hp => (z2 p hp).trans (y2 p hp)⟩
theorem s44 (hb : ka_k b = 4) {X : ka_X} {D : Nat → Int32} {n l i : Int32} (h : rl b X D) (hD : dk D) (hi : i < n) : ∃ Y, ka_ex sc (d + 5) 44 2 [.ref b, .int n, .int l, .int i] [] (ka_mem X) = ka_ex sc (d + 5) 44 2 [.ref b, .int n, .int l, .int (i + 1)] [] (ka_mem Y) ∧ rl b Y (gb D l) ∧ ∀ p, (p < b ∨ b + 20 ≤ p) → Y p = X p := by
  have hw := hD.2.2.2.2.1
  have e7 : (7 * D 6).toInt = 7 * (D 6).toInt := by rw [ka_mul (by simp only [ka_t_0, ka_t_1, ka_t_2, ka_t_3, ka_t_4, ka_t_5, ka_t_6, ka_t_7, ka_t_8, ka_t_9, ka_t_10, ka_t_11, ka_t_12, ka_t_13, ka_t_14, ka_t_15, ka_t_16, ka_t_17, ka_t_18, ka_t_19, ka_t_20, ka_t_25, ka_t_26, ka_t_28, ka_t_30, ka_t_31, ka_t_32, ka_t_33, ka_t_37, ka_t_38, ka_t_39, ka_t_40, ka_t_41, ka_t_42, ka_t_43, ka_t_45, ka_t_47, ka_t_48, ka_t_50, ka_t_57, ka_t_60, ka_t_61, ka_t_62, ka_t_63, ka_t_64, ka_t_65, ka_t_69, ka_t_70, ka_t_71, ka_t_80, ka_t_85, ka_t_87, ka_t_98, ka_t_99, ka_t_100, ka_t_104, ka_t_107, ka_t_109, ka_t_110, ka_t_112, ka_t_115, ka_t_116, ka_t_117, ka_t_124, ka_t_125, ka_t_160, ka_t_200, ka_t_207, ka_t_255, ka_t_260, ka_t_400, ka_t_624, ka_t_625, ka_t_999, ka_t_9999, ka_t_10000, ka_t_20000, ka_t_20033, ka_t_999999, ka_t_1000000000, ka_t_m1, ka_t_m2, ka_t_m3, ka_t_m5, ka_t_m9, ka_t_m10, ka_t_m1000000000]; omega)]; simp only [ka_t_0, ka_t_1, ka_t_2, ka_t_3, ka_t_4, ka_t_5, ka_t_6, ka_t_7, ka_t_8, ka_t_9, ka_t_10, ka_t_11, ka_t_12, ka_t_13, ka_t_14, ka_t_15, ka_t_16, ka_t_17, ka_t_18, ka_t_19, ka_t_20, ka_t_25, ka_t_26, ka_t_28, ka_t_30, ka_t_31, ka_t_32, ka_t_33, ka_t_37, ka_t_38, ka_t_39, ka_t_40, ka_t_41, ka_t_42, ka_t_43, ka_t_45, ka_t_47, ka_t_48, ka_t_50, ka_t_57, ka_t_60, ka_t_61, ka_t_62, ka_t_63, ka_t_64, ka_t_65, ka_t_69, ka_t_70, ka_t_71, ka_t_80, ka_t_85, ka_t_87, ka_t_98, ka_t_99, ka_t_100, ka_t_104, ka_t_107, ka_t_109, ka_t_110, ka_t_112, ka_t_115, ka_t_116, ka_t_117, ka_t_124, ka_t_125, ka_t_160, ka_t_200, ka_t_207, ka_t_255, ka_t_260, ka_t_400, ka_t_624, ka_t_625, ka_t_999, ka_t_9999, ka_t_10000, ka_t_20000, ka_t_20033, ka_t_999999, ka_t_1000000000, ka_t_m1, ka_t_m2, ka_t_m3, ka_t_m5, ka_t_m9, ka_t_m10, ka_t_m1000000000]
  have hn : ¬ 7 * D 6 = 0 := fun q => by have := congrArg Int32.toInt q; rw [e7] at this; simp only [ka_t_0, ka_t_1, ka_t_2, ka_t_3, ka_t_4, ka_t_5, ka_t_6, ka_t_7, ka_t_8, ka_t_9, ka_t_10, ka_t_11, ka_t_12, ka_t_13, ka_t_14, ka_t_15, ka_t_16, ka_t_17, ka_t_18, ka_t_19, ka_t_20, ka_t_25, ka_t_26, ka_t_28, ka_t_30, ka_t_31, ka_t_32, ka_t_33, ka_t_37, ka_t_38, ka_t_39, ka_t_40, ka_t_41, ka_t_42, ka_t_43, ka_t_45, ka_t_47, ka_t_48, ka_t_50, ka_t_57, ka_t_60, ka_t_61, ka_t_62, ka_t_63, ka_t_64, ka_t_65, ka_t_69, ka_t_70, ka_t_71, ka_t_80, ka_t_85, ka_t_87, ka_t_98, ka_t_99, ka_t_100, ka_t_104, ka_t_107, ka_t_109, ka_t_110, ka_t_112, ka_t_115, ka_t_116, ka_t_117, ka_t_124, ka_t_125, ka_t_160, ka_t_200, ka_t_207, ka_t_255, ka_t_260, ka_t_400, ka_t_624, ka_t_625, ka_t_999, ka_t_9999, ka_t_10000, ka_t_20000, ka_t_20033, ka_t_999999, ka_t_1000000000, ka_t_m1, ka_t_m2, ka_t_m3, ka_t_m5, ka_t_m9, ka_t_m10, ka_t_m1000000000] at this; omega
  have h0 : 0 < D 6 := by rw [ka_ilt]; simp only [ka_t_0, ka_t_1, ka_t_2, ka_t_3, ka_t_4, ka_t_5, ka_t_6, ka_t_7, ka_t_8, ka_t_9, ka_t_10, ka_t_11, ka_t_12, ka_t_13, ka_t_14, ka_t_15, ka_t_16, ka_t_17, ka_t_18, ka_t_19, ka_t_20, ka_t_25, ka_t_26, ka_t_28, ka_t_30, ka_t_31, ka_t_32, ka_t_33, ka_t_37, ka_t_38, ka_t_39, ka_t_40, ka_t_41, ka_t_42, ka_t_43, ka_t_45, ka_t_47, ka_t_48, ka_t_50, ka_t_57, ka_t_60, ka_t_61, ka_t_62, ka_t_63, ka_t_64, ka_t_65, ka_t_69, ka_t_70, ka_t_71, ka_t_80, ka_t_85, ka_t_87, ka_t_98, ka_t_99, ka_t_100, ka_t_104, ka_t_107, ka_t_109, ka_t_110, ka_t_112, ka_t_115, ka_t_116, ka_t_117, ka_t_124, ka_t_125, ka_t_160, ka_t_200, ka_t_207, ka_t_255, ka_t_260, ka_t_400, ka_t_624, ka_t_625, ka_t_999, ka_t_9999, ka_t_10000, ka_t_20000, ka_t_20033, ka_t_999999, ka_t_1000000000, ka_t_m1, ka_t_m2, ka_t_m3, ka_t_m5, ka_t_m9, ka_t_m10, ka_t_m1000000000]; omega
  have e6 : X b 6 = D 6 := h.1.2.2.2.2.2.1
  have e2 : X b 2 = D 8 := h.1.2.1
  have hN := hD.1
  have fin : ∀ (Y : ka_X) (E : Nat → Int32), rl b Y E → dk E → E 9 = D 9 → E = gb_v D → (∀ p, (p < b ∨ b + 20 ≤ p) → Y p = X p) → ∃ Z, ka_ex sc (d + 5) 44 34 [.ref b, .int n, .int l, .int i] [] (ka_mem Y) = ka_ex sc (d + 5) 44 2 [.ref b, .int n, .int l, .int (i + 1)] [] (ka_mem Z) ∧ rl b Z (gb D l) ∧ ∀ p, (p < b ∨ b + 20 ≤ p) → Z p = X p := by
    intro Y E hY hE e9 eE hoff
    obtain ⟨V, hV, v1, v2⟩ := @sp_45l sc d b hb (E 9).toInt.toNat 0 l 0 Y E ka_nv ka_nv ka_nv hY hE (by rw [e9]; omega) rfl
    have h45 : ka_ex sc (d + 4) 45 0 [.ref b, .int l, ka_nv, ka_nv, ka_nv, ka_nv] [] (ka_mem Y) = some (none, ka_mem V) := by
      rw [← hV, x45_0, x45_1]
      simp only [ka_kk_i, ka_kk_n, ka_cl_i, ka_cl_r, ka_cl_n, or_true, true_or, ka_ne2, ka_ne4, ka_ne5, ka_ne10, not_false_eq_true, not_true_eq_false, if_true, if_false]
    refine ⟨kn_row V b (kn_up (V b) 2 (V b 2 + 1)), ?_, ?_, ?_⟩
    · rw [x44_34]
      simp only [x44_0, x44_1, x44_3, x44_4, x44_7, x44_8, x44_11, x44_14, x44_15, x44_18, x44_20, x44_21, x44_24, x44_25, x44_26, x44_29, x44_30, x44_33, x44_35, x44_36, x44_39, x44_40, x44_41, x44_44, x44_45, x44_46, x44_49, x44_52, x44_55, ka_kk_i, ka_kk_n, ka_cl_i, ka_cl_r, ka_cl_n, or_true, true_or, ka_ne2, ka_ne4, ka_ne5, ka_ne10, not_false_eq_true, not_true_eq_false, if_true, if_false, hb, h45, kn_put_r]
    · have eu : us_go l (E 9).toInt.toNat 0 E = gb_u D l := by unfold gb_u; rw [eE, ← e9, eE]
      rw [eu] at v1
      unfold gb
      refine rl_mk v1 (ch_up (by decide)) ?_ ?_ ?_
      · obtain ⟨s1, s2, s3, s4, s5, s6, s7, s8, s9⟩ := v1.1
        unfold rl_s
        rw [kn_row_at]
        simp only [kn_up_at, kn_up_ne, Nat.reduceEqDiff, reduceCtorEq, not_false_eq_true]
        exact ⟨s1, by rw [s2], s3, s4, s5, s6, s7, s8, s9⟩
      · intro j hj f hf
        rw [kn_up_ne (by decide)] at hj
        rw [kn_row_off (by omega), kn_up_ne (by omega)]
        exact v1.2.2.1 j hj f hf
      · intro p hp
        exact kn_row_off (by omega)
    · intro p hp
      rw [kn_row_off (by omega), v2 p hp, hoff p hp]
  by_cases hq : D 8 - D 8 / (7 * D 6) * (7 * D 6) = 0
  · obtain ⟨Y, hY, y1, y2⟩ := @ring_rl sc d b hb X D h hD
    have k := vd_ok hD
    obtain ⟨Z, hZ, z1, z2⟩ := fin Y _ y1 k.2 (ch_9 k.1) (by unfold gb_v; rw [if_pos hq]) y2
    refine ⟨Z, ?_, z1, z2⟩
    rw [← hZ, x44_2]
    simp only [x44_0, x44_1, x44_3, x44_4, x44_7, x44_8, x44_11, x44_14, x44_15, x44_18, x44_20, x44_21, x44_24, x44_25, x44_26, x44_29, x44_30, x44_33, x44_35, x44_36, x44_39, x44_40, x44_41, x44_44, x44_45, x44_46, x44_49, x44_52, x44_55, ka_kk_i, ka_kk_n, ka_cl_i, ka_cl_r, ka_cl_n, or_true, true_or, ka_ne2, ka_ne4, ka_ne5, ka_ne10, not_false_eq_true, not_true_eq_false, if_true, if_false, hb, hi, e6, e2, h0, hn, hq, hY]
  · obtain ⟨Z, hZ, z1, z2⟩ := fin X _ h hD rfl (by unfold gb_v; rw [if_neg hq]) (fun _ _ => rfl)
    refine ⟨Z, ?_, z1, z2⟩
    rw [← hZ, x44_2]
    simp only [x44_0, x44_1, x44_3, x44_4, x44_7, x44_8, x44_11, x44_14, x44_15, x44_18, x44_20, x44_21, x44_24, x44_25, x44_26, x44_29, x44_30, x44_33, x44_35, x44_36, x44_39, x44_40, x44_41, x44_44, x44_45, x44_46, x44_49, x44_52, x44_55, ka_kk_i, ka_kk_n, ka_cl_i, ka_cl_r, ka_cl_n, or_true, true_or, ka_ne2, ka_ne4, ka_ne5, ka_ne10, not_false_eq_true, not_true_eq_false, if_true, if_false, hb, hi, e6, e2, h0, hn, hq]
theorem sp_44l (hb : ka_k b = 4) : ∀ (m : Nat) (n l i : Int32) (X : ka_X) (D : Nat → Int32), rl b X D → dk D → (D 8).toInt + m < 2000000000 → n.toInt - i.toInt = m → ∃ Y, ka_ex sc (d + 5) 44 2 [.ref b, .int n, .int l, .int i] [] (ka_mem X) = some (none, ka_mem Y) ∧ rl b Y (gs l m D) ∧ ∀ p, (p < b ∨ b + 20 ≤ p) → Y p = X p := by
  intro m
  induction m with
  | zero =>
    intro n l i X D h hD h8 hm
    have h1 : ¬ i < n := by rw [ka_ilt]; omega
    refine ⟨X, ?_, h, fun _ _ => rfl⟩
    rw [x44_2]
    simp only [x44_0, x44_1, x44_3, x44_4, x44_7, x44_8, x44_11, x44_14, x44_15, x44_18, x44_20, x44_21, x44_24, x44_25, x44_26, x44_29, x44_30, x44_33, x44_34, x44_35, x44_36, x44_39, x44_40, x44_41, x44_44, x44_45, x44_46, x44_49, x44_52, x44_55, ka_kk_i, ka_kk_n, ka_cl_i, ka_cl_r, ka_cl_n, or_true, true_or, ka_ne2, ka_ne4, ka_ne5, ka_ne10, not_false_eq_true, not_true_eq_false, if_true, if_false, h1]
  | succ m ih =>
    intro n l i X D h hD h8 hm
    have hbn := ka_bd n
    have hbi := ka_bd i
    obtain ⟨Y, hY, y1, y2⟩ := @s44 sc d b hb X D n l i h hD (by rw [ka_ilt]; omega)
    have k := gb_ok (l := l) hD (by omega)
    obtain ⟨Z, hZ, z1, z2⟩ := ih n l (i + 1) Y _ y1 k.2.1 (by rw [k.2.2]; omega) (by rw [ka_add (by simp only [ka_t_0, ka_t_1, ka_t_2, ka_t_3, ka_t_4, ka_t_5, ka_t_6, ka_t_7, ka_t_8, ka_t_9, ka_t_10, ka_t_11, ka_t_12, ka_t_13, ka_t_14, ka_t_15, ka_t_16, ka_t_17, ka_t_18, ka_t_19, ka_t_20, ka_t_25, ka_t_26, ka_t_28, ka_t_30, ka_t_31, ka_t_32, ka_t_33, ka_t_37, ka_t_38, ka_t_39, ka_t_40, ka_t_41, ka_t_42, ka_t_43, ka_t_45, ka_t_47, ka_t_48, ka_t_50, ka_t_57, ka_t_60, ka_t_61, ka_t_62, ka_t_63, ka_t_64, ka_t_65, ka_t_69, ka_t_70, ka_t_71, ka_t_80, ka_t_85, ka_t_87, ka_t_98, ka_t_99, ka_t_100, ka_t_104, ka_t_107, ka_t_109, ka_t_110, ka_t_112, ka_t_115, ka_t_116, ka_t_117, ka_t_124, ka_t_125, ka_t_160, ka_t_200, ka_t_207, ka_t_255, ka_t_260, ka_t_400, ka_t_624, ka_t_625, ka_t_999, ka_t_9999, ka_t_10000, ka_t_20000, ka_t_20033, ka_t_999999, ka_t_1000000000, ka_t_m1, ka_t_m2, ka_t_m3, ka_t_m5, ka_t_m9, ka_t_m10, ka_t_m1000000000]; omega)]; simp only [ka_t_0, ka_t_1, ka_t_2, ka_t_3, ka_t_4, ka_t_5, ka_t_6, ka_t_7, ka_t_8, ka_t_9, ka_t_10, ka_t_11, ka_t_12, ka_t_13, ka_t_14, ka_t_15, ka_t_16, ka_t_17, ka_t_18, ka_t_19, ka_t_20, ka_t_25, ka_t_26, ka_t_28, ka_t_30, ka_t_31, ka_t_32, ka_t_33, ka_t_37, ka_t_38, ka_t_39, ka_t_40, ka_t_41, ka_t_42, ka_t_43, ka_t_45, ka_t_47, ka_t_48, ka_t_50, ka_t_57, ka_t_60, ka_t_61, ka_t_62, ka_t_63, ka_t_64, ka_t_65, ka_t_69, ka_t_70, ka_t_71, ka_t_80, ka_t_85, ka_t_87, ka_t_98, ka_t_99, ka_t_100, ka_t_104, ka_t_107, ka_t_109, ka_t_110, ka_t_112, ka_t_115, ka_t_116, ka_t_117, ka_t_124, ka_t_125, ka_t_160, ka_t_200, ka_t_207, ka_t_255, ka_t_260, ka_t_400, ka_t_624, ka_t_625, ka_t_999, ka_t_9999, ka_t_10000, ka_t_20000, ka_t_20033, ka_t_999999, ka_t_1000000000, ka_t_m1, ka_t_m2, ka_t_m3, ka_t_m5, ka_t_m9, ka_t_m10, ka_t_m1000000000]; omega)
    exact ⟨Z, hY.trans hZ, z1, fun p hp => (z2 p hp).trans (y2 p hp)⟩
theorem pass_rl (hb : ka_k b = 4) {X : ka_X} {D : Nat → Int32} {n l : Int32} (h : rl b X D) (hD : dk D) (hn : 0 ≤ n.toInt) (h8 : (D 8).toInt + n.toInt < 2000000000) : ∃ Y, ka_ex sc (d + 5) 44 0 [.ref b, .int n, .int l, ka_nv] [] (ka_mem X) = some (none, ka_mem Y) ∧ rl b Y (gs l n.toInt.toNat D) ∧ ∀ p, (p < b ∨ b + 20 ≤ p) → Y p = X p := by
  obtain ⟨Y, hY, y1, y2⟩ := @sp_44l sc d b hb n.toInt.toNat n l 0 X D h hD (by omega) (by simp only [ka_t_0, ka_t_1, ka_t_2, ka_t_3, ka_t_4, ka_t_5, ka_t_6, ka_t_7, ka_t_8, ka_t_9, ka_t_10, ka_t_11, ka_t_12, ka_t_13, ka_t_14, ka_t_15, ka_t_16, ka_t_17, ka_t_18, ka_t_19, ka_t_20, ka_t_25, ka_t_26, ka_t_28, ka_t_30, ka_t_31, ka_t_32, ka_t_33, ka_t_37, ka_t_38, ka_t_39, ka_t_40, ka_t_41, ka_t_42, ka_t_43, ka_t_45, ka_t_47, ka_t_48, ka_t_50, ka_t_57, ka_t_60, ka_t_61, ka_t_62, ka_t_63, ka_t_64, ka_t_65, ka_t_69, ka_t_70, ka_t_71, ka_t_80, ka_t_85, ka_t_87, ka_t_98, ka_t_99, ka_t_100, ka_t_104, ka_t_107, ka_t_109, ka_t_110, ka_t_112, ka_t_115, ka_t_116, ka_t_117, ka_t_124, ka_t_125, ka_t_160, ka_t_200, ka_t_207, ka_t_255, ka_t_260, ka_t_400, ka_t_624, ka_t_625, ka_t_999, ka_t_9999, ka_t_10000, ka_t_20000, ka_t_20033, ka_t_999999, ka_t_1000000000, ka_t_m1, ka_t_m2, ka_t_m3, ka_t_m5, ka_t_m9, ka_t_m10, ka_t_m1000000000]; omega)
  refine ⟨Y, ?_, y1, y2⟩
  rw [← hY, x44_0, x44_1, ka_cl_i]
end
