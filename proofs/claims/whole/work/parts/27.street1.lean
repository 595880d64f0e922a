/-! a street: what it is asked -/
theorem tx_w_ind {s : Nat → Int32} {a b c e : Int32} : ∀ (n i t : Nat) (k k2 : Nat → Int32), (∀ j, j < t → k j = k2 j) → (tx_w s a b c e n i t k).1 = (tx_w s a b c e n i t k2).1 := by
  intro n
  induction n with
  | zero =>
    intro i t k k2 h
    simp only [tx_w]
    by_cases h1 : t = 1
    · rw [if_pos h1, if_pos h1, h 0 (by omega)]
    · rw [if_neg h1, if_neg h1]
  | succ n ih =>
    intro i t k k2 h
    simp only [tx_w]
    by_cases h1 : 0 ≤ (s i).toInt
    · rw [if_pos h1, if_pos h1]
      by_cases h2 : 49 ≤ t
      · rw [if_pos h2, if_pos h2]
      · rw [if_neg h2, if_neg h2]
        refine ih _ _ _ _ fun j hj => ?_
        by_cases hz : j = t
        · subst hz; rw [kn_up_at, kn_up_at]
        · rw [kn_up_ne hz, kn_up_ne hz, h j (by omega)]
    · rw [if_neg h1, if_neg h1]
      by_cases h2 : s i = -33
      · rw [if_pos h2, if_pos h2]
        by_cases h3 : t = 0 ∨ 50 ≤ t
        · rw [if_pos h3, if_pos h3]
        · rw [if_neg h3, if_neg h3]
          refine ih _ _ _ _ fun j hj => ?_
          by_cases hz : j = t - 1
          · subst hz; rw [kn_up_at, kn_up_at, h _ hj]
          · rw [kn_up_ne hz, kn_up_ne hz, h j (by omega)]
      · rw [if_neg h2, if_neg h2]
        by_cases h3 : t ≤ 1 ∨ 51 ≤ t
        · rw [if_pos h3, if_pos h3]
        · rw [if_neg h3, if_neg h3]
          refine ih _ _ _ _ fun j hj => ?_
          by_cases hz : j = t - 2
          · subst hz; rw [kn_up_at, kn_up_at, h _ (by omega), h _ (by omega)]
          · rw [kn_up_ne hz, kn_up_ne hz, h j (by omega)]
/-- a text of memory X at p, with its names as told -/
def tx_of (X : ka_X) (p : Nat) (a b c e : Int32) : Int32 × (Nat → Int32) := tx_w (X (p + 1)) a b c e (X p 1).toNatClampNeg 0 0 (X (p + 2))
def tx_sz (X : ka_X) (p : Nat) : Prop := 0 ≤ (X p 1).toInt ∧ (X p 1).toInt ≤ 50
section
variable {sc : aS} {d : Nat} {X : ka_X} {b p : Nat}
theorem sp_55' (hp : ka_k p = 5) (hn : tx_sz X p) {a1 a2 a3 a4 : Int32} : ka_ex sc (d + 1) 55 0 [.ref p, .int a1, .int a2, .int a3, .int a4, ka_nv, ka_nv, ka_nv, ka_nv, ka_nv] [] (ka_mem X) = some (some (.int (tx_of X p a1 a2 a3 a4).1), ka_mem (kn_row X (p + 2) (tx_of X p a1 a2 a3 a4).2)) :=
  sp_55 hp (n := (X p 1).toNatClampNeg) (by rw [ka_nc]; have := hn.1; omega) (by rw [ka_nc]; have := hn.2; omega)
theorem sp_107' {h : aH} {v lo hi : Int32} : ka_ex sc (d + 1) 107 0 [.int v, .int lo, .int hi] [] h = some (some (.int (kn_mx lo (kn_mn hi v))), h) := sp_107
theorem sp_39 (hb : ka_k b = 4) (hn : tx_sz X (b + 3)) {a1 a2 a3 a4 : Int32} : ka_ex sc (d + 2) 39 0 [.ref b, .int a1, .int a2, .int a3, .int a4] [] (ka_mem X) = some (some (.int (kn_mx (-9) (kn_mn 9 (tx_of X (b + 3) a1 a2 a3 a4).1))), ka_mem (kn_row X (b + 5) (tx_of X (b + 3) a1 a2 a3 a4).2)) := by
  simp only [x39_0, x39_1, x39_4, x39_5, x39_6, x39_7, x39_9, x39_12, x39_14, x39_16, x39_19, ka_kk_i, ka_kk_n, ka_cl_i, ka_cl_r, ka_cl_n, or_true, true_or, ka_ne2, ka_ne4, ka_ne5, ka_ne10, not_false_eq_true, not_true_eq_false, if_true, if_false, hb, ka_st_r8 hb, ka_st_k3 hb, sp_55' (ka_st_k3 hb) hn, sp_107']
theorem sp_40 (hb : ka_k b = 4) (hn : tx_sz X (b + 6)) {a1 a2 a3 a4 : Int32} : ka_ex sc (d + 2) 40 0 [.ref b, .int a1, .int a2, .int a3, .int a4] [] (ka_mem X) = if (X (b + 6) 1).toInt = 0 then some (some (.int (a1 + 10 * a2 - 5 * a3 - 30)), ka_mem X) else some (some (.int (tx_of X (b + 6) a1 a2 a3 a4).1), ka_mem (kn_row X (b + 8) (tx_of X (b + 6) a1 a2 a3 a4).2)) := by
  by_cases h0 : (X (b + 6) 1).toInt = 0
  · simp only [x40_0, x40_1, x40_4, x40_7, x40_10, x40_11, x40_13, x40_14, x40_15, x40_16, x40_17, x40_18, x40_19, x40_20, x40_22, x40_23, x40_24, x40_25, x40_28, x40_29, x40_30, x40_31, x40_33, x40_36, ka_kk_i, ka_kk_n, ka_cl_i, ka_cl_r, ka_cl_n, or_true, true_or, ka_ne2, ka_ne4, ka_ne5, ka_ne10, not_false_eq_true, not_true_eq_false, if_true, if_false, hb, ka_st_r9 hb, ka_st_k6 hb, sp_50 (ka_st_k6 hb), ka_b_0, h0]
  · simp only [x40_0, x40_1, x40_4, x40_7, x40_10, x40_11, x40_13, x40_14, x40_15, x40_16, x40_17, x40_18, x40_19, x40_20, x40_22, x40_23, x40_24, x40_25, x40_28, x40_29, x40_30, x40_31, x40_33, x40_36, ka_kk_i, ka_kk_n, ka_cl_i, ka_cl_r, ka_cl_n, or_true, true_or, ka_ne2, ka_ne4, ka_ne5, ka_ne10, not_false_eq_true, not_true_eq_false, if_true, if_false, hb, ka_st_r9 hb, ka_st_k6 hb, sp_50 (ka_st_k6 hb), ka_b_0, h0, sp_55' (ka_st_k6 hb) hn]
/-- how a knife dulls, and what is left on the text's stack -/
def st_dl (X : ka_X) (b : Nat) (r : Nat → Int32) : Int32 := kn_mx 0 (kn_mn 99 (kn_edl r + kn_mx (-9) (kn_mn 9 (tx_of X (b + 3) (r 7) (r 3) (r 4) (r 1)).1)))
theorem sp_41 (hb : ka_k b = 4) (hn : tx_sz X (b + 3)) (hp : ka_k p = 0) (hp5 : ¬ p = b + 5) : ka_ex sc (d + 3) 41 0 [.ref b, .ref p, ka_nv] [] (ka_mem X) = some (some (.int (st_dl X b (X p))), ka_mem (kn_row X (b + 5) (tx_of X (b + 3) (X p 7) (X p 3) (X p 4) (X p 1)).2)) := by
  simp only [x41_0, x41_1, x41_2, x41_5, x41_6, x41_9, x41_10, x41_13, x41_14, x41_17, x41_20, x41_21, x41_22, x41_25, x41_26, x41_27, x41_28, x41_30, x41_33, ka_kk_i, ka_kk_n, ka_cl_i, ka_cl_r, ka_cl_n, or_true, true_or, ka_ne2, ka_ne4, ka_ne5, ka_ne10, not_false_eq_true, not_true_eq_false, if_true, if_false, hb, hp, sp_39 hb hn, sp_6 hp, kn_row_off hp5, sp_107']
  rfl
theorem sp_46 (hb : ka_k b = 4) : ka_ex sc d 46 0 [.ref b] [] (ka_mem X) = some (some (.int ((X b 14 * 1103515245 + 12345).toUInt32 >>> ((8 : Int32).toUInt32 &&& Int32.toUInt32 31)).toInt32), ka_mem (kn_row X b (kn_up (X b) 14 (X b 14 * 1103515245 + 12345)))) := by
  simp only [x46_0, x46_1, x46_2, x46_5, x46_7, x46_8, x46_11, x46_12, x46_15, x46_16, x46_19, x46_21, x46_22, ka_kk_i, ka_kk_n, ka_cl_i, ka_cl_r, ka_cl_n, or_true, true_or, ka_ne2, ka_ne4, ka_ne5, ka_ne10, not_false_eq_true, not_true_eq_false, if_true, if_false, hb, kn_put_r, kn_row_at, kn_up_at]
theorem sp_35 (hb : ka_k b = 4) : ka_ex sc d 35 0 [.ref b] [] (ka_mem X) = some (some (.int (ka_b (8 ≤ (X b 1).toInt))), ka_mem X) := by
  simp only [x35_0, x35_1, x35_4, x35_6, x35_9, x35_10, x35_13, x35_14, ka_kk_i, ka_kk_n, ka_cl_i, ka_cl_r, ka_cl_n, or_true, true_or, ka_ne2, ka_ne4, ka_ne5, ka_ne10, not_false_eq_true, not_true_eq_false, if_true, if_false, hb, ka_ilt, ka_t_0, ka_t_1, ka_t_2, ka_t_3, ka_t_4, ka_t_5, ka_t_6, ka_t_7, ka_t_8, ka_t_9, ka_t_10, ka_t_11, ka_t_12, ka_t_13, ka_t_14, ka_t_15, ka_t_16, ka_t_17, ka_t_18, ka_t_19, ka_t_20, ka_t_25, ka_t_26, ka_t_28, ka_t_30, ka_t_31, ka_t_32, ka_t_33, ka_t_37, ka_t_38, ka_t_39, ka_t_40, ka_t_41, ka_t_42, ka_t_43, ka_t_45, ka_t_47, ka_t_48, ka_t_50, ka_t_57, ka_t_60, ka_t_61, ka_t_62, ka_t_63, ka_t_64, ka_t_65, ka_t_69, ka_t_70, ka_t_71, ka_t_80, ka_t_85, ka_t_87, ka_t_98, ka_t_99, ka_t_100, ka_t_104, ka_t_107, ka_t_109, ka_t_110, ka_t_112, ka_t_115, ka_t_116, ka_t_117, ka_t_124, ka_t_125, ka_t_160, ka_t_200, ka_t_207, ka_t_255, ka_t_260, ka_t_400, ka_t_624, ka_t_625, ka_t_999, ka_t_9999, ka_t_10000, ka_t_20000, ka_t_20033, ka_t_999999, ka_t_1000000000, ka_t_m1, ka_t_m2, ka_t_m3, ka_t_m5, ka_t_m9, ka_t_m10, ka_t_m1000000000]
  (repeat' split) <;> first | (exfalso; omega) | (rw [ka_b_t (by omega)]) | (rw [ka_b_f (by omega)])
theorem sp_36 (hb : ka_k b = 4) {km house cu : Int32} (hN : 0 ≤ (X b 1).toInt ∧ (X b 1).toInt < 8) : ka_ex sc (d + 2) 36 0 [.ref b, .int km, .int house, .int cu] [] (ka_mem X) = some (some (.int (X b 1)), ka_mem (kn_row (kn_row X (b + 12 + (X b 1).toNatClampNeg) (kn_beg km house cu (X (b + 12 + (X b 1).toNatClampNeg)))) b (kn_up (X b) 1 (X b 1 + 1)))) := by
  have hin : ka_in (X b 1) 8 := ka_inI.mpr (by omega)
  have hj : (X b 1).toNatClampNeg < 8 := by rw [ka_nc]; omega
  have hk := ka_st_kn hb hj
  have e1 : ∀ r, kn_row X (b + 12 + (X b 1).toNatClampNeg) r b = X b := fun r => kn_row_off (by omega)
  have e2 : X b 1 + 1 - 1 = X b 1 := Int32.add_sub_cancel _ _
  simp only [x36_0, x36_1, x36_4, x36_5, x36_9, x36_10, x36_11, x36_12, x36_15, x36_16, x36_17, x36_20, x36_21, x36_22, x36_25, x36_26, x36_29, x36_30, x36_31, x36_8 (Or.inl rfl) (ka_st_k1 hb), ka_kk_i, ka_kk_n, ka_cl_i, ka_cl_r, ka_cl_n, or_true, true_or, ka_ne2, ka_ne4, ka_ne5, ka_ne10, not_false_eq_true, not_true_eq_false, if_true, if_false, hb, hin, ka_st_r0 hb, ka_st_k1 hb, ka_st_l1 hb, ka_st_ra hb hj, hk, sp_1 hk, kn_put_r, kn_row_at, kn_row_row, e1, e2, kn_up_at]
end
