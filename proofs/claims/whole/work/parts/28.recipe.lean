/-! grinding by the recipe -/
def kn_gr (rc : Nat → Int32) (water : Int32) : Nat → Nat → (Nat → Int32) → (Nat → Int32)
  | 0, _, r => r
  | n + 1, i, r => kn_gr rc water n (i + 1) (kn_it (kn_trn (nI i) water) (rc i).toInt.toNat r)
def kn_rec (rc : Nat → Int32) (water : Int32) (r : Nat → Int32) : Nat → Int32 := kn_up (kn_gr rc water 4 0 r) 8 (kn_mn (kn_gr rc water 4 0 r 8 + 1) 9999)
section
variable {sc : aS} {d : Nat} {b p : Nat}
theorem sp_43l (hb : ka_k b = 4) (hp : ka_k p = 0) : ∀ (n i : Nat) (ii : Int32) (X : ka_X), i + n = 4 → ii.toInt = i → (∀ j, j < 4 → 0 ≤ (X (b + 2) j).toInt) → ka_ex sc (d + 3) 43 2 [.ref b, .ref p, .int ii] [] (ka_mem X) = some (none, ka_mem (kn_row X p (kn_up (kn_gr (X (b + 2)) (X b 4) n i (X p)) 8 (kn_mn (kn_gr (X (b + 2)) (X b 4) n i (X p) 8 + 1) 9999)))) := by
  have hpb : ¬ b = p := fun q => by rw [q, hp] at hb; cases hb
  have hpb2 : ¬ b + 2 = p := fun q => by have := ka_st_k2 hb; rw [q, hp] at this; cases this
  intro n
  induction n with
  | zero =>
    intro i ii X hi hii hr
    have h1 : ¬ ii < nI 4 := by rw [ka_ilt, ka_nIt (by decide)]; omega
    simp only [x43_0, x43_1, x43_2, x43_3, x43_4, x43_7, x43_8, x43_11, x43_12, x43_13, x43_14, x43_17, x43_18, x43_19, x43_20, x43_23, x43_26, x43_29, x43_32, x43_33, x43_34, x43_37, x43_38, x43_39, x43_42, x43_45, x43_48, ka_kk_i, ka_kk_n, ka_cl_i, ka_cl_r, ka_cl_n, or_true, true_or, ka_ne2, ka_ne4, ka_ne5, ka_ne10, not_false_eq_true, not_true_eq_false, if_true, if_false, hb, hp, ka_st_r7 hb, ka_st_k2 hb, ka_st_l2 hb, h1, kn_gr, kn_mn_f, kn_put_r]
  | succ n ih =>
    intro i ii X hi hii hr
    have h1 : ii < nI 4 := by rw [ka_ilt, ka_nIt (by decide)]; omega
    have hin : ka_in ii 4 := ka_inI.mpr (by omega)
    have hc : ii.toNatClampNeg = i := by rw [ka_nc]; omega
    have hi1 : (ii + 1).toInt = ((i + 1 : Nat) : Int) := by rw [ka_add (by simp only [ka_t_0, ka_t_1, ka_t_2, ka_t_3, ka_t_4, ka_t_5, ka_t_6, ka_t_7, ka_t_8, ka_t_9, ka_t_10, ka_t_11, ka_t_12, ka_t_13, ka_t_14, ka_t_15, ka_t_16, ka_t_17, ka_t_18, ka_t_19, ka_t_20, ka_t_25, ka_t_26, ka_t_28, ka_t_30, ka_t_31, ka_t_32, ka_t_33, ka_t_37, ka_t_38, ka_t_39, ka_t_40, ka_t_41, ka_t_42, ka_t_43, ka_t_45, ka_t_47, ka_t_48, ka_t_50, ka_t_57, ka_t_60, ka_t_61, ka_t_62, ka_t_63, ka_t_64, ka_t_65, ka_t_69, ka_t_70, ka_t_71, ka_t_80, ka_t_85, ka_t_87, ka_t_98, ka_t_99, ka_t_100, ka_t_104, ka_t_107, ka_t_109, ka_t_110, ka_t_112, ka_t_115, ka_t_116, ka_t_117, ka_t_124, ka_t_125, ka_t_160, ka_t_200, ka_t_207, ka_t_255, ka_t_260, ka_t_400, ka_t_624, ka_t_625, ka_t_999, ka_t_9999, ka_t_10000, ka_t_20000, ka_t_20033, ka_t_999999, ka_t_1000000000, ka_t_m1, ka_t_m2, ka_t_m3, ka_t_m5, ka_t_m9, ka_t_m10, ka_t_m1000000000]; omega)]; simp only [ka_t_0, ka_t_1, ka_t_2, ka_t_3, ka_t_4, ka_t_5, ka_t_6, ka_t_7, ka_t_8, ka_t_9, ka_t_10, ka_t_11, ka_t_12, ka_t_13, ka_t_14, ka_t_15, ka_t_16, ka_t_17, ka_t_18, ka_t_19, ka_t_20, ka_t_25, ka_t_26, ka_t_28, ka_t_30, ka_t_31, ka_t_32, ka_t_33, ka_t_37, ka_t_38, ka_t_39, ka_t_40, ka_t_41, ka_t_42, ka_t_43, ka_t_45, ka_t_47, ka_t_48, ka_t_50, ka_t_57, ka_t_60, ka_t_61, ka_t_62, ka_t_63, ka_t_64, ka_t_65, ka_t_69, ka_t_70, ka_t_71, ka_t_80, ka_t_85, ka_t_87, ka_t_98, ka_t_99, ka_t_100, ka_t_104, ka_t_107, ka_t_109, ka_t_110, ka_t_112, ka_t_115, ka_t_116, ka_t_117, ka_t_124, ka_t_125, ka_t_160, ka_t_200, ka_t_207, ka_t_255, ka_t_260, ka_t_400, ka_t_624, ka_t_625, ka_t_999, ka_t_9999, ka_t_10000, ka_t_20000, ka_t_20033, ka_t_999999, ka_t_1000000000, ka_t_m1, ka_t_m2, ka_t_m3, ka_t_m5, ka_t_m9, ka_t_m10, ka_t_m1000000000]; omega
    have hs : 0 ≤ ii.toInt ∧ ii.toInt ≤ 3 := by omega
    have hiI : ii = nI i := ka_eq_lit (by rw [ka_nIt (by omega)]; omega)
    rw [x43_2]
    simp only [x43_0, x43_1, x43_3, x43_4, x43_7, x43_8, x43_11, x43_12, x43_13, x43_14, x43_17, x43_18, x43_19, x43_20, x43_23, x43_26, x43_29, x43_32, x43_33, x43_34, x43_37, x43_38, x43_39, x43_42, x43_45, x43_48, ka_kk_i, ka_kk_n, ka_cl_i, ka_cl_r, ka_cl_n, or_true, true_or, ka_ne2, ka_ne4, ka_ne5, ka_ne10, not_false_eq_true, not_true_eq_false, if_true, if_false, hb, hp, ka_st_r7 hb, ka_st_k2 hb, ka_st_l2 hb, h1, hin, hc, sp_8 hp hs (hr i (by omega)), kn_put_r]
    rw [ih (i + 1) _ _ (by omega) hi1 (by rw [kn_row_off hpb2]; exact hr), kn_row_row, kn_row_off hpb2, kn_row_off hpb, kn_row_at]
    simp only [kn_gr, hiI]
theorem sp_43 (hb : ka_k b = 4) (hp : ka_k p = 0) {X : ka_X} (hr : ∀ j, j < 4 → 0 ≤ (X (b + 2) j).toInt) : ka_ex sc (d + 3) 43 0 [.ref b, .ref p, ka_nv] [] (ka_mem X) = some (none, ka_mem (kn_row X p (kn_rec (X (b + 2)) (X b 4) (X p)))) := by
  rw [x43_0, x43_1, ka_cl_r]
  rw [sp_43l hb hp 4 0 0 X rfl rfl hr]
  simp only [kn_rec]
end
