/-! a visit of class street tells as the row's visit -/
theorem vs_in_b {X : ka_X} {b p : Nat} {pl : Int32} (h : ¬ b = p) : vs_in X b p pl b = kn_up (X b) 3 (kn_mn (X b 3 + X b 5) 999999) := by
  simp only [vs_in]
  rw [kn_row_off (by omega : ¬ b = b + 11), kn_row_at, kn_row_off h]
theorem vs_in_p {X : ka_X} {b p : Nat} {pl : Int32} (h : ¬ p = b) (h2 : ¬ p = b + 11) : vs_in X b p pl p = kn_rec (X (b + 2)) (X b 4) (X p) := by
  simp only [vs_in]
  rw [kn_row_off h2, kn_row_off h, kn_row_at]
theorem vs_in_11 {X : ka_X} {b p : Nat} {pl : Int32} (h : ¬ b + 11 = p) : vs_in X b p pl (b + 11) = kn_up (X (b + 11)) pl.toNatClampNeg (X (b + 11) pl.toNatClampNeg + 1) := by
  simp only [vs_in]
  rw [kn_row_at, kn_row_off (by omega : ¬ b + 11 = b), kn_row_off h]
theorem br_pl_eq {r : Nat → Int32} (h : 0 ≤ (r 2).toInt ∧ (r 2).toInt ≤ 5) : (br_pl r).toNatClampNeg = (r 2).toNatClampNeg + 1 ∧ (br_pl r - 1).toNatClampNeg = (r 2).toNatClampNeg ∧ (br_pl r + 1).toNatClampNeg = (r 2).toNatClampNeg + 2 := by
  have e1 : kn_mx 0 (kn_mn 5 (r 2)) = r 2 := by
    rw [← md_hd_mx (by decide)]
    unfold md_hd
    rw [if_neg (by rw [ka_ilt]; simp only [ka_t_0, ka_t_1, ka_t_2, ka_t_3, ka_t_4, ka_t_5, ka_t_6, ka_t_7, ka_t_8, ka_t_9, ka_t_10, ka_t_11, ka_t_12, ka_t_13, ka_t_14, ka_t_15, ka_t_16, ka_t_17, ka_t_18, ka_t_19, ka_t_20, ka_t_25, ka_t_26, ka_t_28, ka_t_30, ka_t_31, ka_t_32, ka_t_33, ka_t_37, ka_t_38, ka_t_39, ka_t_40, ka_t_41, ka_t_42, ka_t_43, ka_t_45, ka_t_47, ka_t_48, ka_t_50, ka_t_57, ka_t_60, ka_t_61, ka_t_62, ka_t_63, ka_t_64, ka_t_65, ka_t_69, ka_t_70, ka_t_71, ka_t_80, ka_t_85, ka_t_87, ka_t_98, ka_t_99, ka_t_100, ka_t_104, ka_t_107, ka_t_109, ka_t_110, ka_t_112, ka_t_115, ka_t_116, ka_t_117, ka_t_124, ka_t_125, ka_t_160, ka_t_200, ka_t_207, ka_t_255, ka_t_260, ka_t_400, ka_t_624, ka_t_625, ka_t_999, ka_t_9999, ka_t_10000, ka_t_20000, ka_t_20033, ka_t_999999, ka_t_1000000000, ka_t_m1, ka_t_m2, ka_t_m3, ka_t_m5, ka_t_m9, ka_t_m10, ka_t_m1000000000]; omega), if_neg (by rw [ka_ilt]; simp only [ka_t_0, ka_t_1, ka_t_2, ka_t_3, ka_t_4, ka_t_5, ka_t_6, ka_t_7, ka_t_8, ka_t_9, ka_t_10, ka_t_11, ka_t_12, ka_t_13, ka_t_14, ka_t_15, ka_t_16, ka_t_17, ka_t_18, ka_t_19, ka_t_20, ka_t_25, ka_t_26, ka_t_28, ka_t_30, ka_t_31, ka_t_32, ka_t_33, ka_t_37, ka_t_38, ka_t_39, ka_t_40, ka_t_41, ka_t_42, ka_t_43, ka_t_45, ka_t_47, ka_t_48, ka_t_50, ka_t_57, ka_t_60, ka_t_61, ka_t_62, ka_t_63, ka_t_64, ka_t_65, ka_t_69, ka_t_70, ka_t_71, ka_t_80, ka_t_85, ka_t_87, ka_t_98, ka_t_99, ka_t_100, ka_t_104, ka_t_107, ka_t_109, ka_t_110, ka_t_112, ka_t_115, ka_t_116, ka_t_117, ka_t_124, ka_t_125, ka_t_160, ka_t_200, ka_t_207, ka_t_255, ka_t_260, ka_t_400, ka_t_624, ka_t_625, ka_t_999, ka_t_9999, ka_t_10000, ka_t_20000, ka_t_20033, ka_t_999999, ka_t_1000000000, ka_t_m1, ka_t_m2, ka_t_m3, ka_t_m5, ka_t_m9, ka_t_m10, ka_t_m1000000000]; omega)]
  have e2 : br_pl r = r 2 + 1 := by rw [br_pl, e1]
  have t1 : (r 2 + 1).toInt = (r 2).toInt + 1 := by rw [ka_add (by simp only [ka_t_0, ka_t_1, ka_t_2, ka_t_3, ka_t_4, ka_t_5, ka_t_6, ka_t_7, ka_t_8, ka_t_9, ka_t_10, ka_t_11, ka_t_12, ka_t_13, ka_t_14, ka_t_15, ka_t_16, ka_t_17, ka_t_18, ka_t_19, ka_t_20, ka_t_25, ka_t_26, ka_t_28, ka_t_30, ka_t_31, ka_t_32, ka_t_33, ka_t_37, ka_t_38, ka_t_39, ka_t_40, ka_t_41, ka_t_42, ka_t_43, ka_t_45, ka_t_47, ka_t_48, ka_t_50, ka_t_57, ka_t_60, ka_t_61, ka_t_62, ka_t_63, ka_t_64, ka_t_65, ka_t_69, ka_t_70, ka_t_71, ka_t_80, ka_t_85, ka_t_87, ka_t_98, ka_t_99, ka_t_100, ka_t_104, ka_t_107, ka_t_109, ka_t_110, ka_t_112, ka_t_115, ka_t_116, ka_t_117, ka_t_124, ka_t_125, ka_t_160, ka_t_200, ka_t_207, ka_t_255, ka_t_260, ka_t_400, ka_t_624, ka_t_625, ka_t_999, ka_t_9999, ka_t_10000, ka_t_20000, ka_t_20033, ka_t_999999, ka_t_1000000000, ka_t_m1, ka_t_m2, ka_t_m3, ka_t_m5, ka_t_m9, ka_t_m10, ka_t_m1000000000]; omega)]; simp only [ka_t_0, ka_t_1, ka_t_2, ka_t_3, ka_t_4, ka_t_5, ka_t_6, ka_t_7, ka_t_8, ka_t_9, ka_t_10, ka_t_11, ka_t_12, ka_t_13, ka_t_14, ka_t_15, ka_t_16, ka_t_17, ka_t_18, ka_t_19, ka_t_20, ka_t_25, ka_t_26, ka_t_28, ka_t_30, ka_t_31, ka_t_32, ka_t_33, ka_t_37, ka_t_38, ka_t_39, ka_t_40, ka_t_41, ka_t_42, ka_t_43, ka_t_45, ka_t_47, ka_t_48, ka_t_50, ka_t_57, ka_t_60, ka_t_61, ka_t_62, ka_t_63, ka_t_64, ka_t_65, ka_t_69, ka_t_70, ka_t_71, ka_t_80, ka_t_85, ka_t_87, ka_t_98, ka_t_99, ka_t_100, ka_t_104, ka_t_107, ka_t_109, ka_t_110, ka_t_112, ka_t_115, ka_t_116, ka_t_117, ka_t_124, ka_t_125, ka_t_160, ka_t_200, ka_t_207, ka_t_255, ka_t_260, ka_t_400, ka_t_624, ka_t_625, ka_t_999, ka_t_9999, ka_t_10000, ka_t_20000, ka_t_20033, ka_t_999999, ka_t_1000000000, ka_t_m1, ka_t_m2, ka_t_m3, ka_t_m5, ka_t_m9, ka_t_m10, ka_t_m1000000000]
  have t2 : (r 2 + 1 - 1).toInt = (r 2).toInt := by rw [ka_sub (by rw [t1]; simp only [ka_t_0, ka_t_1, ka_t_2, ka_t_3, ka_t_4, ka_t_5, ka_t_6, ka_t_7, ka_t_8, ka_t_9, ka_t_10, ka_t_11, ka_t_12, ka_t_13, ka_t_14, ka_t_15, ka_t_16, ka_t_17, ka_t_18, ka_t_19, ka_t_20, ka_t_25, ka_t_26, ka_t_28, ka_t_30, ka_t_31, ka_t_32, ka_t_33, ka_t_37, ka_t_38, ka_t_39, ka_t_40, ka_t_41, ka_t_42, ka_t_43, ka_t_45, ka_t_47, ka_t_48, ka_t_50, ka_t_57, ka_t_60, ka_t_61, ka_t_62, ka_t_63, ka_t_64, ka_t_65, ka_t_69, ka_t_70, ka_t_71, ka_t_80, ka_t_85, ka_t_87, ka_t_98, ka_t_99, ka_t_100, ka_t_104, ka_t_107, ka_t_109, ka_t_110, ka_t_112, ka_t_115, ka_t_116, ka_t_117, ka_t_124, ka_t_125, ka_t_160, ka_t_200, ka_t_207, ka_t_255, ka_t_260, ka_t_400, ka_t_624, ka_t_625, ka_t_999, ka_t_9999, ka_t_10000, ka_t_20000, ka_t_20033, ka_t_999999, ka_t_1000000000, ka_t_m1, ka_t_m2, ka_t_m3, ka_t_m5, ka_t_m9, ka_t_m10, ka_t_m1000000000]; omega), t1]; simp only [ka_t_0, ka_t_1, ka_t_2, ka_t_3, ka_t_4, ka_t_5, ka_t_6, ka_t_7, ka_t_8, ka_t_9, ka_t_10, ka_t_11, ka_t_12, ka_t_13, ka_t_14, ka_t_15, ka_t_16, ka_t_17, ka_t_18, ka_t_19, ka_t_20, ka_t_25, ka_t_26, ka_t_28, ka_t_30, ka_t_31, ka_t_32, ka_t_33, ka_t_37, ka_t_38, ka_t_39, ka_t_40, ka_t_41, ka_t_42, ka_t_43, ka_t_45, ka_t_47, ka_t_48, ka_t_50, ka_t_57, ka_t_60, ka_t_61, ka_t_62, ka_t_63, ka_t_64, ka_t_65, ka_t_69, ka_t_70, ka_t_71, ka_t_80, ka_t_85, ka_t_87, ka_t_98, ka_t_99, ka_t_100, ka_t_104, ka_t_107, ka_t_109, ka_t_110, ka_t_112, ka_t_115, ka_t_116, ka_t_117, ka_t_124, ka_t_125, ka_t_160, ka_t_200, ka_t_207, ka_t_255, ka_t_260, ka_t_400, ka_t_624, ka_t_625, ka_t_999, ka_t_9999, ka_t_10000, ka_t_20000, ka_t_20033, ka_t_999999, ka_t_1000000000, ka_t_m1, ka_t_m2, ka_t_m3, ka_t_m5, ka_t_m9, ka_t_m10, ka_t_m1000000000]; omega
  have t3 : (r 2 + 1 + 1).toInt = (r 2).toInt + 2 := by rw [ka_add (by rw [t1]; simp only [ka_t_0, ka_t_1, ka_t_2, ka_t_3, ka_t_4, ka_t_5, ka_t_6, ka_t_7, ka_t_8, ka_t_9, ka_t_10, ka_t_11, ka_t_12, ka_t_13, ka_t_14, ka_t_15, ka_t_16, ka_t_17, ka_t_18, ka_t_19, ka_t_20, ka_t_25, ka_t_26, ka_t_28, ka_t_30, ka_t_31, ka_t_32, ka_t_33, ka_t_37, ka_t_38, ka_t_39, ka_t_40, ka_t_41, ka_t_42, ka_t_43, ka_t_45, ka_t_47, ka_t_48, ka_t_50, ka_t_57, ka_t_60, ka_t_61, ka_t_62, ka_t_63, ka_t_64, ka_t_65, ka_t_69, ka_t_70, ka_t_71, ka_t_80, ka_t_85, ka_t_87, ka_t_98, ka_t_99, ka_t_100, ka_t_104, ka_t_107, ka_t_109, ka_t_110, ka_t_112, ka_t_115, ka_t_116, ka_t_117, ka_t_124, ka_t_125, ka_t_160, ka_t_200, ka_t_207, ka_t_255, ka_t_260, ka_t_400, ka_t_624, ka_t_625, ka_t_999, ka_t_9999, ka_t_10000, ka_t_20000, ka_t_20033, ka_t_999999, ka_t_1000000000, ka_t_m1, ka_t_m2, ka_t_m3, ka_t_m5, ka_t_m9, ka_t_m10, ka_t_m1000000000]; omega), t1]; simp only [ka_t_0, ka_t_1, ka_t_2, ka_t_3, ka_t_4, ka_t_5, ka_t_6, ka_t_7, ka_t_8, ka_t_9, ka_t_10, ka_t_11, ka_t_12, ka_t_13, ka_t_14, ka_t_15, ka_t_16, ka_t_17, ka_t_18, ka_t_19, ka_t_20, ka_t_25, ka_t_26, ka_t_28, ka_t_30, ka_t_31, ka_t_32, ka_t_33, ka_t_37, ka_t_38, ka_t_39, ka_t_40, ka_t_41, ka_t_42, ka_t_43, ka_t_45, ka_t_47, ka_t_48, ka_t_50, ka_t_57, ka_t_60, ka_t_61, ka_t_62, ka_t_63, ka_t_64, ka_t_65, ka_t_69, ka_t_70, ka_t_71, ka_t_80, ka_t_85, ka_t_87, ka_t_98, ka_t_99, ka_t_100, ka_t_104, ka_t_107, ka_t_109, ka_t_110, ka_t_112, ka_t_115, ka_t_116, ka_t_117, ka_t_124, ka_t_125, ka_t_160, ka_t_200, ka_t_207, ka_t_255, ka_t_260, ka_t_400, ka_t_624, ka_t_625, ka_t_999, ka_t_9999, ka_t_10000, ka_t_20000, ka_t_20033, ka_t_999999, ka_t_1000000000, ka_t_m1, ka_t_m2, ka_t_m3, ka_t_m5, ka_t_m9, ka_t_m10, ka_t_m1000000000]; omega
  rw [e2]
  refine ⟨?_, ?_, ?_⟩
  · rw [ka_nc, ka_nc, t1]; omega
  · rw [ka_nc, ka_nc, t2]
  · rw [ka_nc, ka_nc, t3]; omega
theorem rl_s_up {b : Nat} {X : ka_X} {D : Nat → Int32} {k : Nat} {x : Nat → Int32} {Y : ka_X} (h : rl_s b X D) (hY : Y b = kn_up (X b) 3 (kn_mn (X b 3 + X b 5) 999999)) : rl_s b Y (md_wk (kn_up D 7 (md_ls 999999 (D 7 + D 5))) k x) := by
  obtain ⟨h1, h2, h3, h4, h5, h6, h7, h8, h9⟩ := h
  unfold rl_s
  rw [hY]
  simp only [md_lo, Nat.reduceLT, kn_up_at, kn_up_ne, Nat.reduceEqDiff, reduceCtorEq, not_false_eq_true]
  refine ⟨h1, h2, ?_, h4, h5, h6, h7, h8, h9⟩
  rw [h3, h5]
  rfl
theorem vs_1_rl {b k : Nat} {X : ka_X} {D B : Nat → Int32} (h : rl b X D) (hD : dk D) (hB : ∀ j, j < 8 → X (b + 11) j = B j) (hk : k < (D 9).toInt.toNat) : (vs_1 X b (b + 12 + k)).2 = (vd_1 D B k).2.2 ∧ rl b (vs_1 X b (b + 12 + k)).1 (vd_1 D B k).1 ∧ (∀ j, j < 8 → (vs_1 X b (b + 12 + k)).1 (b + 11) j = (vd_1 D B k).2.1 j) ∧ ∀ p, (p < b ∨ b + 20 ≤ p) → (vs_1 X b (b + 12 + k)).1 p = X p := by
  have hk8 : k < 8 := by have := hD.1.2; omega
  have hkn := h.2.2.1 k hk
  have hx : ∀ f, f < 9 → X (b + 12 + k) f = md_kd D k f := hkn
  have hok := hD.2.1 k hk
  have hh := hok.2.2.1
  have x2 := hx 2 (by decide)
  have hpl := br_pl_eq (r := X (b + 12 + k)) (by rw [x2]; exact hh)
  rw [x2] at hpl
  have hc : (md_kd D k 2).toNatClampNeg ≤ 5 := by rw [ka_nc]; omega
  have hnb : br_nb X b (br_pl (X (b + 12 + k))) = B (md_kd D k 2).toNatClampNeg + B ((md_kd D k 2).toNatClampNeg + 2) := by
    unfold br_nb
    rw [hpl.2.1, hpl.2.2, hB _ (by omega), hB _ (by omega)]
  have hbv : br_v X b (99 - X (b + 12 + k) 3) (br_nb X b (br_pl (X (b + 12 + k)))) (X b 5) (X (b + 12 + k) 2) = gv_b D (99 - md_kd D k 3) (B (md_kd D k 2).toNatClampNeg + B ((md_kd D k 2).toNatClampNeg + 2)) (D 5) (md_kd D k 2) := by
    rw [brings_eq h.2.2.2.2.1 hD.2.2.2.2.2.2.2.2.2.2, hnb, x2, hx 3 (by decide), h.1.2.2.2.2.1]
  unfold vs_1 vd_1
  rw [hbv, hx 0 (by decide)]
  generalize hG : br_x X b (99 - X (b + 12 + k) 3) (br_nb X b (br_pl (X (b + 12 + k)))) (X b 5) (X (b + 12 + k) 2) = G
  have Goff : ∀ p, ¬ p = b + 8 → G p = X p := by intro p q; rw [← hG, br_x_off q]
  have Grl : rl b G D := by
    refine rl_mk h ch_refl ?_ ?_ ?_
    · unfold rl_s
      rw [Goff b (by omega)]
      exact h.1
    · intro j hj f hf
      rw [Goff _ (by omega)]
      exact h.2.2.1 j hj f hf
    · intro p hp
      exact Goff p (by omega)
  by_cases h6 : md_kd D k 0 = 6
  · rw [if_pos h6]
    have e : (if 0 < gv_b D (99 - md_kd D k 3) (B (md_kd D k 2).toNatClampNeg + B ((md_kd D k 2).toNatClampNeg + 2)) (D 5) (md_kd D k 2) then
    (if md_kd D k 0 = 6 then (D, B, (0 : Int32)) else (md_wk (kn_up D 7 (md_ls 999999 (D 7 + D 5))) k (md_rec D (md_kd D k)), kn_up B ((md_kd D k 2).toNatClampNeg + 1) (B ((md_kd D k 2).toNatClampNeg + 1) + 1), 1))
  else (D, B, 0)) = (D, B, 0) := by
      rw [if_pos h6]
      split <;> rfl
    rw [e]
    exact ⟨rfl, h, hB, fun _ _ => rfl⟩
  · rw [if_neg h6]
    by_cases hv : 0 < gv_b D (99 - md_kd D k 3) (B (md_kd D k 2).toNatClampNeg + B ((md_kd D k 2).toNatClampNeg + 2)) (D 5) (md_kd D k 2)
    · rw [if_pos hv, if_pos hv, if_neg h6]
      have hrec := kn_rec_eq (rc := X (b + 2)) hD.2.2.1 h.2.1 hok hx
      refine ⟨rfl, ?_, ?_, ?_⟩
      · refine rl_mk Grl (ch_trans (ch_up (Or.inl rfl)) (ch_wk hk8)) ?_ ?_ ?_
        · exact rl_s_up Grl.1 (vs_in_b (by omega))
        · refine rl_k_wk (D := D) Grl.2.2.1 (kn_up_ne (by decide)) (fun j hj => kn_up_ne (by omega)) (vs_in_p (by omega) (by omega)) (fun j hj _ => vs_in_off (by omega) (by omega) (by omega)) ?_ hD.1.2
          intro f hf
          rw [Goff _ (by omega), Goff b (by omega), Goff _ (by omega), h.1.2.2.2.1]
          exact hrec.2 f hf
        · intro p hp
          exact vs_in_off (by omega) (by omega) (by omega)
      · intro j hj
        show vs_in G b (b + 12 + k) (br_pl (X (b + 12 + k))) (b + 11) j = _
        rw [vs_in_11 (by omega), hpl.1, Goff _ (by omega)]
        show kn_up _ _ _ j = kn_up _ _ _ j
        unfold kn_up
        rw [hB _ (by omega), hB j hj]
      · intro p hp
        show vs_in G b (b + 12 + k) (br_pl (X (b + 12 + k))) p = _
        rw [vs_in_off (by omega) (by omega) (by omega), Goff p (by omega)]
    · rw [if_neg hv, if_neg hv]
      refine ⟨rfl, Grl, ?_, ?_⟩
      · intro j hj
        show G (b + 11) j = B j
        rw [Goff _ (by omega)]
        exact hB j hj
      · intro p hp
        exact Goff p (by omega)
theorem vs_go_rl {b : Nat} : ∀ (n i : Nat) (m : Int32) (X : ka_X) (D B : Nat → Int32), rl b X D → dk D → (∀ j, j < 8 → X (b + 11) j = B j) → i + n ≤ (D 9).toInt.toNat → (vs_go b n i m X).1 = (vd_go n i m D B).1 ∧ rl b (vs_go b n i m X).2 (vd_go n i m D B).2 ∧ ∀ p, (p < b ∨ b + 20 ≤ p) → (vs_go b n i m X).2 p = X p := by
  intro n
  induction n with
  | zero => intro i m X D B h _ _ _; exact ⟨rfl, h, fun _ _ => rfl⟩
  | succ n ih =>
    intro i m X D B h hD hB hi
    have hk : i < (D 9).toInt.toNat := by omega
    obtain ⟨g1, g2, g3, g4⟩ := vs_1_rl h hD hB hk
    have k := vd_1_ok (B := B) hD hk
    have e9 : (vd_1 D B i).1 9 = D 9 := k.1 9 (by decide) (by decide) (by decide) (Or.inl (by decide))
    simp only [vs_go, vd_go]
    rw [g1]
    obtain ⟨r1, r2, r3⟩ := ih (i + 1) (m + (vd_1 D B i).2.2) _ _ (vd_1 D B i).2.1 g2 k.2 g3 (by rw [e9]; omega)
    exact ⟨r1, r2, fun p hp => (r3 p hp).trans (g4 p hp)⟩
section
variable {sc : aS} {d : Nat}
theorem ring_rl {b : Nat} (hb : ka_k b = 4) {X : ka_X} {D : Nat → Int32} (h : rl b X D) (hD : dk D) : ∃ Y, ka_ex sc (d + 4) 42 0 [.ref b, ka_nv, ka_nv, ka_nv, ka_nv, ka_nv] [] (ka_mem X) = some (some (.int (vd D).1), ka_mem Y) ∧ rl b Y (vd D).2 ∧ ∀ p, (p < b ∨ b + 20 ≤ p) → Y p = X p := by
  have hz : rl b (vs_z X b) D := by
    refine rl_mk h ch_refl ?_ ?_ ?_
    · unfold rl_s
      rw [vs_z, kn_row_off (by omega : ¬ b = b + 11)]
      exact h.1
    · intro j hj f hf
      rw [vs_z, kn_row_off (by omega)]
      exact h.2.2.1 j hj f hf
    · intro p hp
      rw [vs_z, kn_row_off (by omega)]
  have hB : ∀ j, j < 8 → vs_z X b (b + 11) j = (fun _ => 0 : Nat → Int32) j := by
    intro j hj
    rw [vs_z, kn_row_at]
    unfold kn_zr
    rw [if_pos (by omega)]
  obtain ⟨g1, g2, g3⟩ := vs_go_rl (b := b) (D 9).toInt.toNat 0 0 (vs_z X b) D (fun _ => 0) hz hD hB (by omega)
  have e1 : X b 1 = D 9 := h.1.1
  refine ⟨_, ?_, g2, fun p hp => (g3 p hp).trans (by rw [vs_z, kn_row_off (by omega)])⟩
  rw [sp_42 hb (rl_t_sz h.2.2.2.2.1 hD.2.2.2.2.2.2.2.2.2.2) (by rw [e1]; exact hD.1) (fun j hj => by rw [h.2.1 j hj]; exact (hD.2.2.1 j (by omega)).1), e1, g1]
  rfl
end
