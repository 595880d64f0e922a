/-! a visit, on both sides -/
theorem rl_mk {b : Nat} {X Y : ka_X} {D E : Nat → Int32} (h : rl b X D) (c : ch D E) (hs : rl_s b Y E) (hk : rl_k b Y E) (hY : ∀ p, (p = b + 2 ∨ p = b + 3 ∨ p = b + 4 ∨ p = b + 6 ∨ p = b + 7 ∨ p = b + 9 ∨ p = b + 10) → Y p = X p) : rl b Y E := by
  obtain ⟨-, h2, -, h4, h5, h6, h7⟩ := h
  have hi := ch_hi c
  have e11 : E 11 = D 11 := c 11 (by decide) (by decide) (by decide) (Or.inl (by decide))
  have e12 : E 12 = D 12 := c 12 (by decide) (by decide) (by decide) (Or.inl (by decide))
  refine ⟨hs, fun j hj => ?_, hk, ⟨?_, fun j hj => ?_⟩, ⟨?_, fun j hj => ?_⟩, fun j hj => ?_, fun j hj => ?_⟩
  · rw [hY _ (by omega), c j (by omega) (by omega) (by omega) (Or.inl (by omega))]; exact h2 j hj
  · rw [hY _ (by omega), hi _ (by omega)]; exact h4.1
  · rw [hi _ (by omega)] at hj
    rw [hY _ (by omega), hi _ (by omega)]; exact h4.2 j hj
  · rw [hY _ (by omega), hi _ (by omega)]; exact h5.1
  · rw [hi _ (by omega)] at hj
    rw [hY _ (by omega), hi _ (by omega)]; exact h5.2 j hj
  · rw [e11] at hj
    rw [hY _ (by omega), hi _ (by omega)]; exact h6 j hj
  · rw [e12] at hj
    rw [hY _ (by omega), hi _ (by omega)]; exact h7 j hj
theorem dk_mk {D E : Nat → Int32} (h : dk D) (c : ch D E) (hk : ∀ k, k < (D 9).toInt.toNat → kn_ok (md_kd E k)) (h7 : 0 ≤ (E 7).toInt ∧ (E 7).toInt ≤ 999999) (h8 : 0 ≤ (E 8).toInt) : dk E := by
  obtain ⟨a1, -, a3, a4, a5, -, -, a8, a9, a10, a11⟩ := h
  have cl : ∀ j, j < 13 → ¬ j = 7 → ¬ j = 8 → ¬ j = 10 → E j = D j := fun j h a b e => c j a b e (Or.inl h)
  have e9 : E 9 = D 9 := cl 9 (by decide) (by decide) (by decide) (by decide)
  refine ⟨by rw [e9]; exact a1, by rw [e9]; exact hk, fun j hj => ?_, ?_, ?_, h7, h8, ?_, ?_, gv_ok_ch (ch_hi c) a10, gv_ok_ch (ch_hi c) a11⟩
  · rw [cl j (by omega) (by omega) (by omega) (by omega)]; exact a3 j hj
  · rw [cl 5 (by decide) (by decide) (by decide) (by decide)]; exact a4
  · rw [cl 6 (by decide) (by decide) (by decide) (by decide)]; exact a5
  · rw [cl 11 (by decide) (by decide) (by decide) (by decide)]; exact a8
  · rw [cl 12 (by decide) (by decide) (by decide) (by decide)]; exact a9
theorem md_kd_wk {D x : Nat → Int32} {k j : Nat} (h : ¬ j = k) : md_kd (md_wk D k x) j = fun f => if f < 9 then md_kd D j f else md_wk D k x (13 + 9 * j + f) := by
  funext f
  unfold md_kd
  by_cases hf : f < 9
  · rw [if_pos hf]
    unfold md_wk
    rw [if_neg (by omega)]
  · rw [if_neg hf]
theorem kn_ok_congr {r r2 : Nat → Int32} (h : ∀ f, f < 9 → r2 f = r f) (k : kn_ok r) : kn_ok r2 := by
  unfold kn_ok at k ⊢
  rw [h 0 (by decide), h 1 (by decide), h 2 (by decide), h 3 (by decide), h 4 (by decide), h 5 (by decide), h 6 (by decide), h 7 (by decide), h 8 (by decide)]
  exact k
/-- knives of a row in which one was written -/
theorem kn_ok_wk {D x : Nat → Int32} {k n : Nat} (hD : ∀ j, j < n → kn_ok (md_kd D j)) (hx : kn_ok x) : ∀ j, j < n → kn_ok (md_kd (md_wk D k x) j) := by
  intro j hj
  by_cases e : j = k
  · subst e
    exact kn_ok_congr (fun f hf => md_at hf) hx
  · refine kn_ok_congr (fun f hf => ?_) (hD j hj)
    unfold md_kd md_wk
    rw [if_neg (by omega)]
theorem rl_k_wk {b k : Nat} {X Y : ka_X} {D D2 x y : Nat → Int32} (h : rl_k b X D) (h9 : D2 9 = D 9) (hD : ∀ j, 13 ≤ j → D2 j = D j) (hk : Y (b + 12 + k) = y) (ho : ∀ j, ¬ j = k → j < 8 → Y (b + 12 + j) = X (b + 12 + j)) (hy : ∀ f, f < 9 → y f = x f) (h8 : (D 9).toInt ≤ 8) : rl_k b Y (md_wk D2 k x) := by
  intro j hj f hf
  rw [md_lo (by decide), h9] at hj
  by_cases e : j = k
  · subst e
    rw [hk, md_at hf]
    exact hy f hf
  · rw [ho j e (by omega), h j hj f hf]
    unfold md_wk
    rw [if_neg (by omega), hD _ (by omega)]
def vd_1 (D B : Nat → Int32) (k : Nat) : (Nat → Int32) × (Nat → Int32) × Int32 :=
  if 0 < gv_b D (99 - md_kd D k 3) (B (md_kd D k 2).toNatClampNeg + B ((md_kd D k 2).toNatClampNeg + 2)) (D 5) (md_kd D k 2) then
    (if md_kd D k 0 = 6 then (D, B, 0) else (md_wk (kn_up D 7 (md_ls 999999 (D 7 + D 5))) k (md_rec D (md_kd D k)), kn_up B ((md_kd D k 2).toNatClampNeg + 1) (B ((md_kd D k 2).toNatClampNeg + 1) + 1), 1))
  else (D, B, 0)
def vd_go : Nat → Nat → Int32 → (Nat → Int32) → (Nat → Int32) → Int32 × (Nat → Int32)
  | 0, _, m, D, _ => (m, D)
  | n + 1, i, m, D, B => vd_go n (i + 1) (m + (vd_1 D B i).2.2) (vd_1 D B i).1 (vd_1 D B i).2.1
theorem vd_1_ok {D B : Nat → Int32} {k : Nat} (h : dk D) (hk : k < (D 9).toInt.toNat) : ch D (vd_1 D B k).1 ∧ dk (vd_1 D B k).1 := by
  have hk8 : k < 8 := by have := h.1.2; omega
  unfold vd_1
  split
  · split
    · exact ⟨ch_refl, h⟩
    · have c : ch D (md_wk (kn_up D 7 (md_ls 999999 (D 7 + D 5))) k (md_rec D (md_kd D k))) := ch_trans (ch_up (Or.inl rfl)) (ch_wk hk8)
      dsimp only
      refine ⟨c, dk_mk h c ?_ ?_ ?_⟩
      · have hr := kn_rec_eq (rc := D) (r := md_kd D k) h.2.2.1 (fun _ _ => rfl) (h.2.1 k hk) (fun _ _ => rfl)
        refine kn_ok_wk (fun j hj => ?_) hr.1
        exact kn_ok_congr (fun f hf => by unfold md_kd; exact kn_up_ne (by omega)) (h.2.1 j hj)
      · rw [md_lo (by decide), kn_up_at]
        have h5 := h.2.2.2.1
        have h7 := h.2.2.2.2.2.1
        have e : (D 7 + D 5).toInt = (D 7).toInt + (D 5).toInt := ka_add (by omega)
        unfold md_ls
        simp only [ka_ilt, ka_t_0, ka_t_1, ka_t_2, ka_t_3, ka_t_4, ka_t_5, ka_t_6, ka_t_7, ka_t_8, ka_t_9, ka_t_10, ka_t_11, ka_t_12, ka_t_13, ka_t_14, ka_t_15, ka_t_16, ka_t_17, ka_t_18, ka_t_19, ka_t_20, ka_t_25, ka_t_26, ka_t_28, ka_t_30, ka_t_31, ka_t_32, ka_t_33, ka_t_37, ka_t_38, ka_t_39, ka_t_40, ka_t_41, ka_t_42, ka_t_43, ka_t_45, ka_t_47, ka_t_48, ka_t_50, ka_t_57, ka_t_60, ka_t_61, ka_t_62, ka_t_63, ka_t_64, ka_t_65, ka_t_69, ka_t_70, ka_t_71, ka_t_80, ka_t_85, ka_t_87, ka_t_98, ka_t_99, ka_t_100, ka_t_104, ka_t_107, ka_t_109, ka_t_110, ka_t_112, ka_t_115, ka_t_116, ka_t_117, ka_t_124, ka_t_125, ka_t_160, ka_t_200, ka_t_207, ka_t_255, ka_t_260, ka_t_400, ka_t_624, ka_t_625, ka_t_999, ka_t_9999, ka_t_10000, ka_t_20000, ka_t_20033, ka_t_999999, ka_t_1000000000, ka_t_m1, ka_t_m2, ka_t_m3, ka_t_m5, ka_t_m9, ka_t_m10, ka_t_m1000000000, e]
        split <;> simp only [ka_t_0, ka_t_1, ka_t_2, ka_t_3, ka_t_4, ka_t_5, ka_t_6, ka_t_7, ka_t_8, ka_t_9, ka_t_10, ka_t_11, ka_t_12, ka_t_13, ka_t_14, ka_t_15, ka_t_16, ka_t_17, ka_t_18, ka_t_19, ka_t_20, ka_t_25, ka_t_26, ka_t_28, ka_t_30, ka_t_31, ka_t_32, ka_t_33, ka_t_37, ka_t_38, ka_t_39, ka_t_40, ka_t_41, ka_t_42, ka_t_43, ka_t_45, ka_t_47, ka_t_48, ka_t_50, ka_t_57, ka_t_60, ka_t_61, ka_t_62, ka_t_63, ka_t_64, ka_t_65, ka_t_69, ka_t_70, ka_t_71, ka_t_80, ka_t_85, ka_t_87, ka_t_98, ka_t_99, ka_t_100, ka_t_104, ka_t_107, ka_t_109, ka_t_110, ka_t_112, ka_t_115, ka_t_116, ka_t_117, ka_t_124, ka_t_125, ka_t_160, ka_t_200, ka_t_207, ka_t_255, ka_t_260, ka_t_400, ka_t_624, ka_t_625, ka_t_999, ka_t_9999, ka_t_10000, ka_t_20000, ka_t_20033, ka_t_999999, ka_t_1000000000, ka_t_m1, ka_t_m2, ka_t_m3, ka_t_m5, ka_t_m9, ka_t_m10, ka_t_m1000000000, e] <;> omega
      · rw [md_lo (by decide), kn_up_ne (by decide)]
        exact h.2.2.2.2.2.2.1
  · exact ⟨ch_refl, h⟩
theorem vd_go_ok : ∀ (n i : Nat) (m : Int32) (D B : Nat → Int32), dk D → i + n ≤ (D 9).toInt.toNat → ch D (vd_go n i m D B).2 ∧ dk (vd_go n i m D B).2 := by
  intro n
  induction n with
  | zero => intro i m D B h _; exact ⟨ch_refl, h⟩
  | succ n ih =>
    intro i m D B h hi
    have k := vd_1_ok (B := B) h (show i < (D 9).toInt.toNat by omega)
    have e9 : (vd_1 D B i).1 9 = D 9 := k.1 9 (by decide) (by decide) (by decide) (Or.inl (by decide))
    simp only [vd_go]
    have g := ih (i + 1) (m + (vd_1 D B i).2.2) _ (vd_1 D B i).2.1 k.2 (by rw [e9]; omega)
    exact ⟨ch_trans k.1 g.1, g.2⟩
/-- a visit of the row: how many were brought, the row behind it -/
def vd (D : Nat → Int32) : Int32 × (Nat → Int32) := vd_go (D 9).toInt.toNat 0 0 D (fun _ => 0)
theorem vd_ok {D : Nat → Int32} (h : dk D) : ch D (vd D).2 ∧ dk (vd D).2 := vd_go_ok _ 0 0 D _ h (by omega)
/-- only the brought of houses 0 to 5, and their neighbours, matter -/
theorem vd_go_B : ∀ (n i : Nat) (m : Int32) (D B B2 : Nat → Int32), dk D → i + n ≤ (D 9).toInt.toNat → (∀ j, j < 8 → B j = B2 j) → vd_go n i m D B = vd_go n i m D B2 := by
  intro n
  induction n with
  | zero => intro i m D B B2 _ _ _; rfl
  | succ n ih =>
    intro i m D B B2 h hi hB
    have hk : i < (D 9).toInt.toNat := by omega
    have hh := (h.2.1 i hk).2.2.1
    have hc : (md_kd D i 2).toNatClampNeg ≤ 5 := by rw [ka_nc]; omega
    have k := vd_1_ok (B := B) h hk
    have e9 : (vd_1 D B i).1 9 = D 9 := k.1 9 (by decide) (by decide) (by decide) (Or.inl (by decide))
    have b0 := hB (md_kd D i 2).toNatClampNeg (by omega)
    have b1 := hB ((md_kd D i 2).toNatClampNeg + 1) (by omega)
    have b2 := hB ((md_kd D i 2).toNatClampNeg + 2) (by omega)
    have e1 : (vd_1 D B i).1 = (vd_1 D B2 i).1 ∧ (vd_1 D B i).2.2 = (vd_1 D B2 i).2.2 ∧ ∀ j, j < 8 → (vd_1 D B i).2.1 j = (vd_1 D B2 i).2.1 j := by
      unfold vd_1
      rw [b0, b2]
      split
      · split
        · exact ⟨rfl, rfl, hB⟩
        · refine ⟨rfl, rfl, fun j hj => ?_⟩
          show kn_up B _ _ j = kn_up B2 _ _ j
          unfold kn_up
          rw [b1, hB j hj]
      · exact ⟨rfl, rfl, hB⟩
    simp only [vd_go]
    rw [e1.2.1, ih (i + 1) _ _ _ _ k.2 (by rw [e9]; omega) e1.2.2, e1.1]
section
variable {sc : aS} {d : Nat}
theorem s161 {i : Nat} {X : ka_X} {ii m : Int32} {a3 a4 : Value} (hD : dk (X 88)) (hi : i < (X 88 9).toInt.toNat) (hii : ii.toInt = i) : ∃ (b3 b4 : Value) (Y : ka_X), ka_ex sc (d + 3) 161 25 [.ref 87, .int m, .int ii, a3, a4] [] (ka_mem X) = ka_ex sc (d + 3) 161 25 [.ref 87, .int (m + (vd_1 (X 88) (X 95) i).2.2), .int (ii + 1), b3, b4] [] (ka_mem Y) ∧ Y 88 = (vd_1 (X 88) (X 95) i).1 ∧ Y 95 = (vd_1 (X 88) (X 95) i).2.1 ∧ ∀ p, ¬ p = 88 → ¬ p = 92 → ¬ p = 94 → ¬ p = 95 → Y p = X p := by
  have hN := hD.1
  have hk : 0 ≤ ii.toInt ∧ ii.toInt < 8 := by omega
  have hc : ii.toNatClampNeg = i := by rw [ka_nc]; omega
  have hh := (hD.2.1 i hi).2.2.1
  have h1 : ii < X 88 9 := by rw [ka_ilt]; omega
  have i9 : ka_in 9 260 := ka_inI.mpr (by decide)
  have i5 : ka_in 5 260 := ka_inI.mpr (by decide)
  have w0 : 0 ≤ (0 : Int32).toInt ∧ (0 : Int32).toInt < 9 := by decide
  have w2 : 0 ≤ (2 : Int32).toInt ∧ (2 : Int32).toInt < 9 := by decide
  have w3 : 0 ≤ (3 : Int32).toInt ∧ (3 : Int32).toInt < 9 := by decide
  generalize hD0 : X 88 = D at *
  have f0 : D (13 + 9 * i + 0) = md_kd D i 0 := rfl
  have f2 : D (13 + 9 * i + 2) = md_kd D i 2 := rfl
  have f3 : D (13 + 9 * i + 3) = md_kd D i 3 := rfl
  have q1 : (md_kd D i 2 + 1).toInt = (md_kd D i 2).toInt + 1 := by rw [ka_add (by simp only [ka_t_0, ka_t_1, ka_t_2, ka_t_3, ka_t_4, ka_t_5, ka_t_6, ka_t_7, ka_t_8, ka_t_9, ka_t_10, ka_t_11, ka_t_12, ka_t_13, ka_t_14, ka_t_15, ka_t_16, ka_t_17, ka_t_18, ka_t_19, ka_t_20, ka_t_25, ka_t_26, ka_t_28, ka_t_30, ka_t_31, ka_t_32, ka_t_33, ka_t_37, ka_t_38, ka_t_39, ka_t_40, ka_t_41, ka_t_42, ka_t_43, ka_t_45, ka_t_47, ka_t_48, ka_t_50, ka_t_57, ka_t_60, ka_t_61, ka_t_62, ka_t_63, ka_t_64, ka_t_65, ka_t_69, ka_t_70, ka_t_71, ka_t_80, ka_t_85, ka_t_87, ka_t_98, ka_t_99, ka_t_100, ka_t_104, ka_t_107, ka_t_109, ka_t_110, ka_t_112, ka_t_115, ka_t_116, ka_t_117, ka_t_124, ka_t_125, ka_t_160, ka_t_200, ka_t_207, ka_t_255, ka_t_260, ka_t_400, ka_t_624, ka_t_625, ka_t_999, ka_t_9999, ka_t_10000, ka_t_20000, ka_t_20033, ka_t_999999, ka_t_1000000000, ka_t_m1, ka_t_m2, ka_t_m3, ka_t_m5, ka_t_m9, ka_t_m10, ka_t_m1000000000]; omega)]; simp only [ka_t_0, ka_t_1, ka_t_2, ka_t_3, ka_t_4, ka_t_5, ka_t_6, ka_t_7, ka_t_8, ka_t_9, ka_t_10, ka_t_11, ka_t_12, ka_t_13, ka_t_14, ka_t_15, ka_t_16, ka_t_17, ka_t_18, ka_t_19, ka_t_20, ka_t_25, ka_t_26, ka_t_28, ka_t_30, ka_t_31, ka_t_32, ka_t_33, ka_t_37, ka_t_38, ka_t_39, ka_t_40, ka_t_41, ka_t_42, ka_t_43, ka_t_45, ka_t_47, ka_t_48, ka_t_50, ka_t_57, ka_t_60, ka_t_61, ka_t_62, ka_t_63, ka_t_64, ka_t_65, ka_t_69, ka_t_70, ka_t_71, ka_t_80, ka_t_85, ka_t_87, ka_t_98, ka_t_99, ka_t_100, ka_t_104, ka_t_107, ka_t_109, ka_t_110, ka_t_112, ka_t_115, ka_t_116, ka_t_117, ka_t_124, ka_t_125, ka_t_160, ka_t_200, ka_t_207, ka_t_255, ka_t_260, ka_t_400, ka_t_624, ka_t_625, ka_t_999, ka_t_9999, ka_t_10000, ka_t_20000, ka_t_20033, ka_t_999999, ka_t_1000000000, ka_t_m1, ka_t_m2, ka_t_m3, ka_t_m5, ka_t_m9, ka_t_m10, ka_t_m1000000000]
  have q2 : (md_kd D i 2 + 2).toInt = (md_kd D i 2).toInt + 2 := by rw [ka_add (by simp only [ka_t_0, ka_t_1, ka_t_2, ka_t_3, ka_t_4, ka_t_5, ka_t_6, ka_t_7, ka_t_8, ka_t_9, ka_t_10, ka_t_11, ka_t_12, ka_t_13, ka_t_14, ka_t_15, ka_t_16, ka_t_17, ka_t_18, ka_t_19, ka_t_20, ka_t_25, ka_t_26, ka_t_28, ka_t_30, ka_t_31, ka_t_32, ka_t_33, ka_t_37, ka_t_38, ka_t_39, ka_t_40, ka_t_41, ka_t_42, ka_t_43, ka_t_45, ka_t_47, ka_t_48, ka_t_50, ka_t_57, ka_t_60, ka_t_61, ka_t_62, ka_t_63, ka_t_64, ka_t_65, ka_t_69, ka_t_70, ka_t_71, ka_t_80, ka_t_85, ka_t_87, ka_t_98, ka_t_99, ka_t_100, ka_t_104, ka_t_107, ka_t_109, ka_t_110, ka_t_112, ka_t_115, ka_t_116, ka_t_117, ka_t_124, ka_t_125, ka_t_160, ka_t_200, ka_t_207, ka_t_255, ka_t_260, ka_t_400, ka_t_624, ka_t_625, ka_t_999, ka_t_9999, ka_t_10000, ka_t_20000, ka_t_20033, ka_t_999999, ka_t_1000000000, ka_t_m1, ka_t_m2, ka_t_m3, ka_t_m5, ka_t_m9, ka_t_m10, ka_t_m1000000000]; omega)]; simp only [ka_t_0, ka_t_1, ka_t_2, ka_t_3, ka_t_4, ka_t_5, ka_t_6, ka_t_7, ka_t_8, ka_t_9, ka_t_10, ka_t_11, ka_t_12, ka_t_13, ka_t_14, ka_t_15, ka_t_16, ka_t_17, ka_t_18, ka_t_19, ka_t_20, ka_t_25, ka_t_26, ka_t_28, ka_t_30, ka_t_31, ka_t_32, ka_t_33, ka_t_37, ka_t_38, ka_t_39, ka_t_40, ka_t_41, ka_t_42, ka_t_43, ka_t_45, ka_t_47, ka_t_48, ka_t_50, ka_t_57, ka_t_60, ka_t_61, ka_t_62, ka_t_63, ka_t_64, ka_t_65, ka_t_69, ka_t_70, ka_t_71, ka_t_80, ka_t_85, ka_t_87, ka_t_98, ka_t_99, ka_t_100, ka_t_104, ka_t_107, ka_t_109, ka_t_110, ka_t_112, ka_t_115, ka_t_116, ka_t_117, ka_t_124, ka_t_125, ka_t_160, ka_t_200, ka_t_207, ka_t_255, ka_t_260, ka_t_400, ka_t_624, ka_t_625, ka_t_999, ka_t_9999, ka_t_10000, ka_t_20000, ka_t_20033, ka_t_999999, ka_t_1000000000, ka_t_m1, ka_t_m2, ka_t_m3, ka_t_m5, ka_t_m9, ka_t_m10, ka_t_m1000000000]
  have j0 : ka_in (md_kd D i 2) 8 := ka_inI.mpr (by omega)
  have j1 : ka_in (md_kd D i 2 + 1) 8 := ka_inI.mpr (by rw [q1]; omega)
  have j2 : ka_in (md_kd D i 2 + 2) 8 := ka_inI.mpr (by rw [q2]; omega)
  have c1 : (md_kd D i 2 + 1).toNatClampNeg = (md_kd D i 2).toNatClampNeg + 1 := by rw [ka_nc, ka_nc, q1]; omega
  have c2 : (md_kd D i 2 + 2).toNatClampNeg = (md_kd D i 2).toNatClampNeg + 2 := by rw [ka_nc, ka_nc, q2]; omega
  have okb : gv_ok (X 88) 1 := by rw [hD0]; exact hD.2.2.2.2.2.2.2.2.2.2
  generalize hn : X 95 (md_kd D i 2).toNatClampNeg + X 95 ((md_kd D i 2).toNatClampNeg + 2) = nb
  generalize hG : gv_x X 1 (99 - md_kd D i 3) nb (D 5) (md_kd D i 2) = G
  have G88 : G 88 = D := by rw [← hG, gv_x_off (by decide) (by decide), hD0]
  have G95 : G 95 = X 95 := by rw [← hG, gv_x_off (by decide) (by decide)]
  have Goff : ∀ p, ¬ p = 92 → ¬ p = 94 → G p = X p := by intro p a b; rw [← hG, gv_x_off a b]
  have hF : ka_ex sc (d + 3) 161 25 [.ref 87, .int m, .int ii, a3, a4] [] (ka_mem X) = ka_ex sc (d + 3) 161 83 [.ref 87, .int m, .int ii, .int (md_kd D i 2), .int nb] [.int (gv_b D (99 - md_kd D i 3) nb (D 5) (md_kd D i 2))] (ka_mem G) := by
    rw [x161_25]
    simp only [x161_0, x161_1, x161_2, x161_3, x161_5, x161_8, x161_9, x161_12, x161_13, x161_14, x161_15, x161_18, x161_21, x161_22, x161_23, x161_24, x161_26, x161_27, x161_30, x161_32, x161_33, x161_36, x161_37, x161_38, x161_39, x161_42, x161_43, x161_44, x161_47, x161_48, x161_49, x161_50, x161_53, x161_54, x161_55, x161_56, x161_57, x161_58, x161_60, x161_61, x161_62, x161_64, x161_65, x161_66, x161_67, x161_70, x161_71, x161_73, x161_74, x161_77, x161_78, x161_79, x161_80, x161_86, x161_87, x161_88, x161_89, x161_92, x161_94, x161_97, x161_98, x161_99, x161_102, x161_103, x161_106, x161_107, x161_108, x161_109, x161_110, x161_111, x161_112, x161_113, x161_114, x161_117, x161_120, x161_123, x161_124, ka_kk_i, ka_kk_n, ka_cl_i, ka_cl_r, ka_cl_n, or_true, true_or, ka_ne2, ka_ne4, ka_ne5, ka_ne10, not_false_eq_true, not_true_eq_false, if_true, if_false, ka_k_0, ka_k_1, ka_k_2, ka_k_3, ka_k_4, ka_k_5, ka_k_6, ka_k_7, ka_k_8, ka_k_9, ka_k_10, ka_k_11, ka_k_12, ka_k_13, ka_k_14, ka_k_15, ka_k_16, ka_k_17, ka_k_18, ka_k_19, ka_k_20, ka_k_21, ka_k_22, ka_k_23, ka_k_24, ka_k_25, ka_k_26, ka_k_27, ka_k_28, ka_k_29, ka_k_30, ka_k_31, ka_k_32, ka_k_33, ka_k_34, ka_k_35, ka_k_36, ka_k_37, ka_k_38, ka_k_39, ka_k_40, ka_k_41, ka_k_42, ka_k_43, ka_k_44, ka_k_45, ka_k_46, ka_k_47, ka_k_48, ka_k_49, ka_k_50, ka_k_51, ka_k_52, ka_k_53, ka_k_54, ka_k_55, ka_k_56, ka_k_57, ka_k_58, ka_k_59, ka_k_60, ka_k_61, ka_k_62, ka_k_63, ka_k_64, ka_k_65, ka_k_66, ka_k_67, ka_k_68, ka_k_69, ka_k_70, ka_k_71, ka_k_72, ka_k_73, ka_k_74, ka_k_75, ka_k_76, ka_k_77, ka_k_78, ka_k_79, ka_k_80, ka_k_81, ka_k_82, ka_k_83, ka_k_84, ka_k_85, ka_k_86, ka_k_87, ka_k_88, ka_k_89, ka_k_90, ka_k_91, ka_k_92, ka_k_93, ka_k_94, ka_k_95, ka_k_96, ka_k_97, ka_k_98, ka_k_99, ka_k_100, ka_rf_0_0, ka_rf_0_1, ka_rf_0_2, ka_rf_0_4, ka_rf_0_5, ka_rf_0_6, ka_rf_0_7, ka_rf_0_8, ka_rf_0_9, ka_rf_61_0, ka_rf_61_2, ka_rf_67_0, ka_rf_67_1, ka_rf_67_2, ka_rf_75_0, ka_rf_87_0, ka_rf_87_1, ka_rf_87_2, ka_rf_87_4, ka_rf_87_11, ka_rf_87_12, ka_rf_87_14, ka_rf_87_15, ka_rf_87_16, ka_rf_87_19, ka_rf_87_20, ka_rf_87_21, ka_rf_87_22, ka_ln_63, ka_ln_64, ka_ln_65, ka_ln_68, ka_ln_69, ka_ln_70, ka_ln_76, ka_ln_77, ka_ln_78, ka_ln_80, ka_ln_82, ka_ln_84, ka_ln_86, ka_ln_88, ka_ln_89, ka_ln_90, ka_ln_91, ka_ln_92, ka_ln_93, ka_ln_94, ka_ln_95, ka_ln_96, ka_ln_97, ka_ln_98, ka_ln_99, ka_ln_100, ka_c_0, ka_c_1, ka_c_2, ka_c_3, ka_c_4, ka_c_5, ka_c_6, ka_c_7, ka_c_8, ka_c_9, ka_c_10, ka_c_11, ka_c_12, ka_c_13, ka_c_14, ka_c_15, ka_c_16, ka_c_17, ka_c_18, ka_c_19, ka_c_20, ka_c_28, ka_c_40, ka_c_50, ka_c_87, i9, i5, hD0, h1, sp_122 hk w2, sp_122 hk w3, hc, f2, f3, j0, j2, c2, hn, sp_141b okb, hG]
  rw [hF, x161_83]
  unfold vd_1
  rw [hn]
  by_cases hv : 0 < gv_b D (99 - md_kd D i 3) nb (D 5) (md_kd D i 2)
  · rw [if_pos hv, if_pos hv]
    by_cases h6 : md_kd D i 0 = 6
    · rw [if_pos h6]
      refine ⟨.int (md_kd D i 2), .int nb, G, ?_, G88, G95, fun p _ a b _ => Goff p a b⟩
      rw [x161_86]
      simp only [x161_0, x161_1, x161_2, x161_3, x161_5, x161_8, x161_9, x161_12, x161_13, x161_14, x161_15, x161_18, x161_21, x161_22, x161_23, x161_24, x161_26, x161_27, x161_30, x161_32, x161_33, x161_36, x161_37, x161_38, x161_39, x161_42, x161_43, x161_44, x161_47, x161_48, x161_49, x161_50, x161_53, x161_54, x161_55, x161_56, x161_57, x161_58, x161_60, x161_61, x161_62, x161_64, x161_65, x161_66, x161_67, x161_70, x161_71, x161_73, x161_74, x161_77, x161_78, x161_79, x161_80, x161_87, x161_88, x161_89, x161_92, x161_94, x161_97, x161_98, x161_99, x161_102, x161_103, x161_106, x161_107, x161_108, x161_109, x161_110, x161_111, x161_112, x161_113, x161_114, x161_117, x161_120, x161_123, x161_124, ka_kk_i, ka_kk_n, ka_cl_i, ka_cl_r, ka_cl_n, or_true, true_or, ka_ne2, ka_ne4, ka_ne5, ka_ne10, not_false_eq_true, not_true_eq_false, if_true, if_false, ka_k_0, ka_k_1, ka_k_2, ka_k_3, ka_k_4, ka_k_5, ka_k_6, ka_k_7, ka_k_8, ka_k_9, ka_k_10, ka_k_11, ka_k_12, ka_k_13, ka_k_14, ka_k_15, ka_k_16, ka_k_17, ka_k_18, ka_k_19, ka_k_20, ka_k_21, ka_k_22, ka_k_23, ka_k_24, ka_k_25, ka_k_26, ka_k_27, ka_k_28, ka_k_29, ka_k_30, ka_k_31, ka_k_32, ka_k_33, ka_k_34, ka_k_35, ka_k_36, ka_k_37, ka_k_38, ka_k_39, ka_k_40, ka_k_41, ka_k_42, ka_k_43, ka_k_44, ka_k_45, ka_k_46, ka_k_47, ka_k_48, ka_k_49, ka_k_50, ka_k_51, ka_k_52, ka_k_53, ka_k_54, ka_k_55, ka_k_56, ka_k_57, ka_k_58, ka_k_59, ka_k_60, ka_k_61, ka_k_62, ka_k_63, ka_k_64, ka_k_65, ka_k_66, ka_k_67, ka_k_68, ka_k_69, ka_k_70, ka_k_71, ka_k_72, ka_k_73, ka_k_74, ka_k_75, ka_k_76, ka_k_77, ka_k_78, ka_k_79, ka_k_80, ka_k_81, ka_k_82, ka_k_83, ka_k_84, ka_k_85, ka_k_86, ka_k_87, ka_k_88, ka_k_89, ka_k_90, ka_k_91, ka_k_92, ka_k_93, ka_k_94, ka_k_95, ka_k_96, ka_k_97, ka_k_98, ka_k_99, ka_k_100, sp_122 hk w0, ka_c_0, ka_c_1, ka_c_2, ka_c_3, ka_c_4, ka_c_5, ka_c_6, ka_c_7, ka_c_8, ka_c_9, ka_c_10, ka_c_11, ka_c_12, ka_c_13, ka_c_14, ka_c_15, ka_c_16, ka_c_17, ka_c_18, ka_c_19, ka_c_20, ka_c_28, ka_c_40, ka_c_50, ka_c_87, hc, G88, f0, h6, Int32.add_zero]
    · rw [if_neg h6]
      have hr : ∀ j, j < 4 → 0 ≤ (D j).toInt := fun j hj => (hD.2.2.1 j (by omega)).1
      have hX : G 88 = md_wk D ii.toNatClampNeg (md_kd D ii.toNatClampNeg) := by rw [md_id, G88]
      refine ⟨.int (md_kd D i 2), .int nb, kn_row (kn_row G 88 (md_wk (kn_up D 7 (md_ls 999999 (D 7 + D 5))) i (md_rec D (md_kd D i)))) 95 (kn_up (X 95) ((md_kd D i 2).toNatClampNeg + 1) (X 95 ((md_kd D i 2).toNatClampNeg + 1) + 1)), ?_, ?_, ?_, ?_⟩
      · have e5 : ∀ q : Nat → Int32, kn_row G 88 q 95 = X 95 := fun q => (kn_row_off (by decide)).trans G95
        rw [x161_86]
        simp only [x161_0, x161_1, x161_2, x161_3, x161_5, x161_8, x161_9, x161_12, x161_13, x161_14, x161_15, x161_18, x161_21, x161_22, x161_23, x161_24, x161_26, x161_27, x161_30, x161_32, x161_33, x161_36, x161_37, x161_38, x161_39, x161_42, x161_43, x161_44, x161_47, x161_48, x161_49, x161_50, x161_53, x161_54, x161_55, x161_56, x161_57, x161_58, x161_60, x161_61, x161_62, x161_64, x161_65, x161_66, x161_67, x161_70, x161_71, x161_73, x161_74, x161_77, x161_78, x161_79, x161_80, x161_87, x161_88, x161_89, x161_92, x161_94, x161_97, x161_98, x161_99, x161_102, x161_103, x161_106, x161_107, x161_108, x161_109, x161_110, x161_111, x161_112, x161_113, x161_114, x161_117, x161_120, x161_123, x161_124, ka_kk_i, ka_kk_n, ka_cl_i, ka_cl_r, ka_cl_n, or_true, true_or, ka_ne2, ka_ne4, ka_ne5, ka_ne10, not_false_eq_true, not_true_eq_false, if_true, if_false, ka_k_0, ka_k_1, ka_k_2, ka_k_3, ka_k_4, ka_k_5, ka_k_6, ka_k_7, ka_k_8, ka_k_9, ka_k_10, ka_k_11, ka_k_12, ka_k_13, ka_k_14, ka_k_15, ka_k_16, ka_k_17, ka_k_18, ka_k_19, ka_k_20, ka_k_21, ka_k_22, ka_k_23, ka_k_24, ka_k_25, ka_k_26, ka_k_27, ka_k_28, ka_k_29, ka_k_30, ka_k_31, ka_k_32, ka_k_33, ka_k_34, ka_k_35, ka_k_36, ka_k_37, ka_k_38, ka_k_39, ka_k_40, ka_k_41, ka_k_42, ka_k_43, ka_k_44, ka_k_45, ka_k_46, ka_k_47, ka_k_48, ka_k_49, ka_k_50, ka_k_51, ka_k_52, ka_k_53, ka_k_54, ka_k_55, ka_k_56, ka_k_57, ka_k_58, ka_k_59, ka_k_60, ka_k_61, ka_k_62, ka_k_63, ka_k_64, ka_k_65, ka_k_66, ka_k_67, ka_k_68, ka_k_69, ka_k_70, ka_k_71, ka_k_72, ka_k_73, ka_k_74, ka_k_75, ka_k_76, ka_k_77, ka_k_78, ka_k_79, ka_k_80, ka_k_81, ka_k_82, ka_k_83, ka_k_84, ka_k_85, ka_k_86, ka_k_87, ka_k_88, ka_k_89, ka_k_90, ka_k_91, ka_k_92, ka_k_93, ka_k_94, ka_k_95, ka_k_96, ka_k_97, ka_k_98, ka_k_99, ka_k_100, ka_rf_0_0, ka_rf_0_1, ka_rf_0_2, ka_rf_0_4, ka_rf_0_5, ka_rf_0_6, ka_rf_0_7, ka_rf_0_8, ka_rf_0_9, ka_rf_61_0, ka_rf_61_2, ka_rf_67_0, ka_rf_67_1, ka_rf_67_2, ka_rf_75_0, ka_rf_87_0, ka_rf_87_1, ka_rf_87_2, ka_rf_87_4, ka_rf_87_11, ka_rf_87_12, ka_rf_87_14, ka_rf_87_15, ka_rf_87_16, ka_rf_87_19, ka_rf_87_20, ka_rf_87_21, ka_rf_87_22, ka_ln_63, ka_ln_64, ka_ln_65, ka_ln_68, ka_ln_69, ka_ln_70, ka_ln_76, ka_ln_77, ka_ln_78, ka_ln_80, ka_ln_82, ka_ln_84, ka_ln_86, ka_ln_88, ka_ln_89, ka_ln_90, ka_ln_91, ka_ln_92, ka_ln_93, ka_ln_94, ka_ln_95, ka_ln_96, ka_ln_97, ka_ln_98, ka_ln_99, ka_ln_100, sp_122 hk w0, ka_c_0, ka_c_1, ka_c_2, ka_c_3, ka_c_4, ka_c_5, ka_c_6, ka_c_7, ka_c_8, ka_c_9, ka_c_10, ka_c_11, ka_c_12, ka_c_13, ka_c_14, ka_c_15, ka_c_16, ka_c_17, ka_c_18, ka_c_19, ka_c_20, ka_c_28, ka_c_40, ka_c_50, ka_c_87, hc, G88, f0, h6, sp_160 hk hr hX, j1, c1, e5, kn_put_r]
      · rw [kn_row_off (by decide), kn_row_at]
      · rw [kn_row_at]
      · intro p a b c e
        rw [kn_row_off e, kn_row_off a, Goff p b c]
  · rw [if_neg hv, if_neg hv]
    refine ⟨.int (md_kd D i 2), .int nb, G, ?_, G88, G95, fun p _ a b _ => Goff p a b⟩
    simp only [x161_117, x161_120, ka_kk_i, ka_kk_n, ka_cl_i, ka_cl_r, ka_cl_n, or_true, true_or, ka_ne2, ka_ne4, ka_ne5, ka_ne10, not_false_eq_true, not_true_eq_false, if_true, if_false, Int32.add_zero]
theorem sp_161l : ∀ (n i : Nat) (m ii : Int32) (X : ka_X) (a3 a4 : Value), dk (X 88) → (X 88 9).toInt = i + n → ii.toInt = i → ∃ Y, ka_ex sc (d + 3) 161 25 [.ref 87, .int m, .int ii, a3, a4] [] (ka_mem X) = some (some (.int (vd_go n i m (X 88) (X 95)).1), ka_mem Y) ∧ Y 88 = (vd_go n i m (X 88) (X 95)).2 ∧ ∀ p, ¬ p = 88 → ¬ p = 92 → ¬ p = 94 → ¬ p = 95 → Y p = X p := by
  intro n
  induction n with
  | zero =>
    intro i m ii X a3 a4 hD hN hii
    have h1 : ¬ ii < X 88 9 := by rw [ka_ilt]; omega
    have i9 : ka_in 9 260 := ka_inI.mpr (by decide)
    refine ⟨X, ?_, rfl, fun _ _ _ _ _ => rfl⟩
    rw [x161_25]
    simp only [x161_0, x161_1, x161_2, x161_3, x161_5, x161_8, x161_9, x161_12, x161_13, x161_14, x161_15, x161_18, x161_21, x161_22, x161_23, x161_24, x161_26, x161_27, x161_30, x161_32, x161_33, x161_36, x161_37, x161_38, x161_39, x161_42, x161_43, x161_44, x161_47, x161_48, x161_49, x161_50, x161_53, x161_54, x161_55, x161_56, x161_57, x161_58, x161_60, x161_61, x161_62, x161_64, x161_65, x161_66, x161_67, x161_70, x161_71, x161_73, x161_74, x161_77, x161_78, x161_79, x161_80, x161_83, x161_86, x161_87, x161_88, x161_89, x161_92, x161_94, x161_97, x161_98, x161_99, x161_102, x161_103, x161_106, x161_107, x161_108, x161_109, x161_110, x161_111, x161_112, x161_113, x161_114, x161_117, x161_120, x161_123, x161_124, ka_kk_i, ka_kk_n, ka_cl_i, ka_cl_r, ka_cl_n, or_true, true_or, ka_ne2, ka_ne4, ka_ne5, ka_ne10, not_false_eq_true, not_true_eq_false, if_true, if_false, ka_k_0, ka_k_1, ka_k_2, ka_k_3, ka_k_4, ka_k_5, ka_k_6, ka_k_7, ka_k_8, ka_k_9, ka_k_10, ka_k_11, ka_k_12, ka_k_13, ka_k_14, ka_k_15, ka_k_16, ka_k_17, ka_k_18, ka_k_19, ka_k_20, ka_k_21, ka_k_22, ka_k_23, ka_k_24, ka_k_25, ka_k_26, ka_k_27, ka_k_28, ka_k_29, ka_k_30, ka_k_31, ka_k_32, ka_k_33, ka_k_34, ka_k_35, ka_k_36, ka_k_37, ka_k_38, ka_k_39, ka_k_40, ka_k_41, ka_k_42, ka_k_43, ka_k_44, ka_k_45, ka_k_46, ka_k_47, ka_k_48, ka_k_49, ka_k_50, ka_k_51, ka_k_52, ka_k_53, ka_k_54, ka_k_55, ka_k_56, ka_k_57, ka_k_58, ka_k_59, ka_k_60, ka_k_61, ka_k_62, ka_k_63, ka_k_64, ka_k_65, ka_k_66, ka_k_67, ka_k_68, ka_k_69, ka_k_70, ka_k_71, ka_k_72, ka_k_73, ka_k_74, ka_k_75, ka_k_76, ka_k_77, ka_k_78, ka_k_79, ka_k_80, ka_k_81, ka_k_82, ka_k_83, ka_k_84, ka_k_85, ka_k_86, ka_k_87, ka_k_88, ka_k_89, ka_k_90, ka_k_91, ka_k_92, ka_k_93, ka_k_94, ka_k_95, ka_k_96, ka_k_97, ka_k_98, ka_k_99, ka_k_100, ka_rf_0_0, ka_rf_0_1, ka_rf_0_2, ka_rf_0_4, ka_rf_0_5, ka_rf_0_6, ka_rf_0_7, ka_rf_0_8, ka_rf_0_9, ka_rf_61_0, ka_rf_61_2, ka_rf_67_0, ka_rf_67_1, ka_rf_67_2, ka_rf_75_0, ka_rf_87_0, ka_rf_87_1, ka_rf_87_2, ka_rf_87_4, ka_rf_87_11, ka_rf_87_12, ka_rf_87_14, ka_rf_87_15, ka_rf_87_16, ka_rf_87_19, ka_rf_87_20, ka_rf_87_21, ka_rf_87_22, ka_ln_63, ka_ln_64, ka_ln_65, ka_ln_68, ka_ln_69, ka_ln_70, ka_ln_76, ka_ln_77, ka_ln_78, ka_ln_80, ka_ln_82, ka_ln_84, ka_ln_86, ka_ln_88, ka_ln_89, ka_ln_90, ka_ln_91, ka_ln_92, ka_ln_93, ka_ln_94, ka_ln_95, ka_ln_96, ka_ln_97, ka_ln_98, ka_ln_99, ka_ln_100, ka_c_0, ka_c_1, ka_c_2, ka_c_3, ka_c_4, ka_c_5, ka_c_6, ka_c_7, ka_c_8, ka_c_9, ka_c_10, ka_c_11, ka_c_12, ka_c_13, ka_c_14, ka_c_15, ka_c_16, ka_c_17, ka_c_18, ka_c_19, ka_c_20, ka_c_28, ka_c_40, ka_c_50, ka_c_87, i9, h1, vd_go]
  | succ n ih =>
    intro i m ii X a3 a4 hD hN hii
    have hN8 := hD.1
    have hi : i < (X 88 9).toInt.toNat := by omega
    obtain ⟨b3, b4, Y, hs, h88, h95, hoff⟩ := @s161 sc d i X ii m a3 a4 hD hi hii
    have hi1 : (ii + 1).toInt = ((i + 1 : Nat) : Int) := by rw [ka_add (by simp only [ka_t_0, ka_t_1, ka_t_2, ka_t_3, ka_t_4, ka_t_5, ka_t_6, ka_t_7, ka_t_8, ka_t_9, ka_t_10, ka_t_11, ka_t_12, ka_t_13, ka_t_14, ka_t_15, ka_t_16, ka_t_17, ka_t_18, ka_t_19, ka_t_20, ka_t_25, ka_t_26, ka_t_28, ka_t_30, ka_t_31, ka_t_32, ka_t_33, ka_t_37, ka_t_38, ka_t_39, ka_t_40, ka_t_41, ka_t_42, ka_t_43, ka_t_45, ka_t_47, ka_t_48, ka_t_50, ka_t_57, ka_t_60, ka_t_61, ka_t_62, ka_t_63, ka_t_64, ka_t_65, ka_t_69, ka_t_70, ka_t_71, ka_t_80, ka_t_85, ka_t_87, ka_t_98, ka_t_99, ka_t_100, ka_t_104, ka_t_107, ka_t_109, ka_t_110, ka_t_112, ka_t_115, ka_t_116, ka_t_117, ka_t_124, ka_t_125, ka_t_160, ka_t_200, ka_t_207, ka_t_255, ka_t_260, ka_t_400, ka_t_624, ka_t_625, ka_t_999, ka_t_9999, ka_t_10000, ka_t_20000, ka_t_20033, ka_t_999999, ka_t_1000000000, ka_t_m1, ka_t_m2, ka_t_m3, ka_t_m5, ka_t_m9, ka_t_m10, ka_t_m1000000000]; omega)]; simp only [ka_t_0, ka_t_1, ka_t_2, ka_t_3, ka_t_4, ka_t_5, ka_t_6, ka_t_7, ka_t_8, ka_t_9, ka_t_10, ka_t_11, ka_t_12, ka_t_13, ka_t_14, ka_t_15, ka_t_16, ka_t_17, ka_t_18, ka_t_19, ka_t_20, ka_t_25, ka_t_26, ka_t_28, ka_t_30, ka_t_31, ka_t_32, ka_t_33, ka_t_37, ka_t_38, ka_t_39, ka_t_40, ka_t_41, ka_t_42, ka_t_43, ka_t_45, ka_t_47, ka_t_48, ka_t_50, ka_t_57, ka_t_60, ka_t_61, ka_t_62, ka_t_63, ka_t_64, ka_t_65, ka_t_69, ka_t_70, ka_t_71, ka_t_80, ka_t_85, ka_t_87, ka_t_98, ka_t_99, ka_t_100, ka_t_104, ka_t_107, ka_t_109, ka_t_110, ka_t_112, ka_t_115, ka_t_116, ka_t_117, ka_t_124, ka_t_125, ka_t_160, ka_t_200, ka_t_207, ka_t_255, ka_t_260, ka_t_400, ka_t_624, ka_t_625, ka_t_999, ka_t_9999, ka_t_10000, ka_t_20000, ka_t_20033, ka_t_999999, ka_t_1000000000, ka_t_m1, ka_t_m2, ka_t_m3, ka_t_m5, ka_t_m9, ka_t_m10, ka_t_m1000000000]; omega
    have k := vd_1_ok (B := X 95) hD hi
    have e9 : (vd_1 (X 88) (X 95) i).1 9 = X 88 9 := k.1 9 (by decide) (by decide) (by decide) (Or.inl (by decide))
    obtain ⟨Z, hz, z88, zoff⟩ := ih (i + 1) (m + (vd_1 (X 88) (X 95) i).2.2) (ii + 1) Y b3 b4 (by rw [h88]; exact k.2) (by rw [h88, e9]; omega) hi1
    rw [h88, h95] at hz z88
    refine ⟨Z, ?_, ?_, fun p a b c e => (zoff p a b c e).trans (hoff p a b c e)⟩
    · rw [hs, hz]; simp only [vd_go]
    · rw [z88]; simp only [vd_go]
theorem sp_161z : ∀ (n i : Nat) (ii : Int32) (X : ka_X), i + n = 8 → ii.toInt = i → ka_ex sc d 161 2 [.ref 87, .int ii, ka_nv, ka_nv, ka_nv] [] (ka_mem X) = ka_ex sc d 161 21 [.ref 87, .int 8, ka_nv, ka_nv, ka_nv] [] (ka_mem (kn_row X 95 (kn_zr 8 i (X 95)))) := by
  intro n
  induction n with
  | zero =>
    intro i ii X hi hii
    have h8 : ii = 8 := ka_eq_lit (by simp only [ka_t_0, ka_t_1, ka_t_2, ka_t_3, ka_t_4, ka_t_5, ka_t_6, ka_t_7, ka_t_8, ka_t_9, ka_t_10, ka_t_11, ka_t_12, ka_t_13, ka_t_14, ka_t_15, ka_t_16, ka_t_17, ka_t_18, ka_t_19, ka_t_20, ka_t_25, ka_t_26, ka_t_28, ka_t_30, ka_t_31, ka_t_32, ka_t_33, ka_t_37, ka_t_38, ka_t_39, ka_t_40, ka_t_41, ka_t_42, ka_t_43, ka_t_45, ka_t_47, ka_t_48, ka_t_50, ka_t_57, ka_t_60, ka_t_61, ka_t_62, ka_t_63, ka_t_64, ka_t_65, ka_t_69, ka_t_70, ka_t_71, ka_t_80, ka_t_85, ka_t_87, ka_t_98, ka_t_99, ka_t_100, ka_t_104, ka_t_107, ka_t_109, ka_t_110, ka_t_112, ka_t_115, ka_t_116, ka_t_117, ka_t_124, ka_t_125, ka_t_160, ka_t_200, ka_t_207, ka_t_255, ka_t_260, ka_t_400, ka_t_624, ka_t_625, ka_t_999, ka_t_9999, ka_t_10000, ka_t_20000, ka_t_20033, ka_t_999999, ka_t_1000000000, ka_t_m1, ka_t_m2, ka_t_m3, ka_t_m5, ka_t_m9, ka_t_m10, ka_t_m1000000000]; omega)
    have hi8 : i = 8 := by omega
    subst hi8
    subst h8
    have h1 : ¬ (8 : Int32) < 8 := by decide
    rw [x161_2]
    simp only [x161_0, x161_1, x161_3, x161_5, x161_8, x161_9, x161_12, x161_13, x161_14, x161_15, x161_18, x161_22, x161_23, x161_24, x161_25, x161_26, x161_27, x161_30, x161_32, x161_33, x161_36, x161_37, x161_38, x161_39, x161_42, x161_43, x161_44, x161_47, x161_48, x161_49, x161_50, x161_53, x161_54, x161_55, x161_56, x161_57, x161_58, x161_60, x161_61, x161_62, x161_64, x161_65, x161_66, x161_67, x161_70, x161_71, x161_73, x161_74, x161_77, x161_78, x161_79, x161_80, x161_83, x161_86, x161_87, x161_88, x161_89, x161_92, x161_94, x161_97, x161_98, x161_99, x161_102, x161_103, x161_106, x161_107, x161_108, x161_109, x161_110, x161_111, x161_112, x161_113, x161_114, x161_117, x161_120, x161_123, x161_124, ka_kk_i, ka_kk_n, ka_cl_i, ka_cl_r, ka_cl_n, or_true, true_or, ka_ne2, ka_ne4, ka_ne5, ka_ne10, not_false_eq_true, not_true_eq_false, if_true, if_false, h1, kn_zr_no, kn_row_self]
  | succ n ih =>
    intro i ii X hi hii
    have h1 : ii < 8 := by rw [ka_ilt]; simp only [ka_t_0, ka_t_1, ka_t_2, ka_t_3, ka_t_4, ka_t_5, ka_t_6, ka_t_7, ka_t_8, ka_t_9, ka_t_10, ka_t_11, ka_t_12, ka_t_13, ka_t_14, ka_t_15, ka_t_16, ka_t_17, ka_t_18, ka_t_19, ka_t_20, ka_t_25, ka_t_26, ka_t_28, ka_t_30, ka_t_31, ka_t_32, ka_t_33, ka_t_37, ka_t_38, ka_t_39, ka_t_40, ka_t_41, ka_t_42, ka_t_43, ka_t_45, ka_t_47, ka_t_48, ka_t_50, ka_t_57, ka_t_60, ka_t_61, ka_t_62, ka_t_63, ka_t_64, ka_t_65, ka_t_69, ka_t_70, ka_t_71, ka_t_80, ka_t_85, ka_t_87, ka_t_98, ka_t_99, ka_t_100, ka_t_104, ka_t_107, ka_t_109, ka_t_110, ka_t_112, ka_t_115, ka_t_116, ka_t_117, ka_t_124, ka_t_125, ka_t_160, ka_t_200, ka_t_207, ka_t_255, ka_t_260, ka_t_400, ka_t_624, ka_t_625, ka_t_999, ka_t_9999, ka_t_10000, ka_t_20000, ka_t_20033, ka_t_999999, ka_t_1000000000, ka_t_m1, ka_t_m2, ka_t_m3, ka_t_m5, ka_t_m9, ka_t_m10, ka_t_m1000000000]; omega
    have hin : ka_in ii 8 := ka_inI.mpr (by omega)
    have hc : ii.toNatClampNeg = i := by rw [ka_nc]; omega
    have hi1 : (ii + 1).toInt = ((i + 1 : Nat) : Int) := by rw [ka_add (by simp only [ka_t_0, ka_t_1, ka_t_2, ka_t_3, ka_t_4, ka_t_5, ka_t_6, ka_t_7, ka_t_8, ka_t_9, ka_t_10, ka_t_11, ka_t_12, ka_t_13, ka_t_14, ka_t_15, ka_t_16, ka_t_17, ka_t_18, ka_t_19, ka_t_20, ka_t_25, ka_t_26, ka_t_28, ka_t_30, ka_t_31, ka_t_32, ka_t_33, ka_t_37, ka_t_38, ka_t_39, ka_t_40, ka_t_41, ka_t_42, ka_t_43, ka_t_45, ka_t_47, ka_t_48, ka_t_50, ka_t_57, ka_t_60, ka_t_61, ka_t_62, ka_t_63, ka_t_64, ka_t_65, ka_t_69, ka_t_70, ka_t_71, ka_t_80, ka_t_85, ka_t_87, ka_t_98, ka_t_99, ka_t_100, ka_t_104, ka_t_107, ka_t_109, ka_t_110, ka_t_112, ka_t_115, ka_t_116, ka_t_117, ka_t_124, ka_t_125, ka_t_160, ka_t_200, ka_t_207, ka_t_255, ka_t_260, ka_t_400, ka_t_624, ka_t_625, ka_t_999, ka_t_9999, ka_t_10000, ka_t_20000, ka_t_20033, ka_t_999999, ka_t_1000000000, ka_t_m1, ka_t_m2, ka_t_m3, ka_t_m5, ka_t_m9, ka_t_m10, ka_t_m1000000000]; omega)]; simp only [ka_t_0, ka_t_1, ka_t_2, ka_t_3, ka_t_4, ka_t_5, ka_t_6, ka_t_7, ka_t_8, ka_t_9, ka_t_10, ka_t_11, ka_t_12, ka_t_13, ka_t_14, ka_t_15, ka_t_16, ka_t_17, ka_t_18, ka_t_19, ka_t_20, ka_t_25, ka_t_26, ka_t_28, ka_t_30, ka_t_31, ka_t_32, ka_t_33, ka_t_37, ka_t_38, ka_t_39, ka_t_40, ka_t_41, ka_t_42, ka_t_43, ka_t_45, ka_t_47, ka_t_48, ka_t_50, ka_t_57, ka_t_60, ka_t_61, ka_t_62, ka_t_63, ka_t_64, ka_t_65, ka_t_69, ka_t_70, ka_t_71, ka_t_80, ka_t_85, ka_t_87, ka_t_98, ka_t_99, ka_t_100, ka_t_104, ka_t_107, ka_t_109, ka_t_110, ka_t_112, ka_t_115, ka_t_116, ka_t_117, ka_t_124, ka_t_125, ka_t_160, ka_t_200, ka_t_207, ka_t_255, ka_t_260, ka_t_400, ka_t_624, ka_t_625, ka_t_999, ka_t_9999, ka_t_10000, ka_t_20000, ka_t_20033, ka_t_999999, ka_t_1000000000, ka_t_m1, ka_t_m2, ka_t_m3, ka_t_m5, ka_t_m9, ka_t_m10, ka_t_m1000000000]; omega
    rw [x161_2]
    simp only [x161_0, x161_1, x161_3, x161_5, x161_8, x161_9, x161_12, x161_13, x161_14, x161_15, x161_18, x161_22, x161_23, x161_24, x161_25, x161_26, x161_27, x161_30, x161_32, x161_33, x161_36, x161_37, x161_38, x161_39, x161_42, x161_43, x161_44, x161_47, x161_48, x161_49, x161_50, x161_53, x161_54, x161_55, x161_56, x161_57, x161_58, x161_60, x161_61, x161_62, x161_64, x161_65, x161_66, x161_67, x161_70, x161_71, x161_73, x161_74, x161_77, x161_78, x161_79, x161_80, x161_83, x161_86, x161_87, x161_88, x161_89, x161_92, x161_94, x161_97, x161_98, x161_99, x161_102, x161_103, x161_106, x161_107, x161_108, x161_109, x161_110, x161_111, x161_112, x161_113, x161_114, x161_117, x161_120, x161_123, x161_124, ka_kk_i, ka_kk_n, ka_cl_i, ka_cl_r, ka_cl_n, or_true, true_or, ka_ne2, ka_ne4, ka_ne5, ka_ne10, not_false_eq_true, not_true_eq_false, if_true, if_false, ka_k_0, ka_k_1, ka_k_2, ka_k_3, ka_k_4, ka_k_5, ka_k_6, ka_k_7, ka_k_8, ka_k_9, ka_k_10, ka_k_11, ka_k_12, ka_k_13, ka_k_14, ka_k_15, ka_k_16, ka_k_17, ka_k_18, ka_k_19, ka_k_20, ka_k_21, ka_k_22, ka_k_23, ka_k_24, ka_k_25, ka_k_26, ka_k_27, ka_k_28, ka_k_29, ka_k_30, ka_k_31, ka_k_32, ka_k_33, ka_k_34, ka_k_35, ka_k_36, ka_k_37, ka_k_38, ka_k_39, ka_k_40, ka_k_41, ka_k_42, ka_k_43, ka_k_44, ka_k_45, ka_k_46, ka_k_47, ka_k_48, ka_k_49, ka_k_50, ka_k_51, ka_k_52, ka_k_53, ka_k_54, ka_k_55, ka_k_56, ka_k_57, ka_k_58, ka_k_59, ka_k_60, ka_k_61, ka_k_62, ka_k_63, ka_k_64, ka_k_65, ka_k_66, ka_k_67, ka_k_68, ka_k_69, ka_k_70, ka_k_71, ka_k_72, ka_k_73, ka_k_74, ka_k_75, ka_k_76, ka_k_77, ka_k_78, ka_k_79, ka_k_80, ka_k_81, ka_k_82, ka_k_83, ka_k_84, ka_k_85, ka_k_86, ka_k_87, ka_k_88, ka_k_89, ka_k_90, ka_k_91, ka_k_92, ka_k_93, ka_k_94, ka_k_95, ka_k_96, ka_k_97, ka_k_98, ka_k_99, ka_k_100, ka_rf_0_0, ka_rf_0_1, ka_rf_0_2, ka_rf_0_4, ka_rf_0_5, ka_rf_0_6, ka_rf_0_7, ka_rf_0_8, ka_rf_0_9, ka_rf_61_0, ka_rf_61_2, ka_rf_67_0, ka_rf_67_1, ka_rf_67_2, ka_rf_75_0, ka_rf_87_0, ka_rf_87_1, ka_rf_87_2, ka_rf_87_4, ka_rf_87_11, ka_rf_87_12, ka_rf_87_14, ka_rf_87_15, ka_rf_87_16, ka_rf_87_19, ka_rf_87_20, ka_rf_87_21, ka_rf_87_22, ka_ln_63, ka_ln_64, ka_ln_65, ka_ln_68, ka_ln_69, ka_ln_70, ka_ln_76, ka_ln_77, ka_ln_78, ka_ln_80, ka_ln_82, ka_ln_84, ka_ln_86, ka_ln_88, ka_ln_89, ka_ln_90, ka_ln_91, ka_ln_92, ka_ln_93, ka_ln_94, ka_ln_95, ka_ln_96, ka_ln_97, ka_ln_98, ka_ln_99, ka_ln_100, h1, hin, hc, kn_put_r]
    rw [ih (i + 1) _ _ (by omega) hi1, kn_row_row, kn_row_at, kn_zr_up (by omega)]
theorem sp_161 {X : ka_X} (hD : dk (X 88)) : ∃ Y, ka_ex sc (d + 3) 161 0 [.ref 87, ka_nv, ka_nv, ka_nv, ka_nv] [] (ka_mem X) = some (some (.int (vd (X 88)).1), ka_mem Y) ∧ Y 88 = (vd (X 88)).2 ∧ ∀ p, ¬ p = 88 → ¬ p = 92 → ¬ p = 94 → ¬ p = 95 → Y p = X p := by
  have hN := hD.1
  have e8 : kn_row X 95 (kn_zr 8 0 (X 95)) 88 = X 88 := kn_row_off (by decide)
  obtain ⟨Y, hY, h88, hoff⟩ := @sp_161l sc d (X 88 9).toInt.toNat 0 0 0 (kn_row X 95 (kn_zr 8 0 (X 95))) ka_nv ka_nv (by rw [e8]; exact hD) (by rw [e8]; omega) rfl
  rw [e8, kn_row_at] at hY h88
  have eB := vd_go_B (X 88 9).toInt.toNat 0 0 (X 88) (kn_zr 8 0 (X 95)) (fun _ => 0) hD (by omega) (fun j hj => by unfold kn_zr; rw [if_pos (by omega)])
  rw [eB] at hY h88
  refine ⟨Y, ?_, h88, fun p a b c e => (hoff p a b c e).trans (kn_row_off e)⟩
  rw [x161_0, x161_1, ka_cl_r, sp_161z 8 0 0 X rfl rfl, x161_21, x161_22, x161_23, x161_24, ka_cl_r, ka_cl_i]
  exact hY
end
