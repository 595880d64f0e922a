/-! the skeleton by number -/
theorem ka_k_0 : ka_k 0 = 7 := by decide +kernel
theorem ka_k_1 : ka_k 1 = 4 := by decide +kernel
theorem ka_k_2 : ka_k 2 = 60 := by decide +kernel
theorem ka_k_3 : ka_k 3 = 50 := by decide +kernel
theorem ka_k_4 : ka_k 4 = 5 := by decide +kernel
theorem ka_k_5 : ka_k 5 = 50 := by decide +kernel
theorem ka_k_6 : ka_k 6 = 50 := by decide +kernel
theorem ka_k_7 : ka_k 7 = 5 := by decide +kernel
theorem ka_k_8 : ka_k 8 = 50 := by decide +kernel
theorem ka_k_9 : ka_k 9 = 50 := by decide +kernel
theorem ka_k_10 : ka_k 10 = 50 := by decide +kernel
theorem ka_k_11 : ka_k 11 = 50 := by decide +kernel
theorem ka_k_12 : ka_k 12 = 50 := by decide +kernel
theorem ka_k_13 : ka_k 13 = 0 := by decide +kernel
theorem ka_k_14 : ka_k 14 = 0 := by decide +kernel
theorem ka_k_15 : ka_k 15 = 0 := by decide +kernel
theorem ka_k_16 : ka_k 16 = 0 := by decide +kernel
theorem ka_k_17 : ka_k 17 = 0 := by decide +kernel
theorem ka_k_18 : ka_k 18 = 0 := by decide +kernel
theorem ka_k_19 : ka_k 19 = 0 := by decide +kernel
theorem ka_k_20 : ka_k 20 = 0 := by decide +kernel
theorem ka_k_21 : ka_k 21 = 4 := by decide +kernel
theorem ka_k_22 : ka_k 22 = 60 := by decide +kernel
theorem ka_k_23 : ka_k 23 = 50 := by decide +kernel
theorem ka_k_24 : ka_k 24 = 5 := by decide +kernel
theorem ka_k_25 : ka_k 25 = 50 := by decide +kernel
theorem ka_k_26 : ka_k 26 = 50 := by decide +kernel
theorem ka_k_27 : ka_k 27 = 5 := by decide +kernel
theorem ka_k_28 : ka_k 28 = 50 := by decide +kernel
theorem ka_k_29 : ka_k 29 = 50 := by decide +kernel
theorem ka_k_30 : ka_k 30 = 50 := by decide +kernel
theorem ka_k_31 : ka_k 31 = 50 := by decide +kernel
theorem ka_k_32 : ka_k 32 = 50 := by decide +kernel
theorem ka_k_33 : ka_k 33 = 0 := by decide +kernel
theorem ka_k_34 : ka_k 34 = 0 := by decide +kernel
theorem ka_k_35 : ka_k 35 = 0 := by decide +kernel
theorem ka_k_36 : ka_k 36 = 0 := by decide +kernel
theorem ka_k_37 : ka_k 37 = 0 := by decide +kernel
theorem ka_k_38 : ka_k 38 = 0 := by decide +kernel
theorem ka_k_39 : ka_k 39 = 0 := by decide +kernel
theorem ka_k_40 : ka_k 40 = 0 := by decide +kernel
theorem ka_k_41 : ka_k 41 = 4 := by decide +kernel
theorem ka_k_42 : ka_k 42 = 60 := by decide +kernel
theorem ka_k_43 : ka_k 43 = 50 := by decide +kernel
theorem ka_k_44 : ka_k 44 = 5 := by decide +kernel
theorem ka_k_45 : ka_k 45 = 50 := by decide +kernel
theorem ka_k_46 : ka_k 46 = 50 := by decide +kernel
theorem ka_k_47 : ka_k 47 = 5 := by decide +kernel
theorem ka_k_48 : ka_k 48 = 50 := by decide +kernel
theorem ka_k_49 : ka_k 49 = 50 := by decide +kernel
theorem ka_k_50 : ka_k 50 = 50 := by decide +kernel
theorem ka_k_51 : ka_k 51 = 50 := by decide +kernel
theorem ka_k_52 : ka_k 52 = 50 := by decide +kernel
theorem ka_k_53 : ka_k 53 = 0 := by decide +kernel
theorem ka_k_54 : ka_k 54 = 0 := by decide +kernel
theorem ka_k_55 : ka_k 55 = 0 := by decide +kernel
theorem ka_k_56 : ka_k 56 = 0 := by decide +kernel
theorem ka_k_57 : ka_k 57 = 0 := by decide +kernel
theorem ka_k_58 : ka_k 58 = 0 := by decide +kernel
theorem ka_k_59 : ka_k 59 = 0 := by decide +kernel
theorem ka_k_60 : ka_k 60 = 0 := by decide +kernel
theorem ka_k_61 : ka_k 61 = 1 := by decide +kernel
theorem ka_k_62 : ka_k 62 = 5 := by decide +kernel
theorem ka_k_63 : ka_k 63 = 50 := by decide +kernel
theorem ka_k_64 : ka_k 64 = 50 := by decide +kernel
theorem ka_k_65 : ka_k 65 = 50 := by decide +kernel
theorem ka_k_66 : ka_k 66 = 0 := by decide +kernel
theorem ka_k_67 : ka_k 67 = 2 := by decide +kernel
theorem ka_k_68 : ka_k 68 = 50 := by decide +kernel
theorem ka_k_69 : ka_k 69 = 50 := by decide +kernel
theorem ka_k_70 : ka_k 70 = 60 := by decide +kernel
theorem ka_k_71 : ka_k 71 = 0 := by decide +kernel
theorem ka_k_72 : ka_k 72 = 0 := by decide +kernel
theorem ka_k_73 : ka_k 73 = 0 := by decide +kernel
theorem ka_k_74 : ka_k 74 = 0 := by decide +kernel
theorem ka_k_75 : ka_k 75 = 6 := by decide +kernel
theorem ka_k_76 : ka_k 76 = 50 := by decide +kernel
theorem ka_k_77 : ka_k 77 = 63 := by decide +kernel
theorem ka_k_78 : ka_k 78 = 50 := by decide +kernel
theorem ka_k_79 : ka_k 79 = 3 := by decide +kernel
theorem ka_k_80 : ka_k 80 = 50 := by decide +kernel
theorem ka_k_81 : ka_k 81 = 3 := by decide +kernel
theorem ka_k_82 : ka_k 82 = 50 := by decide +kernel
theorem ka_k_83 : ka_k 83 = 3 := by decide +kernel
theorem ka_k_84 : ka_k 84 = 50 := by decide +kernel
theorem ka_k_85 : ka_k 85 = 3 := by decide +kernel
theorem ka_k_86 : ka_k 86 = 50 := by decide +kernel
theorem ka_k_87 : ka_k 87 = 8 := by decide +kernel
theorem ka_k_88 : ka_k 88 = 50 := by decide +kernel
theorem ka_k_89 : ka_k 89 = 50 := by decide +kernel
theorem ka_k_90 : ka_k 90 = 50 := by decide +kernel
theorem ka_k_91 : ka_k 91 = 50 := by decide +kernel
theorem ka_k_92 : ka_k 92 = 50 := by decide +kernel
theorem ka_k_93 : ka_k 93 = 50 := by decide +kernel
theorem ka_k_94 : ka_k 94 = 50 := by decide +kernel
theorem ka_k_95 : ka_k 95 = 50 := by decide +kernel
theorem ka_k_96 : ka_k 96 = 50 := by decide +kernel
theorem ka_k_97 : ka_k 97 = 50 := by decide +kernel
theorem ka_k_98 : ka_k 98 = 50 := by decide +kernel
theorem ka_k_99 : ka_k 99 = 50 := by decide +kernel
theorem ka_k_100 : ka_k 100 = 50 := by decide +kernel
theorem ka_rf_0_0 : ka_rf 0 0 = 1 := by decide +kernel
theorem ka_rf_0_1 : ka_rf 0 1 = 21 := by decide +kernel
theorem ka_rf_0_2 : ka_rf 0 2 = 41 := by decide +kernel
theorem ka_rf_0_4 : ka_rf 0 4 = 61 := by decide +kernel
theorem ka_rf_0_5 : ka_rf 0 5 = 66 := by decide +kernel
theorem ka_rf_0_6 : ka_rf 0 6 = 67 := by decide +kernel
theorem ka_rf_0_7 : ka_rf 0 7 = 75 := by decide +kernel
theorem ka_rf_0_8 : ka_rf 0 8 = 77 := by decide +kernel
theorem ka_rf_0_9 : ka_rf 0 9 = 78 := by decide +kernel
theorem ka_rf_61_0 : ka_rf 61 0 = 62 := by decide +kernel
theorem ka_rf_61_2 : ka_rf 61 2 = 65 := by decide +kernel
theorem ka_rf_67_0 : ka_rf 67 0 = 68 := by decide +kernel
theorem ka_rf_67_1 : ka_rf 67 1 = 69 := by decide +kernel
theorem ka_rf_67_2 : ka_rf 67 2 = 70 := by decide +kernel
theorem ka_rf_75_0 : ka_rf 75 0 = 76 := by decide +kernel
theorem ka_rf_87_0 : ka_rf 87 0 = 88 := by decide +kernel
theorem ka_rf_87_1 : ka_rf 87 1 = 89 := by decide +kernel
theorem ka_rf_87_2 : ka_rf 87 2 = 90 := by decide +kernel
theorem ka_rf_87_4 : ka_rf 87 4 = 91 := by decide +kernel
theorem ka_rf_87_11 : ka_rf 87 11 = 92 := by decide +kernel
theorem ka_rf_87_12 : ka_rf 87 12 = 93 := by decide +kernel
theorem ka_rf_87_14 : ka_rf 87 14 = 94 := by decide +kernel
theorem ka_rf_87_15 : ka_rf 87 15 = 95 := by decide +kernel
theorem ka_rf_87_16 : ka_rf 87 16 = 96 := by decide +kernel
theorem ka_rf_87_19 : ka_rf 87 19 = 97 := by decide +kernel
theorem ka_rf_87_20 : ka_rf 87 20 = 98 := by decide +kernel
theorem ka_rf_87_21 : ka_rf 87 21 = 99 := by decide +kernel
theorem ka_rf_87_22 : ka_rf 87 22 = 100 := by decide +kernel
theorem ka_ln_63 : ka_ln 63 = 50 := by decide +kernel
theorem ka_ln_64 : ka_ln 64 = 50 := by decide +kernel
theorem ka_ln_65 : ka_ln 65 = 50 := by decide +kernel
theorem ka_ln_68 : ka_ln 68 = 4 := by decide +kernel
theorem ka_ln_69 : ka_ln 69 = 4 := by decide +kernel
theorem ka_ln_70 : ka_ln 70 = 4 := by decide +kernel
theorem ka_ln_76 : ka_ln 76 = 40 := by decide +kernel
theorem ka_ln_77 : ka_ln 77 = 4 := by decide +kernel
theorem ka_ln_78 : ka_ln 78 = 6 := by decide +kernel
theorem ka_ln_80 : ka_ln 80 = 40 := by decide +kernel
theorem ka_ln_82 : ka_ln 82 = 40 := by decide +kernel
theorem ka_ln_84 : ka_ln 84 = 40 := by decide +kernel
theorem ka_ln_86 : ka_ln 86 = 40 := by decide +kernel
theorem ka_ln_88 : ka_ln 88 = 260 := by decide +kernel
theorem ka_ln_89 : ka_ln 89 = 260 := by decide +kernel
theorem ka_ln_90 : ka_ln 90 = 260 := by decide +kernel
theorem ka_ln_91 : ka_ln 91 = 6 := by decide +kernel
theorem ka_ln_92 : ka_ln 92 = 4 := by decide +kernel
theorem ka_ln_93 : ka_ln 93 = 60 := by decide +kernel
theorem ka_ln_94 : ka_ln 94 = 60 := by decide +kernel
theorem ka_ln_95 : ka_ln 95 = 8 := by decide +kernel
theorem ka_ln_96 : ka_ln 96 = 40 := by decide +kernel
theorem ka_ln_97 : ka_ln 97 = 4 := by decide +kernel
theorem ka_ln_98 : ka_ln 98 = 4 := by decide +kernel
theorem ka_ln_99 : ka_ln 99 = 160 := by decide +kernel
theorem ka_ln_100 : ka_ln 100 = 40 := by decide +kernel
theorem ka_k_lt {p n : Nat} (h : ka_k p = n) (hn : n < 99) : p < 101 := by
  rcases Nat.lt_or_ge p 101 with q | q
  · exact q
  · have : ka_sk[p]? = none := List.getElem?_eq_none (by rw [ka_sk_len]; exact q)
    unfold ka_k at h
    rw [this] at h
    have h : 99 = n := h
    omega
theorem ka_st4 {b : Nat} (hb : ka_k b = 4) : b = 1 ∨ b = 21 ∨ b = 41 := (by decide +kernel : ∀ b, b < 101 → ka_k b = 4 → b = 1 ∨ b = 21 ∨ b = 41) b (ka_k_lt hb (by decide)) hb
theorem ka_tx5 {p : Nat} (hp : ka_k p = 5) : p = 4 ∨ p = 7 ∨ p = 24 ∨ p = 27 ∨ p = 44 ∨ p = 47 ∨ p = 62 := (by decide +kernel : ∀ p, p < 101 → ka_k p = 5 → p = 4 ∨ p = 7 ∨ p = 24 ∨ p = 27 ∨ p = 44 ∨ p = 47 ∨ p = 62) p (ka_k_lt hp (by decide)) hp
theorem ka_sh3 {p : Nat} (hp : ka_k p = 3) : p = 79 ∨ p = 81 ∨ p = 83 ∨ p = 85 := (by decide +kernel : ∀ p, p < 101 → ka_k p = 3 → p = 79 ∨ p = 81 ∨ p = 83 ∨ p = 85) p (ka_k_lt hp (by decide)) hp
theorem ka_st_r0 {b : Nat} (h : ka_k b = 4) : ka_rf b 0 = b + 1 := by rcases ka_st4 h with rfl | rfl | rfl <;> decide +kernel
theorem ka_st_r7 {b : Nat} (h : ka_k b = 4) : ka_rf b 7 = b + 2 := by rcases ka_st4 h with rfl | rfl | rfl <;> decide +kernel
theorem ka_st_r8 {b : Nat} (h : ka_k b = 4) : ka_rf b 8 = b + 3 := by rcases ka_st4 h with rfl | rfl | rfl <;> decide +kernel
theorem ka_st_r9 {b : Nat} (h : ka_k b = 4) : ka_rf b 9 = b + 6 := by rcases ka_st4 h with rfl | rfl | rfl <;> decide +kernel
theorem ka_st_r10 {b : Nat} (h : ka_k b = 4) : ka_rf b 10 = b + 9 := by rcases ka_st4 h with rfl | rfl | rfl <;> decide +kernel
theorem ka_st_r12 {b : Nat} (h : ka_k b = 4) : ka_rf b 12 = b + 10 := by rcases ka_st4 h with rfl | rfl | rfl <;> decide +kernel
theorem ka_st_r15 {b : Nat} (h : ka_k b = 4) : ka_rf b 15 = b + 11 := by rcases ka_st4 h with rfl | rfl | rfl <;> decide +kernel
theorem ka_st_k1 {b : Nat} (h : ka_k b = 4) : ka_k (b + 1) = 60 := by rcases ka_st4 h with rfl | rfl | rfl <;> decide +kernel
theorem ka_st_k2 {b : Nat} (h : ka_k b = 4) : ka_k (b + 2) = 50 := by rcases ka_st4 h with rfl | rfl | rfl <;> decide +kernel
theorem ka_st_k3 {b : Nat} (h : ka_k b = 4) : ka_k (b + 3) = 5 := by rcases ka_st4 h with rfl | rfl | rfl <;> decide +kernel
theorem ka_st_k6 {b : Nat} (h : ka_k b = 4) : ka_k (b + 6) = 5 := by rcases ka_st4 h with rfl | rfl | rfl <;> decide +kernel
theorem ka_st_k9 {b : Nat} (h : ka_k b = 4) : ka_k (b + 9) = 50 := by rcases ka_st4 h with rfl | rfl | rfl <;> decide +kernel
theorem ka_st_k10 {b : Nat} (h : ka_k b = 4) : ka_k (b + 10) = 50 := by rcases ka_st4 h with rfl | rfl | rfl <;> decide +kernel
theorem ka_st_k11 {b : Nat} (h : ka_k b = 4) : ka_k (b + 11) = 50 := by rcases ka_st4 h with rfl | rfl | rfl <;> decide +kernel
theorem ka_st_l1 {b : Nat} (h : ka_k b = 4) : ka_ln (b + 1) = 8 := by rcases ka_st4 h with rfl | rfl | rfl <;> decide +kernel
theorem ka_st_l2 {b : Nat} (h : ka_k b = 4) : ka_ln (b + 2) = 4 := by rcases ka_st4 h with rfl | rfl | rfl <;> decide +kernel
theorem ka_st_l9 {b : Nat} (h : ka_k b = 4) : ka_ln (b + 9) = 50 := by rcases ka_st4 h with rfl | rfl | rfl <;> decide +kernel
theorem ka_st_l10 {b : Nat} (h : ka_k b = 4) : ka_ln (b + 10) = 20 := by rcases ka_st4 h with rfl | rfl | rfl <;> decide +kernel
theorem ka_st_l11 {b : Nat} (h : ka_k b = 4) : ka_ln (b + 11) = 8 := by rcases ka_st4 h with rfl | rfl | rfl <;> decide +kernel
theorem ka_st_ra {b : Nat} (h : ka_k b = 4) {j : Nat} (hj : j < 8) : ka_ra (b + 1) j = b + 12 + j := by
  have e : ∀ j, j < 8 → ka_ra 2 j = 1 + 12 + j ∧ ka_ra 22 j = 21 + 12 + j ∧ ka_ra 42 j = 41 + 12 + j := by decide +kernel
  rcases ka_st4 h with rfl | rfl | rfl
  · exact (e j hj).1
  · exact (e j hj).2.1
  · exact (e j hj).2.2
theorem ka_st_kn {b : Nat} (h : ka_k b = 4) {j : Nat} (hj : j < 8) : ka_k (b + 12 + j) = 0 := by
  have e : ∀ j, j < 8 → ka_k (1 + 12 + j) = 0 ∧ ka_k (21 + 12 + j) = 0 ∧ ka_k (41 + 12 + j) = 0 := by decide +kernel
  rcases ka_st4 h with rfl | rfl | rfl
  · exact (e j hj).1
  · exact (e j hj).2.1
  · exact (e j hj).2.2
theorem ka_tx_r0 {p : Nat} (h : ka_k p = 5) : ka_rf p 0 = p + 1 := by rcases ka_tx5 h with rfl | rfl | rfl | rfl | rfl | rfl | rfl <;> decide +kernel
theorem ka_tx_k1 {p : Nat} (h : ka_k p = 5) : ka_k (p + 1) = 50 := by rcases ka_tx5 h with rfl | rfl | rfl | rfl | rfl | rfl | rfl <;> decide +kernel
theorem ka_tx_l1 {p : Nat} (h : ka_k p = 5) : ka_ln (p + 1) = 50 := by rcases ka_tx5 h with rfl | rfl | rfl | rfl | rfl | rfl | rfl <;> decide +kernel
theorem ka_tx_r2 {p : Nat} (h : ka_k p = 5) : ka_rf p 2 = p + 2 := by rcases ka_tx5 h with rfl | rfl | rfl | rfl | rfl | rfl | rfl <;> decide +kernel
theorem ka_tx_k2 {p : Nat} (h : ka_k p = 5) : ka_k (p + 2) = 50 := by rcases ka_tx5 h with rfl | rfl | rfl | rfl | rfl | rfl | rfl <;> decide +kernel
theorem ka_tx_l2 {p : Nat} (h : ka_k p = 5) : ka_ln (p + 2) = 50 := by rcases ka_tx5 h with rfl | rfl | rfl | rfl | rfl | rfl | rfl <;> decide +kernel
theorem ka_sh_r2 {p : Nat} (h : ka_k p = 3) : ka_rf p 2 = p + 1 := by rcases ka_sh3 h with rfl | rfl | rfl | rfl <;> decide +kernel
theorem ka_sh_k1 {p : Nat} (h : ka_k p = 3) : ka_k (p + 1) = 50 := by rcases ka_sh3 h with rfl | rfl | rfl | rfl <;> decide +kernel
theorem ka_sh_l1 {p : Nat} (h : ka_k p = 3) : ka_ln (p + 1) = 40 := by rcases ka_sh3 h with rfl | rfl | rfl | rfl <;> decide +kernel
theorem ka_ra77 {j : Nat} (hj : j < 4) : ka_ra 77 j = 79 + 2 * j := (by decide +kernel : ∀ j, j < 4 → ka_ra 77 j = 79 + 2 * j) j hj
theorem ka_k77 {j : Nat} (hj : j < 4) : ka_k (79 + 2 * j) = 3 := (by decide +kernel : ∀ j, j < 4 → ka_k (79 + 2 * j) = 3) j hj
theorem ka_ra70 {j : Nat} (hj : j < 4) : ka_ra 70 j = 71 + j := (by decide +kernel : ∀ j, j < 4 → ka_ra 70 j = 71 + j) j hj
theorem ka_k71 {j : Nat} (hj : j < 4) : ka_k (71 + j) = 0 := (by decide +kernel : ∀ j, j < 4 → ka_k (71 + j) = 0) j hj
/-! reading behind writing -/
theorem ka_pe {X : ka_X} {p k : Nat} {v : Int32} : ka_put X p k v p k = v := by simp [ka_put]
theorem ka_pn {X : ka_X} {p k q j : Nat} {v : Int32} (h : ¬ (q = p ∧ j = k)) : ka_put X p k v q j = X q j := if_neg h
theorem ka_pp {X : ka_X} {p k : Nat} {v w : Int32} : ka_put (ka_put X p k v) p k w = ka_put X p k w := by
  funext q j
  by_cases h : q = p ∧ j = k <;> simp [ka_put, h]
/-! numbers -/
theorem ka_bm {x : Int} (h1 : -2147483648 ≤ x) (h2 : x < 2147483648) : x.bmod 4294967296 = x := by
  unfold Int.bmod
  simp only
  split <;> omega
theorem ka_bd (a : Int32) : -2147483648 ≤ a.toInt ∧ a.toInt < 2147483648 := ⟨Int32.le_toInt a, Int32.toInt_lt a⟩
theorem ka_add {a b : Int32} (h : -2147483648 ≤ a.toInt + b.toInt ∧ a.toInt + b.toInt < 2147483648) : (a + b).toInt = a.toInt + b.toInt := by
  rw [Int32.toInt_add]; exact ka_bm h.1 h.2
theorem ka_sub {a b : Int32} (h : -2147483648 ≤ a.toInt - b.toInt ∧ a.toInt - b.toInt < 2147483648) : (a - b).toInt = a.toInt - b.toInt := by
  rw [Int32.toInt_sub]; exact ka_bm h.1 h.2
theorem ka_mul {a b : Int32} (h : -2147483648 ≤ a.toInt * b.toInt ∧ a.toInt * b.toInt < 2147483648) : (a * b).toInt = a.toInt * b.toInt := by
  rw [Int32.toInt_mul]; exact ka_bm h.1 h.2
theorem ka_nc (a : Int32) : a.toNatClampNeg = a.toInt.toNat := rfl
theorem ka_nIt {n : Nat} (h : n < 2147483648) : (nI n).toInt = n := Int32.toInt_ofNat_of_lt h
theorem ka_nIc {n : Nat} (h : n < 2147483648) : (nI n).toNatClampNeg = n := Int32.toNatClampNeg_ofNat_of_lt h
theorem ka_inI {j : Int32} {n : Nat} : ka_in j n ↔ 0 ≤ j.toInt ∧ j.toInt < n := by
  unfold ka_in
  rw [ka_ilt, ka_nc]
  have h0 : (0 : Int32).toInt = 0 := rfl
  rw [h0]
  omega

