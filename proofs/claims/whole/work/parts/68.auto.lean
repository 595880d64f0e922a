/-! the reader as a machine over signs -/
/-- how many stand open -/
def cnt : List Int32 → Nat
  | [] => 0
  | c :: P => (if c = 33 ∨ c = 40 then 1 else 0) + cnt P
def rhd : List Int32 → Nat
  | [] => 0
  | c :: _ => rk c
/-- what is pending and binds as tightly has both its operands -/
def rsl (r : Nat) : List Int32 → List Int32 → List Int32 × List Int32
  | [], T => ([], T)
  | c :: P, T => if rk c < r then (c :: P, T) else rsl r P (-c :: T)
def o1 (k c : Int32) (P T : List Int32) (dl : Nat) : Option (List Int32 × List Int32 × Bool × Nat) := if c = 33 ∨ c = 40 then (if cnt P < 5 then some (c :: P, T, true, dl) else none) else if 48 ≤ c.toInt ∧ c.toInt ≤ 57 then some (P, (c - 48) :: T, false, 3) else if nmx k c < 0 then none else some (P, (10000 + nmx k c) :: T, false, 0)
def b1 (c : Int32) (P T : List Int32) (dl : Nat) : Option (List Int32 × List Int32 × Bool × Nat) := if 48 ≤ c.toInt ∧ c.toInt ≤ 57 then (if dl = 0 then none else match T with | [] => none | t :: T => some (P, (t * 10 + (c - 48)) :: T, false, dl - 1)) else if c = 41 then (match (rsl 1 P T).1 with | [] => none | _ :: P' => some (P', (rsl 1 P T).2, false, 0)) else if ¬ (1 ≤ rk c ∧ rk c ≤ 5) then none else if rk c = 3 ∧ rhd (rsl (if rk c = 3 then 4 else rk c) P T).1 = 3 then none else some (c :: (rsl (if rk c = 3 then 4 else rk c) P T).1, (rsl (if rk c = 3 then 4 else rk c) P T).2, true, 0)
def au (k : Int32) (B : Nat → Int32) : Nat → Nat → List Int32 → List Int32 → Bool → Nat → Nat ⊕ List Int32
  | 0, i, P, T, w, _ => if w = true ∨ ¬ (rsl 1 P T).1 = [] then .inl i else .inr (rsl 1 P T).2
  | m + 1, i, P, T, w, dl => match (if w = true then o1 k (B i) P T dl else b1 (B i) P T dl) with
    | none => .inl i
    | some (P', T', w', dl') => au k B m (i + 1) P' T' w' dl'
def lk (f : Nat → Int32) : List Int32 → Prop
  | [] => True
  | c :: P => f P.length = c ∧ lk f P
theorem lk_up {f : Nat → Int32} {v : Int32} {n : Nat} : ∀ {P : List Int32}, P.length ≤ n → lk f P → lk (kn_up f n v) P
  | [], _, _ => trivial
  | c :: P, hn, h => by
    have hl : (c :: P).length = P.length + 1 := List.length_cons
    exact ⟨by rw [kn_up_ne (by omega)]; exact h.1, lk_up (by omega) h.2⟩
theorem lk_at {f : Nat → Int32} {v : Int32} {P : List Int32} (h : lk f P) : lk (kn_up f P.length v) (v :: P) := ⟨kn_up_at, lk_up (Nat.le_refl _) h⟩
theorem sl_len {r : Nat} : ∀ {P T : List Int32}, (rsl r P T).1.length + (rsl r P T).2.length = P.length + T.length
  | [], _ => rfl
  | c :: P, T => by
    unfold rsl
    split
    · rfl
    · rw [sl_len, List.length_cons, List.length_cons]; omega
theorem sl_le {r : Nat} : ∀ {P T : List Int32}, (rsl r P T).1.length ≤ P.length
  | [], _ => Nat.le_refl _
  | c :: P, T => by
    unfold rsl
    split
    · exact Nat.le_refl _
    · have := sl_le (r := r) (P := P) (T := -c :: T)
      rw [List.length_cons]; omega
theorem sl_mem {r : Nat} {Q : Int32 → Prop} : ∀ {P T : List Int32}, (∀ c, c ∈ P → Q c) → ∀ c, c ∈ (rsl r P T).1 → Q c
  | [], _, h => h
  | c :: P, T, h => by
    unfold rsl
    split
    · exact h
    · exact sl_mem fun x hx => h x (List.mem_cons_of_mem _ hx)
theorem sl_hd {r : Nat} : ∀ {P T : List Int32}, (rsl r P T).1 = [] ∨ rhd (rsl r P T).1 < r
  | [], _ => Or.inl rfl
  | c :: P, T => by
    unfold rsl
    split
    · exact Or.inr (by assumption)
    · exact sl_hd
/-- the reader's memory stands at this state -/
def cs (X : ka_X) (s : Int32) (P T : List Int32) (w : Bool) (dl : Nat) : Prop := X 61 1 = s ∧ X 61 3 = nI P.length ∧ X 61 4 = nI (cnt P) ∧ X 61 5 = (if w = true then 1 else 0) ∧ X 61 6 = nI dl ∧ X 62 1 = nI T.length ∧ lk (X 65) P ∧ lk (X 63) T ∧ (∀ c, c ∈ P → 1 ≤ rk c ∨ c = 40) ∧ (0 < dl → ¬ T = [])
def of (X Y : ka_X) : Prop := ∀ p, ¬ p = 61 → ¬ p = 62 → ¬ p = 63 → ¬ p = 65 → Y p = X p
theorem of_r {X : ka_X} : of X X := fun _ _ _ _ _ => rfl
theorem of_t {X Y Z : ka_X} (a : of X Y) (b : of Y Z) : of X Z := fun p h1 h2 h3 h4 => by rw [b p h1 h2 h3 h4, a p h1 h2 h3 h4]
section
variable {sc : aS} {d : Nat} {X : ka_X} {s : Int32} {P T : List Int32} {w : Bool} {dl : Nat}
theorem sp_18 {c : Int32} {n : Nat} (h3 : X 61 3 = nI n) (hn : n < 50) : ka_ex sc d 18 0 [.ref 61, .int c] [] (ka_mem X) = some (none, ka_mem (kn_row (kn_row X 65 (kn_up (X 65) n c)) 61 (kn_up (X 61) 3 (nI (n + 1))))) := by
  obtain ⟨hin, hc⟩ := ka_ixs (a := nI n) (n := n) (m := 50) (ka_nIt (by omega)) hn
  have h1 : nI n < nI 50 := by rw [ka_ilt, ka_nIt (by omega), ka_nIt (by omega)]; omega
  have e1 : ∀ r, kn_row X 65 r 61 = X 61 := fun r => kn_row_off (by omega)
  have es : nI n + 1 = nI (n + 1) := nI_s.symm
  simp only [x18_0, x18_1, x18_4, x18_5, x18_8, x18_9, x18_12, x18_13, x18_14, x18_17, x18_18, x18_21, x18_22, x18_23, x18_24, x18_25, x18_28, x18_29, x18_30, x18_33, ka_kk_i, ka_kk_n, ka_cl_i, ka_cl_r, ka_cl_n, or_true, true_or, ka_ne2, ka_ne4, ka_ne5, ka_ne10, not_false_eq_true, not_true_eq_false, if_true, if_false, ka_k_0, ka_k_1, ka_k_2, ka_k_3, ka_k_4, ka_k_5, ka_k_6, ka_k_7, ka_k_8, ka_k_9, ka_k_10, ka_k_11, ka_k_12, ka_k_13, ka_k_14, ka_k_15, ka_k_16, ka_k_17, ka_k_18, ka_k_19, ka_k_20, ka_k_21, ka_k_22, ka_k_23, ka_k_24, ka_k_25, ka_k_26, ka_k_27, ka_k_28, ka_k_29, ka_k_30, ka_k_31, ka_k_32, ka_k_33, ka_k_34, ka_k_35, ka_k_36, ka_k_37, ka_k_38, ka_k_39, ka_k_40, ka_k_41, ka_k_42, ka_k_43, ka_k_44, ka_k_45, ka_k_46, ka_k_47, ka_k_48, ka_k_49, ka_k_50, ka_k_51, ka_k_52, ka_k_53, ka_k_54, ka_k_55, ka_k_56, ka_k_57, ka_k_58, ka_k_59, ka_k_60, ka_k_61, ka_k_62, ka_k_63, ka_k_64, ka_k_65, ka_k_66, ka_k_67, ka_k_68, ka_k_69, ka_k_70, ka_k_71, ka_k_72, ka_k_73, ka_k_74, ka_k_75, ka_k_76, ka_k_77, ka_k_78, ka_k_79, ka_k_80, ka_k_81, ka_k_82, ka_k_83, ka_k_84, ka_k_85, ka_k_86, ka_k_87, ka_k_88, ka_k_89, ka_k_90, ka_k_91, ka_k_92, ka_k_93, ka_k_94, ka_k_95, ka_k_96, ka_k_97, ka_k_98, ka_k_99, ka_k_100, ka_rf_0_0, ka_rf_0_1, ka_rf_0_2, ka_rf_0_4, ka_rf_0_5, ka_rf_0_6, ka_rf_0_7, ka_rf_0_8, ka_rf_0_9, ka_rf_61_0, ka_rf_61_2, ka_rf_67_0, ka_rf_67_1, ka_rf_67_2, ka_rf_75_0, ka_rf_87_0, ka_rf_87_1, ka_rf_87_2, ka_rf_87_4, ka_rf_87_11, ka_rf_87_12, ka_rf_87_14, ka_rf_87_15, ka_rf_87_16, ka_rf_87_19, ka_rf_87_20, ka_rf_87_21, ka_rf_87_22, ka_ln_63, ka_ln_64, ka_ln_65, ka_ln_68, ka_ln_69, ka_ln_70, ka_ln_76, ka_ln_77, ka_ln_78, ka_ln_80, ka_ln_82, ka_ln_84, ka_ln_86, ka_ln_88, ka_ln_89, ka_ln_90, ka_ln_91, ka_ln_92, ka_ln_93, ka_ln_94, ka_ln_95, ka_ln_96, ka_ln_97, ka_ln_98, ka_ln_99, ka_ln_100, h3, h1, hin, hc, kn_put_r, e1, es]
theorem sp_19 (h3 : X 61 3 = nI P.length) (hl : lk (X 65) P) (hn : P.length ≤ 50) : ka_ex sc (d + 1) 19 0 [.ref 61] [] (ka_mem X) = some (some (.int (nI (rhd P))), ka_mem X) := by
  cases P with
  | nil =>
    have hb : ka_b ((1 : Int32).toInt ≤ (nI (([] : List Int32).length)).toInt ∧ (nI (([] : List Int32).length)).toInt ≤ (nI 50).toInt) = 0 := ka_b_f (by rw [List.length_nil, ka_nIt (by decide)]; simp only [ka_t_0, ka_t_1, ka_t_2, ka_t_3, ka_t_4, ka_t_5, ka_t_6, ka_t_7, ka_t_8, ka_t_9, ka_t_10, ka_t_11, ka_t_12, ka_t_13, ka_t_14, ka_t_15, ka_t_16, ka_t_17, ka_t_18, ka_t_19, ka_t_20, ka_t_25, ka_t_26, ka_t_28, ka_t_30, ka_t_31, ka_t_32, ka_t_33, ka_t_37, ka_t_38, ka_t_39, ka_t_40, ka_t_41, ka_t_42, ka_t_43, ka_t_45, ka_t_47, ka_t_48, ka_t_50, ka_t_57, ka_t_60, ka_t_61, ka_t_62, ka_t_63, ka_t_64, ka_t_65, ka_t_69, ka_t_70, ka_t_71, ka_t_80, ka_t_85, ka_t_87, ka_t_98, ka_t_99, ka_t_100, ka_t_104, ka_t_107, ka_t_109, ka_t_110, ka_t_112, ka_t_115, ka_t_116, ka_t_117, ka_t_124, ka_t_125, ka_t_160, ka_t_200, ka_t_207, ka_t_255, ka_t_260, ka_t_400, ka_t_624, ka_t_625, ka_t_999, ka_t_9999, ka_t_10000, ka_t_20000, ka_t_20033, ka_t_999999, ka_t_1000000000, ka_t_m1, ka_t_m2, ka_t_m3, ka_t_m5, ka_t_m9, ka_t_m10, ka_t_m1000000000]; omega)
    simp only [x19_0, x19_1, x19_4, x19_5, x19_6, x19_9, x19_10, x19_13, x19_16, x19_17, x19_20, x19_21, x19_24, x19_25, x19_26, x19_27, x19_30, x19_33, x19_34, ka_kk_i, ka_kk_n, ka_cl_i, ka_cl_r, ka_cl_n, or_true, true_or, ka_ne2, ka_ne4, ka_ne5, ka_ne10, not_false_eq_true, not_true_eq_false, if_true, if_false, ka_k_0, ka_k_1, ka_k_2, ka_k_3, ka_k_4, ka_k_5, ka_k_6, ka_k_7, ka_k_8, ka_k_9, ka_k_10, ka_k_11, ka_k_12, ka_k_13, ka_k_14, ka_k_15, ka_k_16, ka_k_17, ka_k_18, ka_k_19, ka_k_20, ka_k_21, ka_k_22, ka_k_23, ka_k_24, ka_k_25, ka_k_26, ka_k_27, ka_k_28, ka_k_29, ka_k_30, ka_k_31, ka_k_32, ka_k_33, ka_k_34, ka_k_35, ka_k_36, ka_k_37, ka_k_38, ka_k_39, ka_k_40, ka_k_41, ka_k_42, ka_k_43, ka_k_44, ka_k_45, ka_k_46, ka_k_47, ka_k_48, ka_k_49, ka_k_50, ka_k_51, ka_k_52, ka_k_53, ka_k_54, ka_k_55, ka_k_56, ka_k_57, ka_k_58, ka_k_59, ka_k_60, ka_k_61, ka_k_62, ka_k_63, ka_k_64, ka_k_65, ka_k_66, ka_k_67, ka_k_68, ka_k_69, ka_k_70, ka_k_71, ka_k_72, ka_k_73, ka_k_74, ka_k_75, ka_k_76, ka_k_77, ka_k_78, ka_k_79, ka_k_80, ka_k_81, ka_k_82, ka_k_83, ka_k_84, ka_k_85, ka_k_86, ka_k_87, ka_k_88, ka_k_89, ka_k_90, ka_k_91, ka_k_92, ka_k_93, ka_k_94, ka_k_95, ka_k_96, ka_k_97, ka_k_98, ka_k_99, ka_k_100, ka_rf_0_0, ka_rf_0_1, ka_rf_0_2, ka_rf_0_4, ka_rf_0_5, ka_rf_0_6, ka_rf_0_7, ka_rf_0_8, ka_rf_0_9, ka_rf_61_0, ka_rf_61_2, ka_rf_67_0, ka_rf_67_1, ka_rf_67_2, ka_rf_75_0, ka_rf_87_0, ka_rf_87_1, ka_rf_87_2, ka_rf_87_4, ka_rf_87_11, ka_rf_87_12, ka_rf_87_14, ka_rf_87_15, ka_rf_87_16, ka_rf_87_19, ka_rf_87_20, ka_rf_87_21, ka_rf_87_22, ka_ln_63, ka_ln_64, ka_ln_65, ka_ln_68, ka_ln_69, ka_ln_70, ka_ln_76, ka_ln_77, ka_ln_78, ka_ln_80, ka_ln_82, ka_ln_84, ka_ln_86, ka_ln_88, ka_ln_89, ka_ln_90, ka_ln_91, ka_ln_92, ka_ln_93, ka_ln_94, ka_ln_95, ka_ln_96, ka_ln_97, ka_ln_98, ka_ln_99, ka_ln_100, h3, sp_106, hb]
    rfl
  | cons c P =>
    have hl' : (c :: P).length = P.length + 1 := List.length_cons
    rw [hl'] at h3 hn
    obtain ⟨hin, hc⟩ := ka_ixs (a := nI P.length) (n := P.length) (m := 50) (ka_nIt (by omega)) (by omega)
    have hb : ka_b ((1 : Int32).toInt ≤ (nI (P.length + 1)).toInt ∧ (nI (P.length + 1)).toInt ≤ (nI 50).toInt) = 1 := ka_b_t (by rw [ka_nIt (by omega), ka_nIt (by omega)]; simp only [ka_t_0, ka_t_1, ka_t_2, ka_t_3, ka_t_4, ka_t_5, ka_t_6, ka_t_7, ka_t_8, ka_t_9, ka_t_10, ka_t_11, ka_t_12, ka_t_13, ka_t_14, ka_t_15, ka_t_16, ka_t_17, ka_t_18, ka_t_19, ka_t_20, ka_t_25, ka_t_26, ka_t_28, ka_t_30, ka_t_31, ka_t_32, ka_t_33, ka_t_37, ka_t_38, ka_t_39, ka_t_40, ka_t_41, ka_t_42, ka_t_43, ka_t_45, ka_t_47, ka_t_48, ka_t_50, ka_t_57, ka_t_60, ka_t_61, ka_t_62, ka_t_63, ka_t_64, ka_t_65, ka_t_69, ka_t_70, ka_t_71, ka_t_80, ka_t_85, ka_t_87, ka_t_98, ka_t_99, ka_t_100, ka_t_104, ka_t_107, ka_t_109, ka_t_110, ka_t_112, ka_t_115, ka_t_116, ka_t_117, ka_t_124, ka_t_125, ka_t_160, ka_t_200, ka_t_207, ka_t_255, ka_t_260, ka_t_400, ka_t_624, ka_t_625, ka_t_999, ka_t_9999, ka_t_10000, ka_t_20000, ka_t_20033, ka_t_999999, ka_t_1000000000, ka_t_m1, ka_t_m2, ka_t_m3, ka_t_m5, ka_t_m9, ka_t_m10, ka_t_m1000000000]; omega)
    simp only [x19_0, x19_1, x19_4, x19_5, x19_6, x19_9, x19_10, x19_13, x19_16, x19_17, x19_20, x19_21, x19_24, x19_25, x19_26, x19_27, x19_30, x19_33, x19_34, ka_kk_i, ka_kk_n, ka_cl_i, ka_cl_r, ka_cl_n, or_true, true_or, ka_ne2, ka_ne4, ka_ne5, ka_ne10, not_false_eq_true, not_true_eq_false, if_true, if_false, ka_k_0, ka_k_1, ka_k_2, ka_k_3, ka_k_4, ka_k_5, ka_k_6, ka_k_7, ka_k_8, ka_k_9, ka_k_10, ka_k_11, ka_k_12, ka_k_13, ka_k_14, ka_k_15, ka_k_16, ka_k_17, ka_k_18, ka_k_19, ka_k_20, ka_k_21, ka_k_22, ka_k_23, ka_k_24, ka_k_25, ka_k_26, ka_k_27, ka_k_28, ka_k_29, ka_k_30, ka_k_31, ka_k_32, ka_k_33, ka_k_34, ka_k_35, ka_k_36, ka_k_37, ka_k_38, ka_k_39, ka_k_40, ka_k_41, ka_k_42, ka_k_43, ka_k_44, ka_k_45, ka_k_46, ka_k_47, ka_k_48, ka_k_49, ka_k_50, ka_k_51, ka_k_52, ka_k_53, ka_k_54, ka_k_55, ka_k_56, ka_k_57, ka_k_58, ka_k_59, ka_k_60, ka_k_61, ka_k_62, ka_k_63, ka_k_64, ka_k_65, ka_k_66, ka_k_67, ka_k_68, ka_k_69, ka_k_70, ka_k_71, ka_k_72, ka_k_73, ka_k_74, ka_k_75, ka_k_76, ka_k_77, ka_k_78, ka_k_79, ka_k_80, ka_k_81, ka_k_82, ka_k_83, ka_k_84, ka_k_85, ka_k_86, ka_k_87, ka_k_88, ka_k_89, ka_k_90, ka_k_91, ka_k_92, ka_k_93, ka_k_94, ka_k_95, ka_k_96, ka_k_97, ka_k_98, ka_k_99, ka_k_100, ka_rf_0_0, ka_rf_0_1, ka_rf_0_2, ka_rf_0_4, ka_rf_0_5, ka_rf_0_6, ka_rf_0_7, ka_rf_0_8, ka_rf_0_9, ka_rf_61_0, ka_rf_61_2, ka_rf_67_0, ka_rf_67_1, ka_rf_67_2, ka_rf_75_0, ka_rf_87_0, ka_rf_87_1, ka_rf_87_2, ka_rf_87_4, ka_rf_87_11, ka_rf_87_12, ka_rf_87_14, ka_rf_87_15, ka_rf_87_16, ka_rf_87_19, ka_rf_87_20, ka_rf_87_21, ka_rf_87_22, ka_ln_63, ka_ln_64, ka_ln_65, ka_ln_68, ka_ln_69, ka_ln_70, ka_ln_76, ka_ln_77, ka_ln_78, ka_ln_80, ka_ln_82, ka_ln_84, ka_ln_86, ka_ln_88, ka_ln_89, ka_ln_90, ka_ln_91, ka_ln_92, ka_ln_93, ka_ln_94, ka_ln_95, ka_ln_96, ka_ln_97, ka_ln_98, ka_ln_99, ka_ln_100, h3, sp_106, hb, nI_p, ka_one0, hin, hc, hl.1, sp_20, rhd]
theorem sp_17 {r : Nat} (hr : 1 ≤ r ∧ r ≤ 6) : ∀ (P T : List Int32) (X : ka_X) (a2 : Value), cs X s P T w dl → P.length + T.length ≤ 50 → ∃ Y, ka_ex sc (d + 2) 17 0 [.ref 61, .int (nI r), a2] [] (ka_mem X) = some (none, ka_mem Y) ∧ cs Y s (rsl r P T).1 (rsl r P T).2 w dl ∧ of X Y := by
  intro P
  induction P with
  | nil =>
    intro T X a2 h hn
    have h3 : X 61 3 = nI 0 := h.2.1
    have h1 : ¬ (0 : Int32) < nI 0 := by decide
    refine ⟨X, ?_, h, of_r⟩
    rw [x17_0]
    simp only [x17_1, x17_4, x17_7, x17_8, x17_11, x17_12, x17_15, x17_16, x17_17, x17_20, x17_21, x17_22, x17_25, x17_26, x17_29, x17_30, x17_33, x17_34, x17_35, x17_36, x17_38, x17_41, x17_42, x17_43, x17_46, x17_47, x17_48, x17_51, x17_52, x17_55, x17_56, x17_57, x17_60, x17_63, ka_kk_i, ka_kk_n, ka_cl_i, ka_cl_r, ka_cl_n, or_true, true_or, ka_ne2, ka_ne4, ka_ne5, ka_ne10, not_false_eq_true, not_true_eq_false, if_true, if_false, ka_k_0, ka_k_1, ka_k_2, ka_k_3, ka_k_4, ka_k_5, ka_k_6, ka_k_7, ka_k_8, ka_k_9, ka_k_10, ka_k_11, ka_k_12, ka_k_13, ka_k_14, ka_k_15, ka_k_16, ka_k_17, ka_k_18, ka_k_19, ka_k_20, ka_k_21, ka_k_22, ka_k_23, ka_k_24, ka_k_25, ka_k_26, ka_k_27, ka_k_28, ka_k_29, ka_k_30, ka_k_31, ka_k_32, ka_k_33, ka_k_34, ka_k_35, ka_k_36, ka_k_37, ka_k_38, ka_k_39, ka_k_40, ka_k_41, ka_k_42, ka_k_43, ka_k_44, ka_k_45, ka_k_46, ka_k_47, ka_k_48, ka_k_49, ka_k_50, ka_k_51, ka_k_52, ka_k_53, ka_k_54, ka_k_55, ka_k_56, ka_k_57, ka_k_58, ka_k_59, ka_k_60, ka_k_61, ka_k_62, ka_k_63, ka_k_64, ka_k_65, ka_k_66, ka_k_67, ka_k_68, ka_k_69, ka_k_70, ka_k_71, ka_k_72, ka_k_73, ka_k_74, ka_k_75, ka_k_76, ka_k_77, ka_k_78, ka_k_79, ka_k_80, ka_k_81, ka_k_82, ka_k_83, ka_k_84, ka_k_85, ka_k_86, ka_k_87, ka_k_88, ka_k_89, ka_k_90, ka_k_91, ka_k_92, ka_k_93, ka_k_94, ka_k_95, ka_k_96, ka_k_97, ka_k_98, ka_k_99, ka_k_100, h3, h1]
  | cons c P ih =>
    intro T X a2 h hn
    have hl' : (c :: P).length = P.length + 1 := List.length_cons
    obtain ⟨q1, q2, q3, q4, q5, q6, q7, q8, q9, q10⟩ := id h
    have q2' : X 61 3 = nI (P.length + 1) := by rw [q2, hl']
    have h1 : (0 : Int32) < nI (P.length + 1) := by rw [ka_ilt, ka_nIt (by omega)]; simp only [ka_t_0, ka_t_1, ka_t_2, ka_t_3, ka_t_4, ka_t_5, ka_t_6, ka_t_7, ka_t_8, ka_t_9, ka_t_10, ka_t_11, ka_t_12, ka_t_13, ka_t_14, ka_t_15, ka_t_16, ka_t_17, ka_t_18, ka_t_19, ka_t_20, ka_t_25, ka_t_26, ka_t_28, ka_t_30, ka_t_31, ka_t_32, ka_t_33, ka_t_37, ka_t_38, ka_t_39, ka_t_40, ka_t_41, ka_t_42, ka_t_43, ka_t_45, ka_t_47, ka_t_48, ka_t_50, ka_t_57, ka_t_60, ka_t_61, ka_t_62, ka_t_63, ka_t_64, ka_t_65, ka_t_69, ka_t_70, ka_t_71, ka_t_80, ka_t_85, ka_t_87, ka_t_98, ka_t_99, ka_t_100, ka_t_104, ka_t_107, ka_t_109, ka_t_110, ka_t_112, ka_t_115, ka_t_116, ka_t_117, ka_t_124, ka_t_125, ka_t_160, ka_t_200, ka_t_207, ka_t_255, ka_t_260, ka_t_400, ka_t_624, ka_t_625, ka_t_999, ka_t_9999, ka_t_10000, ka_t_20000, ka_t_20033, ka_t_999999, ka_t_1000000000, ka_t_m1, ka_t_m2, ka_t_m3, ka_t_m5, ka_t_m9, ka_t_m10, ka_t_m1000000000]; omega
    have h19 := @sp_19 sc d X (c :: P) q2 q7 (by omega)
    have hrk := @rk_6 c
    by_cases hc : rk c < r
    · have h2 : nI (rhd (c :: P)) < nI r := by rw [ka_ilt, ka_nIt (n := rhd (c :: P)) (by show rk c < 2147483648; omega), ka_nIt (n := r) (by omega)]; show (rk c : Int) < r; omega
      refine ⟨X, ?_, ?_, of_r⟩
      · rw [x17_0]
        simp only [x17_1, x17_4, x17_7, x17_8, x17_11, x17_12, x17_15, x17_16, x17_17, x17_20, x17_21, x17_22, x17_25, x17_26, x17_29, x17_30, x17_33, x17_34, x17_35, x17_36, x17_38, x17_41, x17_42, x17_43, x17_46, x17_47, x17_48, x17_51, x17_52, x17_55, x17_56, x17_57, x17_60, x17_63, ka_kk_i, ka_kk_n, ka_cl_i, ka_cl_r, ka_cl_n, or_true, true_or, ka_ne2, ka_ne4, ka_ne5, ka_ne10, not_false_eq_true, not_true_eq_false, if_true, if_false, ka_k_0, ka_k_1, ka_k_2, ka_k_3, ka_k_4, ka_k_5, ka_k_6, ka_k_7, ka_k_8, ka_k_9, ka_k_10, ka_k_11, ka_k_12, ka_k_13, ka_k_14, ka_k_15, ka_k_16, ka_k_17, ka_k_18, ka_k_19, ka_k_20, ka_k_21, ka_k_22, ka_k_23, ka_k_24, ka_k_25, ka_k_26, ka_k_27, ka_k_28, ka_k_29, ka_k_30, ka_k_31, ka_k_32, ka_k_33, ka_k_34, ka_k_35, ka_k_36, ka_k_37, ka_k_38, ka_k_39, ka_k_40, ka_k_41, ka_k_42, ka_k_43, ka_k_44, ka_k_45, ka_k_46, ka_k_47, ka_k_48, ka_k_49, ka_k_50, ka_k_51, ka_k_52, ka_k_53, ka_k_54, ka_k_55, ka_k_56, ka_k_57, ka_k_58, ka_k_59, ka_k_60, ka_k_61, ka_k_62, ka_k_63, ka_k_64, ka_k_65, ka_k_66, ka_k_67, ka_k_68, ka_k_69, ka_k_70, ka_k_71, ka_k_72, ka_k_73, ka_k_74, ka_k_75, ka_k_76, ka_k_77, ka_k_78, ka_k_79, ka_k_80, ka_k_81, ka_k_82, ka_k_83, ka_k_84, ka_k_85, ka_k_86, ka_k_87, ka_k_88, ka_k_89, ka_k_90, ka_k_91, ka_k_92, ka_k_93, ka_k_94, ka_k_95, ka_k_96, ka_k_97, ka_k_98, ka_k_99, ka_k_100, q2', h1, h19, h2]
      · unfold rsl; rw [if_pos hc]; exact h
    · have h2 : ¬ nI (rhd (c :: P)) < nI r := by rw [ka_ilt, ka_nIt (n := rhd (c :: P)) (by show rk c < 2147483648; omega), ka_nIt (n := r) (by omega)]; show ¬ (rk c : Int) < r; omega
      obtain ⟨hin, hcc⟩ := ka_ixs (a := nI P.length) (n := P.length) (m := 50) (ka_nIt (by omega)) (by omega)
      have w33 : ∀ r, kn_row X 61 r 65 = X 65 := fun r => kn_row_off (by decide)
      have w62 : ∀ r, kn_row X 61 r 62 = X 62 := fun r => kn_row_off (by decide)
      have w63 : ∀ r, kn_row X 61 r 63 = X 63 := fun r => kn_row_off (by decide)
      have e4 : ∀ v, kn_up (X 61) 3 v 4 = X 61 4 := fun v => kn_up_ne (by decide)
      have e3 : ∀ v, kn_up (X 61) 3 v 3 = v := fun v => kn_up_at
      have ht : (X 62 1).toInt = T.length := by rw [q6, ka_nIt (by omega)]
      have hs : rsl r (c :: P) T = rsl r P (-c :: T) := by rw [rsl, if_neg hc]
      rw [hs]
      by_cases h33 : c = 33
      · have hcn : X 61 4 = nI (cnt P + 1) := by rw [q3, cnt, if_pos (Or.inl h33), Nat.add_comm]
        generalize hA : kn_row X 61 (kn_up (kn_up (X 61) 3 (nI P.length)) 4 (nI (cnt P))) = A
        have a62 : A 62 = X 62 := by rw [← hA, w62]
        have a63 : A 63 = X 63 := by rw [← hA, w63]
        have h53 := @sp_53 sc (d + 1) A 62 ka_k_62 (-c) T.length (by rw [a62]; exact ht) (by omega)
        generalize hB : kn_row (kn_row A (62 + 1) (kn_up (A (62 + 1)) T.length (-c))) 62 (kn_up (A 62) 1 (A 62 1 + 1)) = B at h53
        have b61 : B 61 = kn_up (kn_up (X 61) 3 (nI P.length)) 4 (nI (cnt P)) := by rw [← hB, kn_row_off (by decide), kn_row_off (by decide), ← hA, kn_row_at]
        have b62 : B 62 = kn_up (X 62) 1 (X 62 1 + 1) := by rw [← hB, kn_row_at, a62]
        have b63 : B 63 = kn_up (X 63) T.length (-c) := by rw [← hB, kn_row_off (by decide), kn_row_at, a63]
        have bo : of X B := fun p x1 x2 x3 x4 => by rw [← hB, kn_row_off x2, kn_row_off x3, ← hA, kn_row_off x1]
        have b65 : B 65 = X 65 := by rw [← hB, kn_row_off (by decide), kn_row_off (by decide), ← hA, kn_row_off (by decide)]
        have hcs : cs B s P (-c :: T) w dl := by
          unfold cs
          rw [b61, b62, b63, b65]
          simp only [kn_up_at, kn_up_ne, Nat.reduceEqDiff, reduceCtorEq, not_false_eq_true]
          refine ⟨q1, trivial, trivial, q4, q5, by rw [q6, List.length_cons, nI_s], q7.2, lk_at q8, fun x hx => q9 x (List.mem_cons_of_mem _ hx), fun _ => trivial⟩
        obtain ⟨Y, y1, y2, y3⟩ := ih (-c :: T) B (.int c) hcs (by rw [List.length_cons]; omega)
        refine ⟨Y, ?_, y2, of_t bo y3⟩
        rw [x17_0]
        simp only [x17_1, x17_4, x17_7, x17_8, x17_11, x17_12, x17_15, x17_16, x17_17, x17_20, x17_21, x17_22, x17_25, x17_26, x17_29, x17_30, x17_33, x17_34, x17_35, x17_36, x17_38, x17_41, x17_42, x17_43, x17_46, x17_47, x17_48, x17_51, x17_52, x17_55, x17_56, x17_57, x17_60, x17_63, ka_kk_i, ka_kk_n, ka_cl_i, ka_cl_r, ka_cl_n, or_true, true_or, ka_ne2, ka_ne4, ka_ne5, ka_ne10, not_false_eq_true, not_true_eq_false, if_true, if_false, ka_k_0, ka_k_1, ka_k_2, ka_k_3, ka_k_4, ka_k_5, ka_k_6, ka_k_7, ka_k_8, ka_k_9, ka_k_10, ka_k_11, ka_k_12, ka_k_13, ka_k_14, ka_k_15, ka_k_16, ka_k_17, ka_k_18, ka_k_19, ka_k_20, ka_k_21, ka_k_22, ka_k_23, ka_k_24, ka_k_25, ka_k_26, ka_k_27, ka_k_28, ka_k_29, ka_k_30, ka_k_31, ka_k_32, ka_k_33, ka_k_34, ka_k_35, ka_k_36, ka_k_37, ka_k_38, ka_k_39, ka_k_40, ka_k_41, ka_k_42, ka_k_43, ka_k_44, ka_k_45, ka_k_46, ka_k_47, ka_k_48, ka_k_49, ka_k_50, ka_k_51, ka_k_52, ka_k_53, ka_k_54, ka_k_55, ka_k_56, ka_k_57, ka_k_58, ka_k_59, ka_k_60, ka_k_61, ka_k_62, ka_k_63, ka_k_64, ka_k_65, ka_k_66, ka_k_67, ka_k_68, ka_k_69, ka_k_70, ka_k_71, ka_k_72, ka_k_73, ka_k_74, ka_k_75, ka_k_76, ka_k_77, ka_k_78, ka_k_79, ka_k_80, ka_k_81, ka_k_82, ka_k_83, ka_k_84, ka_k_85, ka_k_86, ka_k_87, ka_k_88, ka_k_89, ka_k_90, ka_k_91, ka_k_92, ka_k_93, ka_k_94, ka_k_95, ka_k_96, ka_k_97, ka_k_98, ka_k_99, ka_k_100, ka_rf_0_0, ka_rf_0_1, ka_rf_0_2, ka_rf_0_4, ka_rf_0_5, ka_rf_0_6, ka_rf_0_7, ka_rf_0_8, ka_rf_0_9, ka_rf_61_0, ka_rf_61_2, ka_rf_67_0, ka_rf_67_1, ka_rf_67_2, ka_rf_75_0, ka_rf_87_0, ka_rf_87_1, ka_rf_87_2, ka_rf_87_4, ka_rf_87_11, ka_rf_87_12, ka_rf_87_14, ka_rf_87_15, ka_rf_87_16, ka_rf_87_19, ka_rf_87_20, ka_rf_87_21, ka_rf_87_22, ka_ln_63, ka_ln_64, ka_ln_65, ka_ln_68, ka_ln_69, ka_ln_70, ka_ln_76, ka_ln_77, ka_ln_78, ka_ln_80, ka_ln_82, ka_ln_84, ka_ln_86, ka_ln_88, ka_ln_89, ka_ln_90, ka_ln_91, ka_ln_92, ka_ln_93, ka_ln_94, ka_ln_95, ka_ln_96, ka_ln_97, ka_ln_98, ka_ln_99, ka_ln_100, q2', h1, h19, h2, nI_p, kn_put_r, e3, e4, kn_row_at, w33, hin, hcc, q7.1, eq_true h33, hcn, kn_row_row, hA, h53]
        exact y1
      · have hc40 : ¬ c = 40 := by
          intro e
          rw [e] at hc
          exact hc (show rk 40 < r from by rw [show rk 40 = 0 by decide]; omega)
        have hcn : X 61 4 = nI (cnt P) := by rw [q3, cnt, if_neg (by intro e; rcases e with e | e; exact h33 e; exact hc40 e), Nat.zero_add]
        generalize hA : kn_row X 61 (kn_up (X 61) 3 (nI P.length)) = A
        have a613 : A 61 3 = nI P.length := by rw [← hA, kn_row_at, kn_up_at]
        have a65 : A 65 = X 65 := by rw [← hA, w33]
        have a62 : A 62 = X 62 := by rw [← hA, w62]
        have a63 : A 63 = X 63 := by rw [← hA, w63]
        have h53 := @sp_53 sc (d + 1) A 62 ka_k_62 (-c) T.length (by rw [a62]; exact ht) (by omega)
        generalize hB : kn_row (kn_row A (62 + 1) (kn_up (A (62 + 1)) T.length (-c))) 62 (kn_up (A 62) 1 (A 62 1 + 1)) = B at h53
        have b61 : B 61 = kn_up (X 61) 3 (nI P.length) := by rw [← hB, kn_row_off (by decide), kn_row_off (by decide), ← hA, kn_row_at]
        have b62 : B 62 = kn_up (X 62) 1 (X 62 1 + 1) := by rw [← hB, kn_row_at, a62]
        have b63 : B 63 = kn_up (X 63) T.length (-c) := by rw [← hB, kn_row_off (by decide), kn_row_at, a63]
        have bo : of X B := fun p x1 x2 x3 x4 => by rw [← hB, kn_row_off x2, kn_row_off x3, ← hA, kn_row_off x1]
        have b65 : B 65 = X 65 := by rw [← hB, kn_row_off (by decide), kn_row_off (by decide), ← hA, kn_row_off (by decide)]
        have hcs : cs B s P (-c :: T) w dl := by
          unfold cs
          rw [b61, b62, b63, b65]
          simp only [kn_up_at, kn_up_ne, Nat.reduceEqDiff, reduceCtorEq, not_false_eq_true]
          refine ⟨q1, trivial, hcn, q4, q5, by rw [q6, List.length_cons, nI_s], q7.2, lk_at q8, fun x hx => q9 x (List.mem_cons_of_mem _ hx), fun _ => trivial⟩
        obtain ⟨Y, y1, y2, y3⟩ := ih (-c :: T) B (.int c) hcs (by rw [List.length_cons]; omega)
        refine ⟨Y, ?_, y2, of_t bo y3⟩
        rw [x17_0]
        simp only [x17_1, x17_4, x17_7, x17_8, x17_11, x17_12, x17_15, x17_16, x17_17, x17_20, x17_21, x17_22, x17_25, x17_26, x17_29, x17_30, x17_33, x17_34, x17_35, x17_36, x17_38, x17_41, x17_42, x17_43, x17_46, x17_47, x17_48, x17_51, x17_52, x17_55, x17_56, x17_57, x17_60, x17_63, ka_kk_i, ka_kk_n, ka_cl_i, ka_cl_r, ka_cl_n, or_true, true_or, ka_ne2, ka_ne4, ka_ne5, ka_ne10, not_false_eq_true, not_true_eq_false, if_true, if_false, ka_k_0, ka_k_1, ka_k_2, ka_k_3, ka_k_4, ka_k_5, ka_k_6, ka_k_7, ka_k_8, ka_k_9, ka_k_10, ka_k_11, ka_k_12, ka_k_13, ka_k_14, ka_k_15, ka_k_16, ka_k_17, ka_k_18, ka_k_19, ka_k_20, ka_k_21, ka_k_22, ka_k_23, ka_k_24, ka_k_25, ka_k_26, ka_k_27, ka_k_28, ka_k_29, ka_k_30, ka_k_31, ka_k_32, ka_k_33, ka_k_34, ka_k_35, ka_k_36, ka_k_37, ka_k_38, ka_k_39, ka_k_40, ka_k_41, ka_k_42, ka_k_43, ka_k_44, ka_k_45, ka_k_46, ka_k_47, ka_k_48, ka_k_49, ka_k_50, ka_k_51, ka_k_52, ka_k_53, ka_k_54, ka_k_55, ka_k_56, ka_k_57, ka_k_58, ka_k_59, ka_k_60, ka_k_61, ka_k_62, ka_k_63, ka_k_64, ka_k_65, ka_k_66, ka_k_67, ka_k_68, ka_k_69, ka_k_70, ka_k_71, ka_k_72, ka_k_73, ka_k_74, ka_k_75, ka_k_76, ka_k_77, ka_k_78, ka_k_79, ka_k_80, ka_k_81, ka_k_82, ka_k_83, ka_k_84, ka_k_85, ka_k_86, ka_k_87, ka_k_88, ka_k_89, ka_k_90, ka_k_91, ka_k_92, ka_k_93, ka_k_94, ka_k_95, ka_k_96, ka_k_97, ka_k_98, ka_k_99, ka_k_100, ka_rf_0_0, ka_rf_0_1, ka_rf_0_2, ka_rf_0_4, ka_rf_0_5, ka_rf_0_6, ka_rf_0_7, ka_rf_0_8, ka_rf_0_9, ka_rf_61_0, ka_rf_61_2, ka_rf_67_0, ka_rf_67_1, ka_rf_67_2, ka_rf_75_0, ka_rf_87_0, ka_rf_87_1, ka_rf_87_2, ka_rf_87_4, ka_rf_87_11, ka_rf_87_12, ka_rf_87_14, ka_rf_87_15, ka_rf_87_16, ka_rf_87_19, ka_rf_87_20, ka_rf_87_21, ka_rf_87_22, ka_ln_63, ka_ln_64, ka_ln_65, ka_ln_68, ka_ln_69, ka_ln_70, ka_ln_76, ka_ln_77, ka_ln_78, ka_ln_80, ka_ln_82, ka_ln_84, ka_ln_86, ka_ln_88, ka_ln_89, ka_ln_90, ka_ln_91, ka_ln_92, ka_ln_93, ka_ln_94, ka_ln_95, ka_ln_96, ka_ln_97, ka_ln_98, ka_ln_99, ka_ln_100, q2', h1, h19, h2, nI_p, kn_put_r, e3, e4, kn_row_at, w33, hin, hcc, q7.1, eq_false h33, hA, a613, a65, h53]
        exact y1
end
