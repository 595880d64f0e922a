/-! the two readers, sign by sign -/
/-- what is settled -/
def pd : List Int32 → List Int32 → List Int32
  | [], R => R
  | c :: Q, R => pd Q (-c :: R)
theorem pd_app : ∀ {Q R T : List Int32}, pd Q (R ++ T) = pd Q R ++ T
  | [], _, _ => rfl
  | c :: Q, R, T => by
    show pd Q (-c :: (R ++ T)) = pd Q (-c :: R) ++ T
    exact pd_app (R := -c :: R)
theorem pd_snoc {c : Int32} : ∀ {Q R : List Int32}, pd (Q ++ [c]) R = -c :: pd Q R
  | [], _ => rfl
  | q :: Q, R => by
    show pd (Q ++ [c]) (-q :: R) = -c :: pd Q (-q :: R)
    exact pd_snoc
theorem sl_pd {a : Nat} : ∀ {Q P R : List Int32}, (∀ c, c ∈ Q → a ≤ rk c) → rhd P < a → rsl a (Q ++ P) R = (P, pd Q R)
  | [], [], _, _, _ => rfl
  | [], p :: P, R, _, h => by
    show rsl a (p :: P) R = (p :: P, R)
    rw [rsl, if_pos (show rk p < a from h)]
  | c :: Q, P, R, h, h2 => by
    show rsl a (c :: (Q ++ P)) R = (P, pd Q (-c :: R))
    have := h c List.mem_cons_self
    rw [rsl, if_neg (by omega)]
    exact sl_pd (fun x hx => h x (List.mem_cons_of_mem _ hx)) h2
/-- the pile's height over a code, laid last first -/
def stp (x : Int32) (u t : Nat) : Prop := (0 ≤ x.toInt ∧ x.toInt ≤ 10003 ∧ t = u + 1) ∨ (x = 20033 ∧ 1 ≤ u ∧ t = u) ∨ (20000 < x.toInt ∧ x.toInt < 21000 ∧ ¬ x = 20033 ∧ 2 ≤ u ∧ t = u - 1)
def ev : List Int32 → Nat → Nat → Prop
  | [], t, u => u = t
  | x :: D, t, u => ∃ v, ev D t v ∧ stp x v u
theorem ev_app : ∀ {D2 D : List Int32} {t u v : Nat}, ev D t u → ev D2 u v → ev (D2 ++ D) t v
  | [], _, _, _, _, h1, h2 => by
    have h2' : _ = _ := h2
    subst h2'
    exact h1
  | x :: D2, D, t, u, v, h1, ⟨w, a, b⟩ => ⟨w, ev_app h1 a, b⟩
theorem ev_mw {f : Nat → Int32} {i : Nat} : ∀ {D : List Int32} {t u m : Nat}, ev D t u → (∀ C : List Int32, True) → lk (fun j => f (i + j)) D → mw_ok f m (i + D.length) u → mw_ok f (D.length + m) i t
  | [], t, u, m, h, _, _, h2 => by
    have h' : u = t := h
    subst h'
    rw [List.length_nil, Nat.zero_add]
    exact h2
  | x :: D, t, u, m, ⟨v, a, b⟩, z, l, h2 => by
    rw [List.length_cons] at h2 ⊢
    have hx : f (i + D.length) = x := l.1
    have : mw_ok f (m + 1) (i + D.length) v := by
      show _ ∨ _ ∨ _
      rw [hx]
      rcases b with ⟨b1, b2, b3⟩ | ⟨b1, b2, b3⟩ | ⟨b1, b2, b3, b4, b5⟩
      · exact Or.inl ⟨b1, b2, b3 ▸ h2⟩
      · exact Or.inr (Or.inl ⟨b1, b2, b3 ▸ h2⟩)
      · exact Or.inr (Or.inr ⟨b1, b2, b3, b4, b5 ▸ h2⟩)
    have := ev_mw (i := i) (D := D) (m := m + 1) a z l.2 this
    rw [show D.length + 1 + m = D.length + (m + 1) by omega]
    exact this
def G (k : Int32) (B : Nat → Int32) (n o r i j : Nat) (Q R : List Int32) (dl : Nat) : Prop := ∀ P T, rhd P < r → cnt P = o → au k B (n - i) i P T true 0 = au k B (n - j) j (Q ++ P) (R ++ T) false dl
def hi (r : Nat) (Q : List Int32) : Prop := ∀ c, c ∈ Q → r ≤ rk c ∨ rk c = 6
/-- where a level stops -/
def sto (k : Int32) (B : Nat → Int32) (n o a r j : Nat) (Q R : List Int32) (dl : Nat) : Prop := j = n ∨ B j = 41 ∨ (1 ≤ rk (B j) ∧ rk (B j) < a ∧ rk (B j) ≤ 5) ∨ ∀ P T, rhd P < r → cnt P = o → au k B (n - j) j (Q ++ P) (R ++ T) false dl = .inl j
/-- what a level has read -/
def good (k : Int32) (B : Nat → Int32) (n o r i j : Nat) (Q R : List Int32) (dl : Nat) (D : List Int32) : Prop := hi r Q ∧ G k B n o r i j Q R dl ∧ D.map mw_cd = pd Q R ∧ (∀ t, ev D t (t + 1)) ∧ i < j ∧ j ≤ n ∧ D.length + i ≤ j
def lv (r : Nat) : Nat := if r = 3 then 4 else r
theorem dg_rk {c : Int32} (h : 1 ≤ rk c) : ¬ (48 ≤ c.toInt ∧ c.toInt ≤ 57) ∧ ¬ c = 41 := by
  constructor
  · intro q
    have e : rk c = 0 := by
      unfold rk
      have f : ∀ x : Int32, (x.toInt < 48 ∨ 57 < x.toInt) → ¬ c = x := by
        intro x hx e
        subst e
        omega
      rw [if_neg (f _ (by decide)), if_neg (f _ (by decide)), if_neg (f _ (by decide)), if_neg (f _ (by decide)), if_neg (f _ (by decide)), if_neg (f _ (by decide)), if_neg (f _ (by decide)), if_neg (f _ (by decide)), if_neg (f _ (by decide)), if_neg (f _ (by decide)), if_neg (f _ (by decide))]
    omega
  · rintro rfl
    exact absurd h (by decide)
theorem rk_op {c : Int32} (h : 1 ≤ rk c ∧ rk c ≤ 5) : ¬ (c = 33 ∨ c = 40) := by
  rintro (rfl | rfl)
  · exact absurd h.2 (by decide)
  · exact absurd h.1 (by decide)
theorem au_s {k : Int32} {B : Nat → Int32} {n j : Nat} {P T : List Int32} {w : Bool} {dl : Nat} (h : j < n) : au k B (n - j) j P T w dl = match (if w = true then o1 k (B j) P T dl else b1 (B j) P T dl) with
    | none => .inl j
    | some (P', T', w', dl') => au k B (n - (j + 1)) (j + 1) P' T' w' dl' := by
  obtain ⟨m, hm⟩ : ∃ m, n - j = m + 1 := ⟨n - j - 1, by omega⟩
  rw [hm, show n - (j + 1) = m by omega]
  rfl
theorem au_b {k : Int32} {B : Nat → Int32} {n j : Nat} {P T P' T' : List Int32} {w' : Bool} {dl dl' : Nat} (h : j < n) (e : b1 (B j) P T dl = some (P', T', w', dl')) : au k B (n - j) j P T false dl = au k B (n - (j + 1)) (j + 1) P' T' w' dl' := by
  rw [au_s h, if_neg Bool.false_ne_true, e]
theorem au_bn {k : Int32} {B : Nat → Int32} {n j : Nat} {P T : List Int32} {dl : Nat} (h : j < n) (e : b1 (B j) P T dl = none) : au k B (n - j) j P T false dl = .inl j := by
  rw [au_s h, if_neg Bool.false_ne_true, e]
theorem au_o {k : Int32} {B : Nat → Int32} {n j : Nat} {P T P' T' : List Int32} {w' : Bool} {dl dl' : Nat} (h : j < n) (e : o1 k (B j) P T dl = some (P', T', w', dl')) : au k B (n - j) j P T true dl = au k B (n - (j + 1)) (j + 1) P' T' w' dl' := by
  rw [au_s h, if_pos rfl, e]
theorem au_on {k : Int32} {B : Nat → Int32} {n j : Nat} {P T : List Int32} {dl : Nat} (h : j < n) (e : o1 k (B j) P T dl = none) : au k B (n - j) j P T true dl = .inl j := by
  rw [au_s h, if_pos rfl, e]
/-- an operator behind an operand -/
theorem b1_op {c : Int32} {r : Nat} {Q R P T : List Int32} {dl : Nat} (hr : rk c = r) (h15 : 1 ≤ r ∧ r ≤ 5) (hQ : hi (lv r) Q) (hP : rhd P < r) : b1 c (Q ++ P) (R ++ T) dl = some (c :: P, pd Q R ++ T, true, 0) := by
  obtain ⟨z1, z2⟩ := dg_rk (c := c) (by omega)
  have hl : (if rk c = 3 then 4 else rk c) = lv r := by rw [hr]; rfl
  have hlv : r ≤ lv r ∧ lv r ≤ 6 := by unfold lv; split <;> omega
  have hs : rsl (lv r) (Q ++ P) (R ++ T) = (P, pd Q R ++ T) := by
    rw [sl_pd (fun x hx => by rcases hQ x hx with e | e <;> omega) (by omega), pd_app]
  unfold b1
  rw [if_neg z1, if_neg z2, if_neg (not_not_intro (by omega)), hl, hs]
  rw [if_neg (by intro e; have : rhd P = 3 := e.2; omega)]
/-- two levels' reading, an operator between -/
theorem good_op {k : Int32} {B : Nat → Int32} {n o r s i j j2 : Nat} {Q R Q2 R2 D D2 : List Int32} {dl dl2 : Nat} (h15 : 1 ≤ r ∧ r ≤ 5) (hs : r < s) (g : good k B n o r i j Q R dl D) (hQ : hi (lv r) Q) (hj : j < n) (hr : rk (B j) = r) (g2 : good k B n o s (j + 1) j2 Q2 R2 dl2 D2) : good k B n o r i j2 (Q2 ++ [B j]) (R2 ++ pd Q R) dl2 ((20000 + B j) :: (D2 ++ D)) := by
  obtain ⟨a1, a2, a3, a4, a5, a6, a7⟩ := g
  obtain ⟨b1', b2, b3, b4, b5, b6, b7⟩ := g2
  have hc := rk_op (c := B j) (by omega)
  have hv : (0 : Int) < (B j).toInt ∧ (B j).toInt < 125 := by
    unfold rk at hr
    (repeat' split at hr) <;> first | (exfalso; omega) | (rename_i e; rw [e]; decide)
  have t2 : (20000 + B j).toInt = 20000 + (B j).toInt := by rw [ka_add (by simp only [ka_t_0, ka_t_1, ka_t_2, ka_t_3, ka_t_4, ka_t_5, ka_t_6, ka_t_7, ka_t_8, ka_t_9, ka_t_10, ka_t_11, ka_t_12, ka_t_13, ka_t_14, ka_t_15, ka_t_16, ka_t_17, ka_t_18, ka_t_19, ka_t_20, ka_t_25, ka_t_26, ka_t_28, ka_t_30, ka_t_31, ka_t_32, ka_t_33, ka_t_37, ka_t_38, ka_t_39, ka_t_40, ka_t_41, ka_t_42, ka_t_43, ka_t_45, ka_t_47, ka_t_48, ka_t_50, ka_t_57, ka_t_60, ka_t_61, ka_t_62, ka_t_63, ka_t_64, ka_t_65, ka_t_69, ka_t_70, ka_t_71, ka_t_80, ka_t_85, ka_t_87, ka_t_98, ka_t_99, ka_t_100, ka_t_104, ka_t_107, ka_t_109, ka_t_110, ka_t_112, ka_t_115, ka_t_116, ka_t_117, ka_t_124, ka_t_125, ka_t_160, ka_t_200, ka_t_207, ka_t_255, ka_t_260, ka_t_400, ka_t_624, ka_t_625, ka_t_999, ka_t_9999, ka_t_10000, ka_t_20000, ka_t_20033, ka_t_999999, ka_t_1000000000, ka_t_m1, ka_t_m2, ka_t_m3, ka_t_m5, ka_t_m9, ka_t_m10, ka_t_m1000000000]; omega)]; simp only [ka_t_0, ka_t_1, ka_t_2, ka_t_3, ka_t_4, ka_t_5, ka_t_6, ka_t_7, ka_t_8, ka_t_9, ka_t_10, ka_t_11, ka_t_12, ka_t_13, ka_t_14, ka_t_15, ka_t_16, ka_t_17, ka_t_18, ka_t_19, ka_t_20, ka_t_25, ka_t_26, ka_t_28, ka_t_30, ka_t_31, ka_t_32, ka_t_33, ka_t_37, ka_t_38, ka_t_39, ka_t_40, ka_t_41, ka_t_42, ka_t_43, ka_t_45, ka_t_47, ka_t_48, ka_t_50, ka_t_57, ka_t_60, ka_t_61, ka_t_62, ka_t_63, ka_t_64, ka_t_65, ka_t_69, ka_t_70, ka_t_71, ka_t_80, ka_t_85, ka_t_87, ka_t_98, ka_t_99, ka_t_100, ka_t_104, ka_t_107, ka_t_109, ka_t_110, ka_t_112, ka_t_115, ka_t_116, ka_t_117, ka_t_124, ka_t_125, ka_t_160, ka_t_200, ka_t_207, ka_t_255, ka_t_260, ka_t_400, ka_t_624, ka_t_625, ka_t_999, ka_t_9999, ka_t_10000, ka_t_20000, ka_t_20033, ka_t_999999, ka_t_1000000000, ka_t_m1, ka_t_m2, ka_t_m3, ka_t_m5, ka_t_m9, ka_t_m10, ka_t_m1000000000]
  refine ⟨?_, ?_, ?_, ?_, by omega, by omega, by rw [List.length_cons, List.length_append]; omega⟩
  · intro c hc
    rcases List.mem_append.mp hc with e | e
    · rcases b1' c e with x | x
      · exact Or.inl (by omega)
      · exact Or.inr x
    · rw [List.mem_singleton.mp e]; exact Or.inl (by omega)
  · intro P T hP hcn
    rw [a2 P T hP hcn, au_b hj (b1_op hr h15 hQ hP), b2 (B j :: P) (pd Q R ++ T) (by show rk (B j) < s; omega) (by rw [cnt, if_neg hc, Nat.zero_add]; exact hcn)]
    rw [List.append_assoc, List.append_assoc]
    rfl
  · rw [List.map_cons, List.map_append, a3, b3, pd_snoc, pd_app]
    congr 1
    rw [mw_cd, if_neg (by omega), ← Int32.zero_sub]
    apply ka_eq_lit
    rw [ka_sub (by rw [t2]; simp only [ka_t_0, ka_t_1, ka_t_2, ka_t_3, ka_t_4, ka_t_5, ka_t_6, ka_t_7, ka_t_8, ka_t_9, ka_t_10, ka_t_11, ka_t_12, ka_t_13, ka_t_14, ka_t_15, ka_t_16, ka_t_17, ka_t_18, ka_t_19, ka_t_20, ka_t_25, ka_t_26, ka_t_28, ka_t_30, ka_t_31, ka_t_32, ka_t_33, ka_t_37, ka_t_38, ka_t_39, ka_t_40, ka_t_41, ka_t_42, ka_t_43, ka_t_45, ka_t_47, ka_t_48, ka_t_50, ka_t_57, ka_t_60, ka_t_61, ka_t_62, ka_t_63, ka_t_64, ka_t_65, ka_t_69, ka_t_70, ka_t_71, ka_t_80, ka_t_85, ka_t_87, ka_t_98, ka_t_99, ka_t_100, ka_t_104, ka_t_107, ka_t_109, ka_t_110, ka_t_112, ka_t_115, ka_t_116, ka_t_117, ka_t_124, ka_t_125, ka_t_160, ka_t_200, ka_t_207, ka_t_255, ka_t_260, ka_t_400, ka_t_624, ka_t_625, ka_t_999, ka_t_9999, ka_t_10000, ka_t_20000, ka_t_20033, ka_t_999999, ka_t_1000000000, ka_t_m1, ka_t_m2, ka_t_m3, ka_t_m5, ka_t_m9, ka_t_m10, ka_t_m1000000000]; omega), t2, ka_sub (by simp only [ka_t_0, ka_t_1, ka_t_2, ka_t_3, ka_t_4, ka_t_5, ka_t_6, ka_t_7, ka_t_8, ka_t_9, ka_t_10, ka_t_11, ka_t_12, ka_t_13, ka_t_14, ka_t_15, ka_t_16, ka_t_17, ka_t_18, ka_t_19, ka_t_20, ka_t_25, ka_t_26, ka_t_28, ka_t_30, ka_t_31, ka_t_32, ka_t_33, ka_t_37, ka_t_38, ka_t_39, ka_t_40, ka_t_41, ka_t_42, ka_t_43, ka_t_45, ka_t_47, ka_t_48, ka_t_50, ka_t_57, ka_t_60, ka_t_61, ka_t_62, ka_t_63, ka_t_64, ka_t_65, ka_t_69, ka_t_70, ka_t_71, ka_t_80, ka_t_85, ka_t_87, ka_t_98, ka_t_99, ka_t_100, ka_t_104, ka_t_107, ka_t_109, ka_t_110, ka_t_112, ka_t_115, ka_t_116, ka_t_117, ka_t_124, ka_t_125, ka_t_160, ka_t_200, ka_t_207, ka_t_255, ka_t_260, ka_t_400, ka_t_624, ka_t_625, ka_t_999, ka_t_9999, ka_t_10000, ka_t_20000, ka_t_20033, ka_t_999999, ka_t_1000000000, ka_t_m1, ka_t_m2, ka_t_m3, ka_t_m5, ka_t_m9, ka_t_m10, ka_t_m1000000000]; omega)]
    simp only [ka_t_0, ka_t_1, ka_t_2, ka_t_3, ka_t_4, ka_t_5, ka_t_6, ka_t_7, ka_t_8, ka_t_9, ka_t_10, ka_t_11, ka_t_12, ka_t_13, ka_t_14, ka_t_15, ka_t_16, ka_t_17, ka_t_18, ka_t_19, ka_t_20, ka_t_25, ka_t_26, ka_t_28, ka_t_30, ka_t_31, ka_t_32, ka_t_33, ka_t_37, ka_t_38, ka_t_39, ka_t_40, ka_t_41, ka_t_42, ka_t_43, ka_t_45, ka_t_47, ka_t_48, ka_t_50, ka_t_57, ka_t_60, ka_t_61, ka_t_62, ka_t_63, ka_t_64, ka_t_65, ka_t_69, ka_t_70, ka_t_71, ka_t_80, ka_t_85, ka_t_87, ka_t_98, ka_t_99, ka_t_100, ka_t_104, ka_t_107, ka_t_109, ka_t_110, ka_t_112, ka_t_115, ka_t_116, ka_t_117, ka_t_124, ka_t_125, ka_t_160, ka_t_200, ka_t_207, ka_t_255, ka_t_260, ka_t_400, ka_t_624, ka_t_625, ka_t_999, ka_t_9999, ka_t_10000, ka_t_20000, ka_t_20033, ka_t_999999, ka_t_1000000000, ka_t_m1, ka_t_m2, ka_t_m3, ka_t_m5, ka_t_m9, ka_t_m10, ka_t_m1000000000]
    omega
  · intro t
    refine ⟨t + 2, ev_app (a4 t) (b4 (t + 1)), Or.inr (Or.inr ⟨by rw [t2]; omega, by rw [t2]; omega, ?_, by omega, by omega⟩)⟩
    intro e
    have := congrArg Int32.toInt e
    rw [t2] at this
    simp only [ka_t_0, ka_t_1, ka_t_2, ka_t_3, ka_t_4, ka_t_5, ka_t_6, ka_t_7, ka_t_8, ka_t_9, ka_t_10, ka_t_11, ka_t_12, ka_t_13, ka_t_14, ka_t_15, ka_t_16, ka_t_17, ka_t_18, ka_t_19, ka_t_20, ka_t_25, ka_t_26, ka_t_28, ka_t_30, ka_t_31, ka_t_32, ka_t_33, ka_t_37, ka_t_38, ka_t_39, ka_t_40, ka_t_41, ka_t_42, ka_t_43, ka_t_45, ka_t_47, ka_t_48, ka_t_50, ka_t_57, ka_t_60, ka_t_61, ka_t_62, ka_t_63, ka_t_64, ka_t_65, ka_t_69, ka_t_70, ka_t_71, ka_t_80, ka_t_85, ka_t_87, ka_t_98, ka_t_99, ka_t_100, ka_t_104, ka_t_107, ka_t_109, ka_t_110, ka_t_112, ka_t_115, ka_t_116, ka_t_117, ka_t_124, ka_t_125, ka_t_160, ka_t_200, ka_t_207, ka_t_255, ka_t_260, ka_t_400, ka_t_624, ka_t_625, ka_t_999, ka_t_9999, ka_t_10000, ka_t_20000, ka_t_20033, ka_t_999999, ka_t_1000000000, ka_t_m1, ka_t_m2, ka_t_m3, ka_t_m5, ka_t_m9, ka_t_m10, ka_t_m1000000000] at this
    exact hc (Or.inl (ka_eq_lit (by simp only [ka_t_0, ka_t_1, ka_t_2, ka_t_3, ka_t_4, ka_t_5, ka_t_6, ka_t_7, ka_t_8, ka_t_9, ka_t_10, ka_t_11, ka_t_12, ka_t_13, ka_t_14, ka_t_15, ka_t_16, ka_t_17, ka_t_18, ka_t_19, ka_t_20, ka_t_25, ka_t_26, ka_t_28, ka_t_30, ka_t_31, ka_t_32, ka_t_33, ka_t_37, ka_t_38, ka_t_39, ka_t_40, ka_t_41, ka_t_42, ka_t_43, ka_t_45, ka_t_47, ka_t_48, ka_t_50, ka_t_57, ka_t_60, ka_t_61, ka_t_62, ka_t_63, ka_t_64, ka_t_65, ka_t_69, ka_t_70, ka_t_71, ka_t_80, ka_t_85, ka_t_87, ka_t_98, ka_t_99, ka_t_100, ka_t_104, ka_t_107, ka_t_109, ka_t_110, ka_t_112, ka_t_115, ka_t_116, ka_t_117, ka_t_124, ka_t_125, ka_t_160, ka_t_200, ka_t_207, ka_t_255, ka_t_260, ka_t_400, ka_t_624, ka_t_625, ka_t_999, ka_t_9999, ka_t_10000, ka_t_20000, ka_t_20033, ka_t_999999, ka_t_1000000000, ka_t_m1, ka_t_m2, ka_t_m3, ka_t_m5, ka_t_m9, ka_t_m10, ka_t_m1000000000]; omega)))
/-- a second comparison is no operator -/
theorem sto_cmp {k : Int32} {B : Nat → Int32} {n o j : Nat} {Q R : List Int32} {c : Int32} {dl : Nat} (hj : j < n) (hQ : hi 4 Q) (hc : rk c = 3) (hr : rk (B j) = 3) (P T : List Int32) : au k B (n - j) j (Q ++ [c] ++ P) (R ++ T) false dl = .inl j := by
  apply au_bn hj
  obtain ⟨z1, z2⟩ := dg_rk (c := B j) (by omega)
  have hs : rsl 4 (Q ++ (c :: P)) (R ++ T) = (c :: P, pd Q (R ++ T)) := sl_pd (fun x hx => by rcases hQ x hx with e | e <;> omega) (by show rk c < 4; omega)
  rw [List.append_assoc]
  show b1 (B j) (Q ++ (c :: P)) (R ++ T) dl = none
  unfold b1
  rw [if_neg z1, if_neg z2, if_neg (not_not_intro (by omega)), if_pos hr, hs, if_pos ⟨hr, hc⟩]
/-- what a unit leaves behind it -/
theorem sto_any {k : Int32} {B : Nat → Int32} {n o r j : Nat} {Q R : List Int32} {dl : Nat} (hj : j ≤ n) (h : j < n → 48 ≤ (B j).toInt ∧ (B j).toInt ≤ 57 → dl = 0) : sto k B n o 7 r j Q R dl := by
  by_cases c0 : j = n
  · exact Or.inl c0
  by_cases c1 : B j = 41
  · exact Or.inr (Or.inl c1)
  by_cases c2 : 1 ≤ rk (B j) ∧ rk (B j) ≤ 5
  · exact Or.inr (Or.inr (Or.inl ⟨c2.1, by omega, c2.2⟩))
  refine Or.inr (Or.inr (Or.inr fun P T _ _ => au_bn (by omega) ?_))
  unfold b1
  by_cases c3 : 48 ≤ (B j).toInt ∧ (B j).toInt ≤ 57
  · rw [if_pos c3, if_pos (h (by omega) c3)]
  · rw [if_neg c3, if_neg c1, if_pos c2]
