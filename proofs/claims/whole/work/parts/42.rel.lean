/-! a street of the class and a row of the model tell the same -/
def rl_s (b : Nat) (X : ka_X) (D : Nat → Int32) : Prop := X b 1 = D 9 ∧ X b 2 = D 8 ∧ X b 3 = D 7 ∧ X b 4 = D 4 ∧ X b 5 = D 5 ∧ X b 6 = D 6 ∧ X b 11 = D 11 ∧ X b 13 = D 12 ∧ X b 14 = D 10
def rl_r (b : Nat) (X : ka_X) (D : Nat → Int32) : Prop := ∀ j, j < 4 → X (b + 2) j = D j
def rl_k (b : Nat) (X : ka_X) (D : Nat → Int32) : Prop := ∀ k, k < (D 9).toInt.toNat → ∀ f, f < 9 → X (b + 12 + k) f = D (13 + 9 * k + f)
def rl_t (p : Nat) (X : ka_X) (D : Nat → Int32) (u : Nat) : Prop := X p 1 = D (85 + u) ∧ ∀ j, j < (D (85 + u)).toInt.toNat → X (p + 1) j = mw_cd (D (107 + 50 * u + j))
def rl_w (b : Nat) (X : ka_X) (D : Nat → Int32) : Prop := ∀ j, j < (D 11).toInt.toNat → X (b + 9) j = D (207 + j) ∧ 0 ≤ (D (207 + j)).toInt ∧ (D (207 + j)).toInt ≤ 255
def rl_n (b : Nat) (X : ka_X) (D : Nat → Int32) : Prop := ∀ j, j < (D 12).toInt.toNat → X (b + 10) j = D (87 + j)
def rl (b : Nat) (X : ka_X) (D : Nat → Int32) : Prop := rl_s b X D ∧ rl_r b X D ∧ rl_k b X D ∧ rl_t (b + 3) X D 0 ∧ rl_t (b + 6) X D 1 ∧ rl_w b X D ∧ rl_n b X D
/-- what holds of a row of the model, always -/
def dk (D : Nat → Int32) : Prop := (0 ≤ (D 9).toInt ∧ (D 9).toInt ≤ 8) ∧ (∀ k, k < (D 9).toInt.toNat → kn_ok (md_kd D k)) ∧ (∀ j, j < 5 → 0 ≤ (D j).toInt ∧ (D j).toInt ≤ 9) ∧ (0 ≤ (D 5).toInt ∧ (D 5).toInt ≤ 20) ∧ (1 ≤ (D 6).toInt ∧ (D 6).toInt ≤ 12) ∧ (0 ≤ (D 7).toInt ∧ (D 7).toInt ≤ 999999) ∧ 0 ≤ (D 8).toInt ∧ (0 ≤ (D 11).toInt ∧ (D 11).toInt ≤ 50) ∧ (0 ≤ (D 12).toInt ∧ (D 12).toInt ≤ 20) ∧ gv_ok D 0 ∧ gv_ok D 1
/-- what a day changes of a row: purse, day, z, the knives -/
def ch (D E : Nat → Int32) : Prop := ∀ j, ¬ j = 7 → ¬ j = 8 → ¬ j = 10 → (j < 13 ∨ 85 ≤ j) → E j = D j
theorem ch_refl {D : Nat → Int32} : ch D D := fun _ _ _ _ _ => rfl
theorem ch_trans {D E F : Nat → Int32} (h : ch D E) (g : ch E F) : ch D F := fun j a b c e => (g j a b c e).trans (h j a b c e)
theorem ch_wk {D : Nat → Int32} {k : Nat} {x : Nat → Int32} (hk : k < 8) : ch D (md_wk D k x) := by
  intro j _ _ _ h
  unfold md_wk
  rw [if_neg (by omega)]
theorem ch_up {D : Nat → Int32} {j : Nat} {v : Int32} (hj : j = 7 ∨ j = 8 ∨ j = 10) : ch D (kn_up D j v) := by
  intro i a b c _
  exact kn_up_ne (by omega)
theorem mw_ok_congr {c c2 : Nat → Int32} : ∀ {n i t : Nat}, (∀ j, i ≤ j → c2 j = c j) → mw_ok c n i t → mw_ok c2 n i t := by
  intro n
  induction n with
  | zero => intro i t _ h; exact h
  | succ n ih =>
    intro i t hc h
    have e := hc i (Nat.le_refl _)
    have hc2 : ∀ j, i + 1 ≤ j → c2 j = c j := fun j hj => hc j (by omega)
    rcases h with ⟨h0, h1, h⟩ | ⟨h1, h2, h⟩ | ⟨h0, h1, h2, h3, h⟩
    · exact Or.inl ⟨by rw [e]; exact h0, by rw [e]; exact h1, ih hc2 h⟩
    · exact Or.inr (Or.inl ⟨by rw [e]; exact h1, h2, ih hc2 h⟩)
    · exact Or.inr (Or.inr ⟨by rw [e]; exact h0, by rw [e]; exact h1, by rw [e]; exact h2, h3, ih hc2 h⟩)
theorem mw_go_congr {c c2 m : Nat → Int32} : ∀ {n i t : Nat} {k : Nat → Int32}, (∀ j, i ≤ j → c2 j = c j) → mw_go c2 m n i t k = mw_go c m n i t k := by
  intro n
  induction n with
  | zero => intro i t k _; rfl
  | succ n ih =>
    intro i t k hc
    have hc2 : ∀ j, i + 1 ≤ j → c2 j = c j := fun j hj => hc j (by omega)
    simp only [mw_go, hc i (Nat.le_refl _), ih hc2]
theorem gv_ok_ch {D E : Nat → Int32} {u : Nat} (h : ∀ j, 85 ≤ j → E j = D j) (g : gv_ok D u) : gv_ok E u := by
  unfold gv_ok at g ⊢
  rw [h _ (by omega)]
  exact ⟨g.1, g.2.1, fun q => mw_ok_congr (fun j hj => h j (by omega)) (g.2.2 q)⟩
theorem ch_hi {D E : Nat → Int32} (h : ch D E) : ∀ j, 85 ≤ j → E j = D j := fun j hj => h j (by omega) (by omega) (by omega) (Or.inr hj)
theorem gv_t_ch {D E : Nat → Int32} {u : Nat} {a b c f : Int32} (h : ∀ j, 85 ≤ j → E j = D j) : gv_t E u a b c f = gv_t D u a b c f := by
  unfold gv_t
  rw [h _ (by omega), mw_go_congr (fun j hj => h j (by omega))]
theorem gv_w_ch {D E : Nat → Int32} {a b c f : Int32} (h : ∀ j, 85 ≤ j → E j = D j) : gv_w E a b c f = gv_w D a b c f := by
  unfold gv_w
  rw [h 85 (by omega), gv_t_ch h]
theorem gv_b_ch {D E : Nat → Int32} {a b c f : Int32} (h : ∀ j, 85 ≤ j → E j = D j) : gv_b E a b c f = gv_b D a b c f := by
  unfold gv_b
  rw [h 86 (by omega), gv_t_ch h]
theorem dl_ch {D E r : Nat → Int32} (h : ∀ j, 85 ≤ j → E j = D j) : dl E r = dl D r := by
  unfold dl
  rw [gv_w_ch h]
theorem dl_bd {D r : Nat → Int32} : 0 ≤ (dl D r).toInt ∧ (dl D r).toInt ≤ 99 := by
  unfold dl md_hd
  (repeat' split) <;> simp only [ka_ilt, ka_t_0, ka_t_1, ka_t_2, ka_t_3, ka_t_4, ka_t_5, ka_t_6, ka_t_7, ka_t_8, ka_t_9, ka_t_10, ka_t_11, ka_t_12, ka_t_13, ka_t_14, ka_t_15, ka_t_16, ka_t_17, ka_t_18, ka_t_19, ka_t_20, ka_t_25, ka_t_26, ka_t_28, ka_t_30, ka_t_31, ka_t_32, ka_t_33, ka_t_37, ka_t_38, ka_t_39, ka_t_40, ka_t_41, ka_t_42, ka_t_43, ka_t_45, ka_t_47, ka_t_48, ka_t_50, ka_t_57, ka_t_60, ka_t_61, ka_t_62, ka_t_63, ka_t_64, ka_t_65, ka_t_69, ka_t_70, ka_t_71, ka_t_80, ka_t_85, ka_t_87, ka_t_98, ka_t_99, ka_t_100, ka_t_104, ka_t_107, ka_t_109, ka_t_110, ka_t_112, ka_t_115, ka_t_116, ka_t_117, ka_t_124, ka_t_125, ka_t_160, ka_t_200, ka_t_207, ka_t_255, ka_t_260, ka_t_400, ka_t_624, ka_t_625, ka_t_999, ka_t_9999, ka_t_10000, ka_t_20000, ka_t_20033, ka_t_999999, ka_t_1000000000, ka_t_m1, ka_t_m2, ka_t_m3, ka_t_m5, ka_t_m9, ka_t_m10, ka_t_m1000000000] at * <;> omega
theorem kn_edl_congr {r r2 : Nat → Int32} (h : ∀ f, f < 9 → r f = r2 f) : kn_edl r = kn_edl r2 := by
  unfold kn_edl
  rw [h 0 (by decide), h 1 (by decide), h 3 (by decide), h 7 (by decide)]
theorem dl_congr {D r r2 : Nat → Int32} (h : ∀ f, f < 9 → r f = r2 f) : dl D r = dl D r2 := by
  unfold dl
  rw [kn_edl_congr h, h 1 (by decide), h 3 (by decide), h 4 (by decide), h 7 (by decide)]
/-- the class's texts give the same -/
theorem tx_of_eq {X : ka_X} {D : Nat → Int32} {p u : Nat} {a b c f : Int32} (h : rl_t p X D u) (g : gv_ok D u) (hp : 0 < (D (85 + u)).toInt) : (tx_of X p a b c f).1 = gv_t D u a b c f := by
  unfold tx_of gv_t
  rw [h.1, ka_nc]
  refine tx_eq _ 0 (107 + 50 * u) 0 _ _ (fun j hj => ?_) (g.2.2 hp) (Nat.le_refl _) ?_ (fun j hj => absurd hj (by omega))
  · rw [Nat.zero_add]; exact h.2 j hj
  · have := g.2.1; omega
theorem rl_t_sz {X : ka_X} {D : Nat → Int32} {p u : Nat} (h : rl_t p X D u) (g : gv_ok D u) : tx_sz X p := by
  unfold tx_sz
  rw [h.1]
  exact ⟨g.1, g.2.1⟩
theorem wears_eq {X : ka_X} {D : Nat → Int32} {p : Nat} {a b c f : Int32} (h : rl_t p X D 0) (g : gv_ok D 0) : kn_mx (-9) (kn_mn 9 (tx_of X p a b c f).1) = gv_w D a b c f := by
  unfold gv_w
  rw [md_hd_mx (by decide)]
  by_cases hp : 0 < (D 85).toInt
  · rw [if_pos hp, tx_of_eq h g hp]
  · rw [if_neg hp]
    have e : (X p 1).toNatClampNeg = 0 := by
      have := h.1
      rw [ka_nc, this]
      have := g.1
      simp only [Nat.add_zero] at this ⊢
      omega
    unfold tx_of
    rw [e]
    rfl
theorem brings_eq {X : ka_X} {D : Nat → Int32} {b : Nat} {a1 a2 a3 a4 : Int32} (h : rl_t (b + 6) X D 1) (g : gv_ok D 1) : br_v X b a1 a2 a3 a4 = gv_b D a1 a2 a3 a4 := by
  unfold br_v gv_b
  have e := h.1
  have g1 := g.1
  simp only [Nat.reduceAdd] at e g1
  rw [e]
  by_cases hp : 0 < (D 86).toInt
  · rw [if_neg (by omega), if_pos hp, tx_of_eq h g hp]
  · rw [if_pos (by omega), if_neg hp]
theorem st_dl_eq {X : ka_X} {D : Nat → Int32} {b : Nat} {r r2 : Nat → Int32} (h : rl_t (b + 3) X D 0) (g : gv_ok D 0) (hr : ∀ f, f < 9 → r f = r2 f) : st_dl X b r = dl D r2 := by
  unfold st_dl
  rw [wears_eq h g, dl, md_hd_mx (by decide), kn_edl_congr hr, hr 1 (by decide), hr 3 (by decide), hr 4 (by decide), hr 7 (by decide)]
/-- grinding is the same -/
theorem kn_it_ok {stone water : Int32} (hs : 0 ≤ stone.toInt ∧ stone.toInt ≤ 3) (hw : 0 ≤ water.toInt ∧ water.toInt ≤ 9) : ∀ (n : Nat) (r : Nat → Int32), kn_ok r → kn_ok (kn_it (kn_trn stone water) n r) ∧ kn_it (md_trn stone water) n r = kn_it (kn_trn stone water) n r := by
  intro n
  induction n with
  | zero =>
    intro r hr
    constructor
    · rw [kn_it]; exact hr
    · rw [kn_it, kn_it]
  | succ n ih =>
    intro r hr
    have e : md_trn stone water r = kn_trn stone water r := by
      unfold md_trn kn_trn
      rw [md_rub_eq hs ⟨hr.2.2.2.2.1.1, hr.2.2.2.2.1.2⟩]
      rfl
    have h2 := ih _ (kn_trn_ok hs hw hr)
    rw [kn_it, kn_it, e]
    exact h2
theorem kn_it_congr {stone water : Int32} : ∀ (n : Nat) (r r2 : Nat → Int32), (∀ f, f < 9 → r f = r2 f) → ∀ f, f < 9 → kn_it (kn_trn stone water) n r f = kn_it (kn_trn stone water) n r2 f := by
  intro n
  induction n with
  | zero =>
    intro r r2 h f hf
    rw [kn_it, kn_it]
    exact h f hf
  | succ n ih =>
    intro r r2 h f hf
    rw [kn_it, kn_it]
    refine ih _ _ (fun g hg => ?_) f hf
    have e0 := h 0 (by decide)
    have e3 := h 3 (by decide)
    have e4 := h 4 (by decide)
    have e5 := h 5 (by decide)
    have eg := h g hg
    have ex : ∀ i, i < 9 → kn_rub stone water r i = kn_rub stone water r2 i := by
      intro i hi
      unfold kn_rub kn_up
      rw [e0, e3, e4, e5, h i hi]
    unfold kn_trn kn_stl
    rw [ex 4 (by decide), ex 5 (by decide)]
    split
    · unfold kn_up; rw [ex g hg]
    · split
      · exact ex g hg
      · unfold kn_up; rw [ex g hg]
theorem kn_gr_eq {rc D : Nat → Int32} (hD : ∀ j, j < 5 → 0 ≤ (D j).toInt ∧ (D j).toInt ≤ 9) (hr : ∀ j, j < 4 → rc j = D j) : ∀ (n i : Nat) (r r2 : Nat → Int32), i + n = 4 → kn_ok r2 → (∀ f, f < 9 → r f = r2 f) → kn_ok (md_gr D n i r2) ∧ ∀ f, f < 9 → kn_gr rc (D 4) n i r f = md_gr D n i r2 f := by
  intro n
  induction n with
  | zero =>
    intro i r r2 _ hok h
    constructor
    · rw [md_gr]; exact hok
    · intro f hf
      rw [kn_gr, md_gr]
      exact h f hf
  | succ n ih =>
    intro i r r2 hi hok h
    have hs : 0 ≤ (nI i).toInt ∧ (nI i).toInt ≤ 3 := by rw [ka_nIt (by omega)]; omega
    have hw := hD 4 (by decide)
    have k := kn_it_ok hs hw (D i).toInt.toNat r2 hok
    rw [kn_gr, md_gr, k.2, hr i (by omega)]
    exact ih (i + 1) _ _ (by omega) k.1 (kn_it_congr _ _ _ h)
theorem kn_rec_eq {rc D r r2 : Nat → Int32} (hD : ∀ j, j < 5 → 0 ≤ (D j).toInt ∧ (D j).toInt ≤ 9) (hr : ∀ j, j < 4 → rc j = D j) (hok : kn_ok r2) (h : ∀ f, f < 9 → r f = r2 f) : kn_ok (md_rec D r2) ∧ ∀ f, f < 9 → kn_rec rc (D 4) r f = md_rec D r2 f := by
  have k := kn_gr_eq hD hr 4 0 r r2 rfl hok h
  obtain ⟨⟨k0, k1, k2, k3, k4, k5, k6, k7, k8⟩, ke⟩ := k
  have e8 : kn_mn (kn_gr rc (D 4) 4 0 r 8 + 1) 9999 = md_ls 9999 (md_gr D 4 0 r2 8 + 1) := by
    rw [ke 8 (by decide)]
    rfl
  constructor
  · unfold md_rec
    simp only [kn_ok, kn_up_at, kn_up_ne, Nat.reduceEqDiff, reduceCtorEq, not_false_eq_true]
    refine ⟨k0, k1, k2, k3, k4, k5, k6, k7, ?_⟩
    have ea : (md_gr D 4 0 r2 8 + 1).toInt = (md_gr D 4 0 r2 8).toInt + 1 := by rw [ka_add (by simp only [ka_t_0, ka_t_1, ka_t_2, ka_t_3, ka_t_4, ka_t_5, ka_t_6, ka_t_7, ka_t_8, ka_t_9, ka_t_10, ka_t_11, ka_t_12, ka_t_13, ka_t_14, ka_t_15, ka_t_16, ka_t_17, ka_t_18, ka_t_19, ka_t_20, ka_t_25, ka_t_26, ka_t_28, ka_t_30, ka_t_31, ka_t_32, ka_t_33, ka_t_37, ka_t_38, ka_t_39, ka_t_40, ka_t_41, ka_t_42, ka_t_43, ka_t_45, ka_t_47, ka_t_48, ka_t_50, ka_t_57, ka_t_60, ka_t_61, ka_t_62, ka_t_63, ka_t_64, ka_t_65, ka_t_69, ka_t_70, ka_t_71, ka_t_80, ka_t_85, ka_t_87, ka_t_98, ka_t_99, ka_t_100, ka_t_104, ka_t_107, ka_t_109, ka_t_110, ka_t_112, ka_t_115, ka_t_116, ka_t_117, ka_t_124, ka_t_125, ka_t_160, ka_t_200, ka_t_207, ka_t_255, ka_t_260, ka_t_400, ka_t_624, ka_t_625, ka_t_999, ka_t_9999, ka_t_10000, ka_t_20000, ka_t_20033, ka_t_999999, ka_t_1000000000, ka_t_m1, ka_t_m2, ka_t_m3, ka_t_m5, ka_t_m9, ka_t_m10, ka_t_m1000000000]; omega)]; simp only [ka_t_0, ka_t_1, ka_t_2, ka_t_3, ka_t_4, ka_t_5, ka_t_6, ka_t_7, ka_t_8, ka_t_9, ka_t_10, ka_t_11, ka_t_12, ka_t_13, ka_t_14, ka_t_15, ka_t_16, ka_t_17, ka_t_18, ka_t_19, ka_t_20, ka_t_25, ka_t_26, ka_t_28, ka_t_30, ka_t_31, ka_t_32, ka_t_33, ka_t_37, ka_t_38, ka_t_39, ka_t_40, ka_t_41, ka_t_42, ka_t_43, ka_t_45, ka_t_47, ka_t_48, ka_t_50, ka_t_57, ka_t_60, ka_t_61, ka_t_62, ka_t_63, ka_t_64, ka_t_65, ka_t_69, ka_t_70, ka_t_71, ka_t_80, ka_t_85, ka_t_87, ka_t_98, ka_t_99, ka_t_100, ka_t_104, ka_t_107, ka_t_109, ka_t_110, ka_t_112, ka_t_115, ka_t_116, ka_t_117, ka_t_124, ka_t_125, ka_t_160, ka_t_200, ka_t_207, ka_t_255, ka_t_260, ka_t_400, ka_t_624, ka_t_625, ka_t_999, ka_t_9999, ka_t_10000, ka_t_20000, ka_t_20033, ka_t_999999, ka_t_1000000000, ka_t_m1, ka_t_m2, ka_t_m3, ka_t_m5, ka_t_m9, ka_t_m10, ka_t_m1000000000]
    unfold md_ls
    simp only [ka_ilt, ka_t_0, ka_t_1, ka_t_2, ka_t_3, ka_t_4, ka_t_5, ka_t_6, ka_t_7, ka_t_8, ka_t_9, ka_t_10, ka_t_11, ka_t_12, ka_t_13, ka_t_14, ka_t_15, ka_t_16, ka_t_17, ka_t_18, ka_t_19, ka_t_20, ka_t_25, ka_t_26, ka_t_28, ka_t_30, ka_t_31, ka_t_32, ka_t_33, ka_t_37, ka_t_38, ka_t_39, ka_t_40, ka_t_41, ka_t_42, ka_t_43, ka_t_45, ka_t_47, ka_t_48, ka_t_50, ka_t_57, ka_t_60, ka_t_61, ka_t_62, ka_t_63, ka_t_64, ka_t_65, ka_t_69, ka_t_70, ka_t_71, ka_t_80, ka_t_85, ka_t_87, ka_t_98, ka_t_99, ka_t_100, ka_t_104, ka_t_107, ka_t_109, ka_t_110, ka_t_112, ka_t_115, ka_t_116, ka_t_117, ka_t_124, ka_t_125, ka_t_160, ka_t_200, ka_t_207, ka_t_255, ka_t_260, ka_t_400, ka_t_624, ka_t_625, ka_t_999, ka_t_9999, ka_t_10000, ka_t_20000, ka_t_20033, ka_t_999999, ka_t_1000000000, ka_t_m1, ka_t_m2, ka_t_m3, ka_t_m5, ka_t_m9, ka_t_m10, ka_t_m1000000000, ea]
    split <;> simp only [ka_t_0, ka_t_1, ka_t_2, ka_t_3, ka_t_4, ka_t_5, ka_t_6, ka_t_7, ka_t_8, ka_t_9, ka_t_10, ka_t_11, ka_t_12, ka_t_13, ka_t_14, ka_t_15, ka_t_16, ka_t_17, ka_t_18, ka_t_19, ka_t_20, ka_t_25, ka_t_26, ka_t_28, ka_t_30, ka_t_31, ka_t_32, ka_t_33, ka_t_37, ka_t_38, ka_t_39, ka_t_40, ka_t_41, ka_t_42, ka_t_43, ka_t_45, ka_t_47, ka_t_48, ka_t_50, ka_t_57, ka_t_60, ka_t_61, ka_t_62, ka_t_63, ka_t_64, ka_t_65, ka_t_69, ka_t_70, ka_t_71, ka_t_80, ka_t_85, ka_t_87, ka_t_98, ka_t_99, ka_t_100, ka_t_104, ka_t_107, ka_t_109, ka_t_110, ka_t_112, ka_t_115, ka_t_116, ka_t_117, ka_t_124, ka_t_125, ka_t_160, ka_t_200, ka_t_207, ka_t_255, ka_t_260, ka_t_400, ka_t_624, ka_t_625, ka_t_999, ka_t_9999, ka_t_10000, ka_t_20000, ka_t_20033, ka_t_999999, ka_t_1000000000, ka_t_m1, ka_t_m2, ka_t_m3, ka_t_m5, ka_t_m9, ka_t_m10, ka_t_m1000000000, ea] <;> omega
  · intro f hf
    unfold kn_rec md_rec
    by_cases q : f = 8
    · subst q; rw [kn_up_at, kn_up_at, e8]
    · rw [kn_up_ne q, kn_up_ne q, ke f hf]
