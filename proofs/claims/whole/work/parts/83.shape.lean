/-! a heap of the right shape is a memory -/
def rdv : Value → Int32
  | .int x => x
  | .ref a => nI a
  | _ => 0
def rdc : aC → Nat → Int32
  | .inl (_, fs), k => (match fs[k]? with | some v => rdv v | none => 0)
  | .inr (.inl (_, f)), k => f k
  | .inr (.inr _), _ => 0
def xof (h : aH) : ka_X := fun p => match h[p]? with
  | some c => rdc c
  | none => fun _ => 0
def chv (t : Nat) (v : Value) : Bool := match v with
  | .int _ => decide (t = 0)
  | .ref a => decide ((t = 1 ∧ a < 2000) ∨ (2 ≤ t ∧ a = t - 2))
  | _ => false
def chl : List Nat → List Value → Bool
  | [], [] => true
  | t :: ts, v :: vs => chv t v && chl ts vs
  | _, _ => false
def chc (s : ka_Sh) (c : aC) : Bool := match s, c with
  | .inl (ci, ks), .inl (c2, fs) => decide (c2 = ci) && chl ks fs
  | .inr (.inl n), .inr (.inl (m, _)) => decide (m = n)
  | .inr (.inr (e, qs)), .inr (.inr (e2, n, f)) => decide (e2 = e ∧ n = qs.length) && (List.range n).all (fun j => decide (f j = qs[j]?))
  | _, _ => false
def chh : List ka_Sh → aH → Bool
  | [], [] => true
  | s :: ss, c :: cs => chc s c && chh ss cs
  | _, _ => false
theorem chv_ok {t : Nat} {v : Value} (h : chv t v = true) : ka_fv t (rdv v) = v := by
  unfold chv at h
  split at h
  · have := of_decide_eq_true h
    subst this
    rfl
  · rename_i a
    have := of_decide_eq_true h
    rcases this with ⟨rfl, h2⟩ | ⟨h1, h2⟩
    · have h3 : a < 2147483648 := Nat.lt_trans h2 (by decide)
      have h4 : (nI a).toNatClampNeg = a := by rw [ka_nc, ka_nIt h3]; exact Int.toNat_natCast a
      show Value.ref (nI a).toNatClampNeg = .ref a
      rw [h4]
    · subst h2
      unfold ka_fv
      rw [if_neg (by omega), if_neg (by omega)]
  · cases h
theorem chl_ok : ∀ {ks : List Nat} {fs : List Value} {g : Nat → Int32}, chl ks fs = true → (∀ k v, fs[k]? = some v → g k = rdv v) → ks.mapIdx (fun k t => ka_fv t (g k)) = fs
  | [], [], _, _, _ => rfl
  | t :: ts, v :: vs, g, h, hg => by
    unfold chl at h
    rw [Bool.and_eq_true] at h
    rw [List.mapIdx_cons, hg 0 v rfl, chv_ok h.1]
    congr 1
    exact chl_ok (g := fun k => g (k + 1)) h.2 (fun k w hw => hg (k + 1) w hw)
  | [], _ :: _, _, h, _ => by cases h
  | _ :: _, [], _, h, _ => by cases h
theorem chc_ok {s : ka_Sh} {c : aC} (h : chc s c = true) (w : ∀ (e n : Nat) (f : Nat → Option Nat), c = .inr (.inr (e, n, f)) → ∀ j, n ≤ j → f j = none) : ka_fi s (rdc c) = c := by
  unfold chc at h
  split at h
  · rename_i ci ks c2 fs
    rw [Bool.and_eq_true] at h
    have := of_decide_eq_true h.1
    subst this
    show Sum.inl (c2, ks.mapIdx (fun k t => ka_fv t (rdc (.inl (c2, fs)) k))) = _
    rw [chl_ok h.2 (fun k v hv => by show (match fs[k]? with | some v => rdv v | none => 0) = rdv v; rw [hv])]
  · have := of_decide_eq_true h
    subst this
    rfl
  · rename_i e qs e2 n f
    rw [Bool.and_eq_true] at h
    obtain ⟨h1, h2⟩ := of_decide_eq_true h.1
    subst h1
    subst h2
    show Sum.inr (Sum.inr (e2, qs.length, fun j => qs[j]?)) = _
    have : (fun j => qs[j]?) = f := by
      funext j
      by_cases q : j < qs.length
      · have := List.all_eq_true.mp h.2 j (List.mem_range.mpr q)
        exact (of_decide_eq_true this).symm
      · rw [w e2 _ f rfl j (by omega)]
        exact List.getElem?_eq_none (by omega)
    rw [this]
  · cases h
theorem chh_ok : ∀ {ss : List ka_Sh} {h : aH} {X : ka_X}, chh ss h = true → wfh h → (∀ p c, h[p]? = some c → X p = rdc c) → ss.mapIdx (fun p s => ka_fi s (X p)) = h
  | [], [], _, _, _, _ => rfl
  | s :: ss, c :: cs, X, h, w, hX => by
    unfold chh at h
    rw [Bool.and_eq_true] at h
    rw [List.mapIdx_cons, hX 0 c rfl, chc_ok h.1 (fun e n f q => w 0 e n f (by rw [← q]; rfl))]
    congr 1
    exact chh_ok (X := fun p => X (p + 1)) h.2 (fun a e n f q => w (a + 1) e n f q) (fun p c hc => hX (p + 1) c hc)
  | [], _ :: _, _, h, _, _ => by cases h
  | _ :: _, [], _, h, _, _ => by cases h
theorem xof_mem {h : aH} (hc : chh ka_sk h = true) (w : wfh h) : ka_mem (xof h) = h := chh_ok hc w (fun p c hp => by unfold xof; rw [hp])
/-- what the beginning's numbers are -/
abbrev Iv (X : ka_X) : Prop := (X 1 1 = X 88 9 ∧ X 1 2 = X 88 8 ∧ X 1 3 = X 88 7 ∧ X 1 4 = X 88 4 ∧ X 1 5 = X 88 5 ∧ X 1 6 = X 88 6 ∧ X 1 11 = X 88 11 ∧ X 1 13 = X 88 12 ∧ X 1 14 = X 88 10) ∧ (∀ j, j < 4 → X (1 + 2) j = X 88 j) ∧ X 4 1 = X 88 85 ∧ X 7 1 = X 88 86 ∧ X 88 85 = 0 ∧ X 88 86 = 0 ∧ X 88 9 = 0 ∧ X 88 11 = 0 ∧ X 88 12 = 0 ∧ X 88 8 = 0 ∧ (∀ j, j < 5 → 0 ≤ (X 88 j).toInt ∧ (X 88 j).toInt ≤ 9) ∧ (0 ≤ (X 88 5).toInt ∧ (X 88 5).toInt ≤ 20) ∧ (1 ≤ (X 88 6).toInt ∧ (X 88 6).toInt ≤ 12) ∧ (0 ≤ (X 88 7).toInt ∧ (X 88 7).toInt ≤ 999999) ∧ (X 0 3 = X 87 3 ∧ X 87 3 = 0) ∧ (∀ j, j < 6 → X 78 j = X 91 j) ∧ (∀ s, s < 4 → X (79 + 2 * s) 0 = X 97 s ∧ X (79 + 2 * s) 1 = X 98 s ∧ (0 ≤ (X 98 s).toInt ∧ (X 98 s).toInt ≤ 40) ∧ ∀ j, j < 40 → X (79 + 2 * s + 1) j = X 99 (40 * s + j)) ∧ X 75 1 = X 87 17 ∧ X 87 17 = 0
theorem Iv_Inv {X : ka_X} (h : Iv X) : Inv X := by
  obtain ⟨a1, a2, a3, a4, a5, a6, a7, a8, a9, a10, a11, a12, a13, a14, a15, a16, a17, a18, a19⟩ := h
  have n9 : (X 88 9).toInt.toNat = 0 := by rw [a7]; rfl
  have n11 : (X 88 11).toInt.toNat = 0 := by rw [a8]; rfl
  have n12 : (X 88 12).toInt.toNat = 0 := by rw [a9]; rfl
  have n85 : (X 88 85).toInt.toNat = 0 := by rw [a5]; rfl
  have n86 : (X 88 86).toInt.toNat = 0 := by rw [a6]; rfl
  have g0 : gv_ok (X 88) 0 := by
    refine ⟨?_, ?_, ?_⟩
    · show 0 ≤ (X 88 85).toInt; rw [a5]; decide
    · show (X 88 85).toInt ≤ 50; rw [a5]; decide
    · show 0 < (X 88 85).toInt → _; rw [a5]; intro e; exact absurd e (by decide)
  have g1 : gv_ok (X 88) 1 := by
    refine ⟨?_, ?_, ?_⟩
    · show 0 ≤ (X 88 86).toInt; rw [a6]; decide
    · show (X 88 86).toInt ≤ 50; rw [a6]; decide
    · show 0 < (X 88 86).toInt → _; rw [a6]; intro e; exact absurd e (by decide)
  refine ⟨⟨⟨a1, a2, ?_, ⟨a3, ?_⟩, ⟨a4, ?_⟩, ?_, ?_⟩, ⟨?_, ?_, a11, a12, a13, a14, ?_, ?_, ?_, g0, g1⟩, ?_⟩, ⟨a15.1, Or.inl a15.2⟩, a16, a17, a18, ?_, ?_⟩
  · intro k hk
    rw [n9] at hk
    omega
  · intro j hj
    rw [show (X 88 (85 + 0)).toInt.toNat = 0 from n85] at hj
    omega
  · intro j hj
    rw [show (X 88 (85 + 1)).toInt.toNat = 0 from n86] at hj
    omega
  · intro j hj
    rw [n11] at hj
    omega
  · intro j hj
    rw [n12] at hj
    omega
  · rw [a7]; decide
  · intro k hk
    rw [n9] at hk
    omega
  · rw [a10]; decide
  · rw [a8]; decide
  · rw [a9]; decide
  · rw [a10]; decide
  · rw [a19]; decide
  · intro j hj
    rw [a19] at hj
    have : (0 : Int32).toInt.toNat = 0 := rfl
    omega
