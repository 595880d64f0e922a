/-! the small machine's state beside the real one -/
def ka_ad (B : Nat) (ro : Nat → Nat) (k : Nat) : Nat := if k < 1000 then B + k else ro (k - 1000)
def ka_v (B : Nat) (ro : Nat → Nat) (v : Value) : Value := match v with
  | .ref k => .ref (ka_ad B ro k)
  | w => w
def ka_c (B : Nat) (ro : Nat → Nat) (cI : ClassId) (cE : Nat → ClassId) (c : aC) : va_E := match c with
  | .inl (ci, fs) => .inr (ci, fs.map (ka_v B ro))
  | .inr (.inl (n, f)) => .inl (cI, n, .inl f)
  | .inr (.inr (e, n, f)) => .inl (cE e, n, .inr (.inr (.inr (.inr (fun j => (f j).map (ka_ad B ro))))))
def ka_w (B : Nat) (ro : Nat → Nat) (cI : ClassId) (cE : Nat → ClassId) (h : aH) : va_W := h.mapIdx (fun k c => (B + k, ka_c B ro cI cE c))
def ka_z (c : aC) : Nat := match c with
  | .inl (_, fs) => fs.length
  | .inr (.inl (n, _)) => n
  | .inr (.inr (_, n, _)) => n
def ka_zs (h : aH) : Nat := (h.map ka_z).sum
theorem ka_w_get {B : Nat} {ro : Nat → Nat} {cI : ClassId} {cE : Nat → ClassId} {h : aH} {k : Nat} {c : aC} (hk : h[k]? = some c) : (ka_w B ro cI cE h)[k]? = some (B + k, ka_c B ro cI cE c) := by
  simp [ka_w, hk]
theorem ka_w_set {B : Nat} {ro : Nat → Nat} {cI : ClassId} {cE : Nat → ClassId} {h : aH} {k : Nat} (c : aC) : (ka_w B ro cI cE h).set k (B + k, ka_c B ro cI cE c) = ka_w B ro cI cE (h.set k c) := by
  apply List.ext_getElem?
  intro i
  by_cases e : k = i
  · subst e
    by_cases hl : k < h.length
    · simp [ka_w, List.getElem?_set, hl]
    · simp [ka_w, List.getElem?_set, hl]
  · simp [ka_w, List.getElem?_set, e]
theorem ka_w_push {B : Nat} {ro : Nat → Nat} {cI : ClassId} {cE : Nat → ClassId} {h : aH} (c : aC) : ka_w B ro cI cE (h ++ [c]) = ka_w B ro cI cE h ++ [(B + h.length, ka_c B ro cI cE c)] := by
  simp [ka_w, List.mapIdx_append]
theorem ka_w_D {B : Nat} {ro : Nat → Nat} {cI : ClassId} {cE : Nat → ClassId} (h : aH) : va_D (fun q => B ≤ q) (ka_w B ro cI cE h) := by
  constructor
  · intro i j p q hi hj e
    simp only [ka_w, List.getElem?_mapIdx, Option.map_eq_some_iff] at hi hj
    obtain ⟨a, -, rfl⟩ := hi
    obtain ⟨b, -, rfl⟩ := hj
    simp only at e
    omega
  · intro k q hk
    simp only [ka_w, List.getElem?_mapIdx, Option.map_eq_some_iff] at hk
    obtain ⟨a, -, rfl⟩ := hk
    exact Nat.le_add_right _ _
theorem ka_zs_push (h : aH) (c : aC) : ka_zs (h ++ [c]) = ka_zs h + ka_z c := by simp [ka_zs]
theorem ka_zs_set {h : aH} {k : Nat} {c c2 : aC} (hk : h[k]? = some c) (e : ka_z c2 = ka_z c) : ka_zs (h.set k c2) = ka_zs h := by
  have h1 : (h.set k c2).map ka_z = h.map ka_z := by
    apply List.ext_getElem?
    intro i
    by_cases q : k = i
    · subst q
      have hl : k < h.length := (List.getElem?_eq_some_iff.mp hk).1
      have hg : h[k] = c := (List.getElem?_eq_some_iff.mp hk).2
      simp [List.getElem?_set, hl, e, hg]
    · simp [List.getElem?_set, q]
  unfold ka_zs
  rw [h1]
/-- locals -/
def ka_lr (B : Nat) (ro : Nat → Nat) (lv : List Value) (ls : Array Slot) (nL : Nat) : Prop := lv.length = nL ∧ ls.size = nL ∧ lv_wf ls ∧ ∀ (i : Nat) (v : Value), lv[i]? = some v → v ≠ ka_nv → ls[i]? = some (.val (ka_v B ro v))
def ka_as (B : Nat) (ro : Nat → Nat) (lv : List Value) : List (Nat × Value) := (List.range lv.length).filterMap (fun i => match lv[i]? with
  | some v => if v = ka_nv then none else some (i, ka_v B ro v)
  | none => none)
theorem ka_as_mem {B : Nat} {ro : Nat → Nat} {lv : List Value} {q : Nat × Value} : q ∈ ka_as B ro lv ↔ ∃ v, lv[q.1]? = some v ∧ v ≠ ka_nv ∧ q.2 = ka_v B ro v := by
  unfold ka_as
  rw [List.mem_filterMap]
  constructor
  · rintro ⟨i, -, h⟩
    split at h
    · rename_i v hv
      split at h
      · cases h
      · rename_i hn
        cases h
        exact ⟨v, hv, hn, rfl⟩
    · cases h
  · rintro ⟨v, hv, hn, e⟩
    refine ⟨q.1, List.mem_range.mpr (List.getElem?_eq_some_iff.mp hv).1, ?_⟩
    rw [hv]
    simp only [if_neg hn, ← e]
theorem ka_as_in {B : Nat} {ro : Nat → Nat} {lv : List Value} {i : Nat} {v : Value} (h : lv[i]? = some v) (hn : v ≠ ka_nv) : (i, ka_v B ro v) ∈ ka_as B ro lv := ka_as_mem.mpr ⟨v, h, hn, rfl⟩
theorem ka_lr_has {B : Nat} {ro : Nat → Nat} {lv : List Value} {ls : Array Slot} {nL : Nat} (h : ka_lr B ro lv ls nL) : lv_has ls nL (ka_as B ro lv) := by
  refine ⟨h.2.1, h.2.2.1, ?_⟩
  intro q hq
  obtain ⟨v, hv, hn, e⟩ := ka_as_mem.mp hq
  rw [e]
  exact h.2.2.2 _ _ hv hn
theorem ka_v_cat (B : Nat) (ro : Nat → Nat) (v : Value) : (ka_v B ro v).category = v.category := by cases v <;> rfl
theorem ka_clean_len (lv : List Value) (i : Nat) : (ka_clean lv i).length = lv.length := by
  cases i with
  | zero => rfl
  | succ i =>
    simp only [ka_clean]
    split <;> simp
theorem ka_clean_get {lv : List Value} {i j : Nat} {w : Value} (h : (ka_clean lv i)[j]? = some w) (hn : w ≠ ka_nv) : lv[j]? = some w ∧ ¬ (j + 1 = i ∧ w.category = 2) := by
  cases i with
  | zero => exact ⟨h, fun q => by omega⟩
  | succ i =>
    simp only [ka_clean] at h
    split at h
    · rename_i v hv
      by_cases e : i = j
      · subst e
        have hl : i < lv.length := (List.getElem?_eq_some_iff.mp hv).1
        rw [List.getElem?_set_self hl] at h
        cases h
        unfold ka_cl at hn ⊢
        split at hn
        · exact absurd rfl hn
        · rename_i hc
          rw [if_neg hc]
          exact ⟨hv, fun q => hc q.2⟩
      · rw [List.getElem?_set_ne e] at h
        exact ⟨h, fun q => e (by omega)⟩
    · rename_i hv
      refine ⟨h, fun q => ?_⟩
      have : j = i := by omega
      subst this
      rw [hv] at h
      cases h
theorem ka_lr_store {B : Nat} {ro : Nat → Nat} {lv : List Value} {ls ls2 : Array Slot} {nL i : Nat} {x : Value} (h : ka_lr B ro lv ls nL) (hi : i < lv.length) (h2 : lv_has ls2 nL ((i, ka_v B ro x) :: (ka_as B ro lv).filter (fun q => !(q.1 == i) && !(q.1 + 1 == i && q.2.category == 2)))) : ka_lr B ro ((ka_clean lv i).set i x) ls2 nL := by
  refine ⟨by rw [List.length_set, ka_clean_len]; exact h.1, h2.1, h2.2.1, ?_⟩
  intro j w hj hn
  by_cases e : i = j
  · subst e
    rw [List.getElem?_set_self (by rw [ka_clean_len]; exact hi)] at hj
    cases hj
    exact h2.2.2 (i, ka_v B ro x) List.mem_cons_self
  · rw [List.getElem?_set_ne e] at hj
    obtain ⟨h3, h4⟩ := ka_clean_get hj hn
    refine h2.2.2 (j, ka_v B ro w) (List.mem_cons_of_mem _ (List.mem_filter.mpr ⟨ka_as_mem.mpr ⟨w, h3, hn, rfl⟩, ?_⟩))
    simp only [Bool.and_eq_true, Bool.not_eq_true', beq_eq_false_iff_ne, ne_eq, Bool.and_eq_false_iff, ka_v_cat]
    refine ⟨fun q => e q.symm, ?_⟩
    by_cases q : j + 1 = i
    · exact Or.inr fun z => h4 ⟨q, z⟩
    · exact Or.inl q
theorem ka_lr_at {B : Nat} {ro : Nat → Nat} {lv : List Value} {ls : Array Slot} {nL i : Nat} {v : Value} (h : ka_lr B ro lv ls nL) (hv : lv[i]? = some v) (hn : v ≠ ka_nv) : ls[i]? = some (.val (ka_v B ro v)) := h.2.2.2 _ _ hv hn
/-- what was there before, and what stays true of the tables -/
def ka_RO (B : Nat) (ro : Nat → Nat) (sc : aS) (U : State) (H : Heap) : Prop :=
  (va_X (ro 0) sc.1 sc.2 U H ∧ ¬ B ≤ ro 0) ∧
  (∀ e ∈ ka_RA, va_T .int (ro (e.1 - 1000)) e.2.1 (fun j => .int (e.2.2 j)) (fun q => B ≤ q) U H) ∧
  (∀ e ∈ ka_G, va_Z e.2.2.2.2.1 e.2.2.2.2.2.1 e.2.2.2.2.2.2 (ka_v B ro e.2.1) (fun q => B ≤ q) U H) ∧
  vk_S 2 [4, 4] [[117, 115, 116, 109], [98, 110, 112, 104]] (fun i => ro (7 + i)) (fun i => ro (9 + i)) (fun q => B ≤ q) U H ∧
  (∀ e ∈ ka_LS, vk_R (ka_cnk e.1) (e.1 % 65536) e.2.2 (ro (e.2.1 - 1000)) U) ∧
  (∀ e ∈ ka_C, 10 ≤ e.2.1 → va_Nw (.methodLinkNest (ka_cnk e.1) (e.1 % 65536) (ka_nm e.2.2.1) "KnifeDoors") U) ∧
  (∀ e ∈ ka_G, e.2.2.1 = 1 → va_Nw (.fieldLinkNest (ka_cnk e.1) (e.1 % 65536) e.2.2.2.2.1 e.2.2.2.2.2.1 e.2.2.2.2.2.2 "KnifeDoors") U) ∧
  va_AO "KnifeDoors$Knife" U ∧ va_AO "KnifeDoors$Sheet" U
theorem ka_RO.to {B : Nat} {ro : Nat → Nat} {sc : aS} {s U : State} {H H1 : Heap} (h : ka_RO B ro sc s H) (hW : s.WarmedH U.vm) (hk : ∀ q : Nat, q < H.size → ¬ B ≤ q → H1[q]? = H[q]?) : ka_RO B ro sc U H1 := by
  obtain ⟨h1, h2, h3, h4, h5, h6, h7, h8, h9⟩ := h
  have hv : s.vm.Alike U.vm := hW.alike
  have hlt : ro 0 < H.size := by
    obtain ⟨scr, hc, -⟩ := h1.1
    exact (Array.getElem?_eq_some_iff.mp hc).1
  refine ⟨⟨(h1.1.moved hv).kept (hk _ hlt h1.2), h1.2⟩, fun e he => ((h2 e he).moved hv).kept hk, fun e he => ((h3 e he).moved hv).kept hk, (h4.moved hv).kept hk, fun e he => (h5 e he).warm hW, fun e he q => (h6 e he q).warmM hW, fun e he q => (h7 e he q).warmF hW, h8.moved hv, h9.moved hv⟩
theorem ka_RO.of_vm {B : Nat} {ro : Nat → Nat} {sc : aS} {s U : State} {H : Heap} (h : ka_RO B ro sc s H) (hv : s.vm = U.vm) : ka_RO B ro sc U H := by
  obtain ⟨h1, h2, h3, h4, h5, h6, h7, h8, h9⟩ := h
  have ha : s.vm.Alike U.vm := by rw [hv]; exact Vm.Alike.refl _
  exact ⟨⟨h1.1.moved ha, h1.2⟩, fun e he => (h2 e he).moved ha, fun e he => (h3 e he).moved ha, h4.moved ha, fun e he => (h5 e he).same hv.symm, fun e he q => (h6 e he q).same rfl hv, fun e he q => (h7 e he q).same rfl hv, h8.moved ha, h9.moved ha⟩
