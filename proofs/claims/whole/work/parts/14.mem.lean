/-! behind the constructors: a heap whose references don't change; X p k is what slot k of place p holds -/
abbrev ka_Sh : Type := (Nat × List Nat) ⊕ (Nat ⊕ (Nat × List Nat))
def ka_sst (b : Nat) : List ka_Sh := [.inl (4, [b + 1 + 2, 0, 0, 0, 0, 0, 0, b + 2 + 2, b + 3 + 2, b + 6 + 2, b + 9 + 2, 0, b + 10 + 2, 0, 0, b + 11 + 2]), .inr (.inr (0, [b + 12, b + 13, b + 14, b + 15, b + 16, b + 17, b + 18, b + 19])), .inr (.inl 4), .inl (5, [b + 4 + 2, 0, b + 5 + 2]), .inr (.inl 50), .inr (.inl 50), .inl (5, [b + 7 + 2, 0, b + 8 + 2]), .inr (.inl 50), .inr (.inl 50), .inr (.inl 50), .inr (.inl 20), .inr (.inl 8)] ++ List.replicate 8 (.inl (0, [0, 0, 0, 0, 0, 0, 0, 0, 0]))
def ka_skn : ka_Sh := .inl (0, [0, 0, 0, 0, 0, 0, 0, 0, 0])
def ka_sk : List ka_Sh := [.inl (7, [3, 23, 43, 0, 63, 68, 69, 77, 79, 80])] ++ ka_sst 1 ++ ka_sst 21 ++ ka_sst 41 ++ [.inl (1, [64, 1, 67, 0, 0, 0, 0]), .inl (5, [65, 0, 66]), .inr (.inl 50), .inr (.inl 50), .inr (.inl 50), ka_skn, .inl (2, [70, 71, 72, 0]), .inr (.inl 4), .inr (.inl 4), .inr (.inr (0, [71, 72, 73, 74])), ka_skn, ka_skn, ka_skn, ka_skn, .inl (6, [78, 0, 0, 0, 0]), .inr (.inl 40), .inr (.inr (3, [79, 81, 83, 85])), .inr (.inl 6), .inl (3, [0, 0, 82]), .inr (.inl 40), .inl (3, [0, 0, 84]), .inr (.inl 40), .inl (3, [0, 0, 86]), .inr (.inl 40), .inl (3, [0, 0, 88]), .inr (.inl 40), .inl (8, [90, 91, 92, 0, 93, 0, 0, 0, 0, 0, 0, 94, 95, 0, 96, 97, 98, 0, 0, 99, 100, 101, 102]), .inr (.inl 260), .inr (.inl 260), .inr (.inl 260), .inr (.inl 6), .inr (.inl 4), .inr (.inl 60), .inr (.inl 60), .inr (.inl 8), .inr (.inl 40), .inr (.inl 4), .inr (.inl 4), .inr (.inl 160), .inr (.inl 40)]
abbrev ka_X : Type := Nat → Nat → Int32
def ka_fv (t : Nat) (x : Int32) : Value := if t = 0 then .int x else if t = 1 then .ref x.toNatClampNeg else .ref (t - 2)
def ka_fi (s : ka_Sh) (x : Nat → Int32) : aC := match s with
  | .inl (ci, ks) => .inl (ci, ks.mapIdx (fun k t => ka_fv t (x k)))
  | .inr (.inl n) => .inr (.inl (n, x))
  | .inr (.inr (e, qs)) => .inr (.inr (e, qs.length, fun j => qs[j]?))
def ka_mem (X : ka_X) : aH := ka_sk.mapIdx (fun p s => ka_fi s (X p))
def ka_k (p : Nat) : Nat := match ka_sk[p]? with
  | some (.inl (ci, _)) => ci
  | some (.inr (.inl _)) => 50
  | some (.inr (.inr (e, _))) => 60 + e
  | none => 99
def ka_rf (p k : Nat) : Nat := match ka_sk[p]? with
  | some (.inl (_, ks)) => ks.getD k 0 - 2
  | _ => 0
def ka_ln (p : Nat) : Nat := match ka_sk[p]? with
  | some (.inr (.inl n)) => n
  | some (.inr (.inr (_, qs))) => qs.length
  | _ => 0
def ka_ra (p j : Nat) : Nat := match ka_sk[p]? with
  | some (.inr (.inr (_, qs))) => qs.getD j 0
  | _ => 0
/-- the kind of a class's field: 0 a number, 1 a text, 2 a reference -/
def ka_ck (ci k : Nat) : Nat := (([[0, 0, 0, 0, 0, 0, 0, 0, 0], [2, 1, 2, 0, 0, 0, 0], [2, 2, 2, 0], [0, 0, 2], [2, 0, 0, 0, 0, 0, 0, 2, 2, 2, 2, 0, 2, 0, 0, 2], [2, 0, 2], [2, 0, 0, 0, 0], [2, 2, 2, 0, 2, 2, 2, 2, 2, 2], [2, 2, 2, 0, 2, 0, 0, 0, 0, 0, 0, 2, 2, 0, 2, 2, 2, 0, 0, 2, 2, 2, 2]] : List (List Nat)).getD ci []).getD k 9
def ka_put (X : ka_X) (p k : Nat) (v : Int32) : ka_X := fun q j => if q = p ∧ j = k then v else X q j
theorem ka_mem_at {X : ka_X} {p : Nat} {s : ka_Sh} (h : ka_sk[p]? = some s) : (ka_mem X)[p]? = some (ka_fi s (X p)) := by simp [ka_mem, h]
def ka_skok (p : Nat) (s : ka_Sh) : Bool := match s with
  | .inl (ci, ks) => decide (ci < 9 ∧ ks.length = ka_FN ci) && (List.range (ka_FN ci)).all (fun k => if ka_ck ci k = 2 then decide (2 ≤ ks.getD k 0 ∧ ks.getD k 0 < 200) else decide (ks.getD k 9 = ka_ck ci k ∧ ka_ck ci k < 2))
  | .inr (.inl n) => decide (n ≤ 260)
  | .inr (.inr (e, qs)) => decide ((e = 0 ∨ e = 3) ∧ qs.length ≤ 8) && qs.all (fun q => decide (q < 101))
theorem ka_sk_all : ka_sk.all (ka_skok 0) = true := by decide +kernel
theorem ka_sk_len : ka_sk.length = 101 := by decide +kernel
theorem ka_mem_len (X : ka_X) : (ka_mem X).length = 101 := by simp [ka_mem, ka_sk_len]
theorem ka_sk_lt {p : Nat} {s : ka_Sh} (h : ka_sk[p]? = some s) : p < 101 := by
  have := (List.getElem?_eq_some_iff.mp h).1
  rw [ka_sk_len] at this
  exact this
theorem ka_obj {p ci : Nat} (h : ka_k p = ci) (h9 : ci < 9) : ∃ ks, ka_sk[p]? = some (.inl (ci, ks)) ∧ ks.length = ka_FN ci ∧ p < 101 ∧ ∀ k, k < ka_FN ci → (ka_ck ci k = 2 → ks[k]? = some (ka_rf p k + 2)) ∧ (ka_ck ci k = 0 → ks[k]? = some 0) ∧ (ka_ck ci k = 1 → ks[k]? = some 1) := by
  unfold ka_k at h
  split at h
  · rename_i c2 ks hs
    subst h
    have h1 := List.all_eq_true.mp ka_sk_all _ (List.mem_of_getElem? hs)
    simp only [ka_skok, Bool.and_eq_true, decide_eq_true_eq, List.all_eq_true, List.mem_range] at h1
    obtain ⟨⟨h2, h3⟩, h4⟩ := h1
    refine ⟨ks, hs, h3, ka_sk_lt hs, fun k hk => ?_⟩
    have h5 := h4 k hk
    have hl : k < ks.length := by omega
    have hg : ks[k]? = some ks[k] := List.getElem?_eq_getElem hl
    have hr : ka_rf p k = ks[k] - 2 := by unfold ka_rf; rw [hs]; simp [List.getD, hg]
    simp only [List.getD, hg, Option.getD_some] at h5
    refine ⟨fun q => ?_, fun q => ?_, fun q => ?_⟩
    · rw [if_pos q] at h5
      have h6 := of_decide_eq_true h5
      rw [hg, hr]
      congr 1
      omega
    · rw [if_neg (by omega)] at h5
      have h6 := of_decide_eq_true h5
      rw [hg, h6.1, q]
    · rw [if_neg (by omega)] at h5
      have h6 := of_decide_eq_true h5
      rw [hg, h6.1, q]
  · omega
  · omega
  · omega
theorem ka_arr {p : Nat} (h : ka_k p = 50) : ka_sk[p]? = some (.inr (.inl (ka_ln p))) ∧ p < 101 := by
  unfold ka_k at h
  split at h
  · rename_i c2 ks hs
    have h1 := List.all_eq_true.mp ka_sk_all _ (List.mem_of_getElem? hs)
    simp only [ka_skok, Bool.and_eq_true, decide_eq_true_eq] at h1
    omega
  · rename_i n hs
    unfold ka_ln
    rw [hs]
    exact ⟨rfl, ka_sk_lt hs⟩
  · omega
  · omega
theorem ka_rar {p e : Nat} (h : ka_k p = 60 + e) (he : e = 0 ∨ e = 3) : ∃ qs : List Nat, ka_sk[p]? = some (.inr (.inr (e, qs))) ∧ p < 101 ∧ ka_ln p = qs.length ∧ ∀ j, j < qs.length → qs[j]? = some (ka_ra p j) := by
  unfold ka_k at h
  split at h
  · rename_i c2 ks hs
    have h1 := List.all_eq_true.mp ka_sk_all _ (List.mem_of_getElem? hs)
    simp only [ka_skok, Bool.and_eq_true, decide_eq_true_eq] at h1
    omega
  · omega
  · rename_i e2 qs hs
    have : e2 = e := by omega
    subst this
    refine ⟨qs, hs, ka_sk_lt hs, by unfold ka_ln; rw [hs], fun j hj => ?_⟩
    unfold ka_ra
    rw [hs]
    simp [List.getD, hj]
  · omega
theorem ka_set_at {X : ka_X} {p : Nat} {s : ka_Sh} (h : ka_sk[p]? = some s) {x : Nat → Int32} : (ka_mem X).set p (ka_fi s x) = ka_mem (fun q => if q = p then x else X q) := by
  apply List.ext_getElem?
  intro i
  by_cases e : p = i
  · subst e
    have hl : p < (ka_mem X).length := by rw [ka_mem_len]; exact ka_sk_lt h
    rw [List.getElem?_set_self hl, ka_mem_at h]
    simp
  · rw [List.getElem?_set_ne e]
    simp only [ka_mem, List.getElem?_mapIdx]
    rw [if_neg (fun q => e q.symm)]
/-- what a place shows of its row -/
def ka_wd (p : Nat) : Nat := match ka_sk[p]? with
  | some (.inl (_, ks)) => ks.length
  | some (.inr (.inl n)) => n
  | _ => 0
/-- rows alike where they show are one heap (numbers beyond a row's end are in no cell of an array's contents: those must be alike in all) -/
theorem ka_fi_obj {ci : Nat} {ks : List Nat} {x y : Nat → Int32} (h : ∀ k, k < ks.length → x k = y k) : ka_fi (.inl (ci, ks)) x = ka_fi (.inl (ci, ks)) y := by
  have e : ks.mapIdx (fun k t => ka_fv t (x k)) = ks.mapIdx (fun k t => ka_fv t (y k)) := by
    apply List.ext_getElem?
    intro k
    simp only [List.getElem?_mapIdx]
    cases hk : ks[k]? with
    | none => rw [Option.map_none, Option.map_none]
    | some t =>
      have e2 := h k (List.getElem?_eq_some_iff.mp hk).1
      show some (ka_fv t (x k)) = some (ka_fv t (y k))
      rw [e2]
  show Sum.inl (ci, _) = Sum.inl (ci, _)
  rw [e]
theorem ka_mem_congr {X Y : ka_X} (h : ∀ p k, p < 101 → (ka_k p = 50 ∨ k < ka_wd p) → X p k = Y p k) : ka_mem X = ka_mem Y := by
  apply List.ext_getElem?
  intro p
  rcases Nat.lt_or_ge p 101 with hp | hp
  · have hs : ∃ s, ka_sk[p]? = some s := ⟨_, List.getElem?_eq_getElem (by rw [ka_sk_len]; exact hp)⟩
    obtain ⟨s, hs⟩ := hs
    rw [ka_mem_at hs, ka_mem_at hs]
    congr 1
    rcases s with ⟨ci, ks⟩ | n | ⟨e, qs⟩
    · refine ka_fi_obj fun k hk => h p k hp (Or.inr ?_)
      unfold ka_wd
      rw [hs]
      exact hk
    · have e : X p = Y p := funext fun k => h p k hp (Or.inl (by unfold ka_k; rw [hs]))
      rw [e]
    · rfl
  · rw [List.getElem?_eq_none (by rw [ka_mem_len]; exact hp), List.getElem?_eq_none (by rw [ka_mem_len]; exact hp)]
section
variable {sc : aS} {d y pc : Nat} {lv st : List Value} {cc : ByteArray} {X : ka_X}
theorem ka_go {pc2 len : Nat} {i : Instr} {lv2 st2 : List Value} {h h2 : aH} (hb : ka_by y = cc) (hd : decode cc pc = .ok (i, len)) (h1 : ka_ret y i len st = none) (h2' : ka_cal y i len st h = none) (h3 : ka_stp sc d y i len pc lv st h = some (pc2, lv2, st2, h2)) : ka_ex sc d y pc lv st h = ka_ex sc d y pc2 lv2 st2 h2 := ka_ex_go hb hd h1 h2' h3
/-- a getfield of a number -/
theorem ka_gi {p idx ci k w : Nat} (hb : ka_by y = cc) (hd : decode cc pc = .ok (.getfield idx, 3)) (hq : ka_lq ka_F y idx = some (ci, k, w)) (hc : ka_ck ci k = 0 ∧ ci < 9 ∧ k < ka_FN ci) (hp : ka_k p = ci) : ka_ex sc d y pc lv (.ref p :: st) (ka_mem X) = ka_ex sc d y (pc + 3) lv (.int (X p k) :: st) (ka_mem X) := by
  obtain ⟨ks, hs, hl, hlt, hk⟩ := ka_obj hp hc.2.1
  have h1 := (hk k hc.2.2).2.1 hc.1
  refine ka_go hb hd rfl rfl ?_
  have h2 : ka_s1 y (.getfield idx) 3 pc lv (.ref p :: st) (ka_mem X) = none := rfl
  rw [ka_stp, h2]
  simp only [ka_s2, hq, if_true]
  rw [if_neg (show ¬ ci = 100 by omega), if_pos (show p < 1000 by omega), ka_mem_at hs]
  simp [ka_fi, ka_fv, h1]
theorem ka_gr {p idx ci k w : Nat} (hb : ka_by y = cc) (hd : decode cc pc = .ok (.getfield idx, 3)) (hq : ka_lq ka_F y idx = some (ci, k, w)) (hc : ka_ck ci k = 2 ∧ ci < 9 ∧ k < ka_FN ci) (hp : ka_k p = ci) : ka_ex sc d y pc lv (.ref p :: st) (ka_mem X) = ka_ex sc d y (pc + 3) lv (.ref (ka_rf p k) :: st) (ka_mem X) := by
  obtain ⟨ks, hs, hl, hlt, hk⟩ := ka_obj hp hc.2.1
  have h1 := (hk k hc.2.2).1 hc.1
  refine ka_go hb hd rfl rfl ?_
  have h2 : ka_s1 y (.getfield idx) 3 pc lv (.ref p :: st) (ka_mem X) = none := rfl
  rw [ka_stp, h2]
  simp only [ka_s2, hq, if_true]
  rw [if_neg (show ¬ ci = 100 by omega), if_pos (show p < 1000 by omega), ka_mem_at hs]
  simp [ka_fi, ka_fv, h1]
theorem ka_gs {p idx ci k w : Nat} (hb : ka_by y = cc) (hd : decode cc pc = .ok (.getfield idx, 3)) (hq : ka_lq ka_F y idx = some (ci, k, w)) (hc : ka_ck ci k = 1 ∧ ci < 9 ∧ k < ka_FN ci) (hp : ka_k p = ci) : ka_ex sc d y pc lv (.ref p :: st) (ka_mem X) = ka_ex sc d y (pc + 3) lv (.ref (X p k).toNatClampNeg :: st) (ka_mem X) := by
  obtain ⟨ks, hs, hl, hlt, hk⟩ := ka_obj hp hc.2.1
  have h1 := (hk k hc.2.2).2.2 hc.1
  refine ka_go hb hd rfl rfl ?_
  have h2 : ka_s1 y (.getfield idx) 3 pc lv (.ref p :: st) (ka_mem X) = none := rfl
  rw [ka_stp, h2]
  simp only [ka_s2, hq, if_true]
  rw [if_neg (show ¬ ci = 100 by omega), if_pos (show p < 1000 by omega), ka_mem_at hs]
  simp [ka_fi, ka_fv, h1]
theorem ka_fi_put {p ci k t : Nat} {ks : List Nat} {v : Int32} (hk : ks[k]? = some t) : ka_fi (.inl (ci, ks)) (ka_put X p k v p) = .inl (ci, (ks.mapIdx (fun k t => ka_fv t (X p k))).set k (ka_fv t v)) := by
  simp only [ka_fi]
  congr 2
  apply List.ext_getElem?
  intro i
  by_cases e : k = i
  · subst e
    simp [ka_put, hk, List.getElem?_set]
    exact (List.getElem?_eq_some_iff.mp hk).1
  · have e2 : ¬ i = k := fun q => e q.symm
    simp [ka_put, e, e2, List.getElem?_set]
theorem ka_put_row (p k : Nat) (v : Int32) : (fun q => if q = p then ka_put X p k v p else X q) = ka_put X p k v := by
  funext q j
  by_cases e : q = p
  · subst e; simp
  · simp [ka_put, e]
theorem ka_pv {p idx ci k w : Nat} {v : Value} {x : Int32} (hb : ka_by y = cc) (hd : decode cc pc = .ok (.putfield idx, 3)) (hq : ka_lq ka_F y idx = some (ci, k, w)) (hc : ci < 9 ∧ k < ka_FN ci ∧ (ka_FT ci k).2.2.2 = false) (hok : ka_ok (ka_fty ci k) v = true) (hv : v = ka_fv (ka_ck ci k) x) (hck : ka_ck ci k < 2) (hp : ka_k p = ci) : ka_ex sc d y pc lv (v :: .ref p :: st) (ka_mem X) = ka_ex sc d y (pc + 3) lv st (ka_mem (ka_put X p k x)) := by
  obtain ⟨ks, hs, hl, hlt, hk⟩ := ka_obj hp hc.1
  have h1 : ks[k]? = some (ka_ck ci k) := by
    rcases (show ka_ck ci k = 0 ∨ ka_ck ci k = 1 by omega) with q | q
    · rw [q]; exact (hk k hc.2.1).2.1 q
    · rw [q]; exact (hk k hc.2.1).2.2 q
  refine ka_go hb hd (by cases v <;> rfl) rfl ?_
  have h2 : ka_s1 y (.putfield idx) 3 pc lv (v :: .ref p :: st) (ka_mem X) = none := by cases v <;> rfl
  rw [ka_stp, h2]
  have hps : p < 1000 := by omega
  have hmem : (ka_mem X)[p]? = some (.inl (ci, ks.mapIdx (fun k t => ka_fv t (X p k)))) := ka_mem_at hs
  have hset := ka_set_at (X := X) hs (x := ka_put X p k x p)
  rw [ka_put_row, ka_fi_put h1] at hset
  have e3 : ka_s2 sc y (.putfield idx) 3 pc lv (v :: .ref p :: st) (ka_mem X) = some (pc + 3, lv, st, ka_mem (ka_put X p k x)) := by
    simp only [ka_s2, hq, hmem, hps, and_self, if_true]
    rw [if_pos ⟨trivial, by simpa [hl] using hc.2.1, hc.2.1, hc.1, hok, fun q => by rw [hc.2.2] at q; cases q⟩, hv, hset]
  rw [e3]
theorem ka_pi {p idx ci k w : Nat} {x : Int32} (hb : ka_by y = cc) (hd : decode cc pc = .ok (.putfield idx, 3)) (hq : ka_lq ka_F y idx = some (ci, k, w)) (hc : ci < 9 ∧ k < ka_FN ci ∧ (ka_FT ci k).2.2.2 = false) (hc2 : ka_ck ci k = 0 ∧ ka_fty ci k = .int) (hp : ka_k p = ci) : ka_ex sc d y pc lv (.int x :: .ref p :: st) (ka_mem X) = ka_ex sc d y (pc + 3) lv st (ka_mem (ka_put X p k x)) :=
  ka_pv hb hd hq hc (by rw [hc2.2]; simp [ka_ok]; exact ⟨rfl, rfl⟩) (by rw [hc2.1]; rfl) (by omega) hp
theorem ka_pz {p idx ci k w : Nat} {x : Int32} (hb : ka_by y = cc) (hd : decode cc pc = .ok (.putfield idx, 3)) (hq : ka_lq ka_F y idx = some (ci, k, w)) (hc : ci < 9 ∧ k < ka_FN ci ∧ (ka_FT ci k).2.2.2 = false) (hc2 : ka_ck ci k = 0 ∧ ka_fty ci k = .boolean) (hp : ka_k p = ci) (hx : x = 0 ∨ x = 1) : ka_ex sc d y pc lv (.int x :: .ref p :: st) (ka_mem X) = ka_ex sc d y (pc + 3) lv st (ka_mem (ka_put X p k x)) :=
  ka_pv hb hd hq hc (by rw [hc2.2]; rcases hx with rfl | rfl <;> decide) (by rw [hc2.1]; rfl) (by omega) hp
theorem ka_ps {p idx ci k w a : Nat} (hb : ka_by y = cc) (hd : decode cc pc = .ok (.putfield idx, 3)) (hq : ka_lq ka_F y idx = some (ci, k, w)) (hc : ci < 9 ∧ k < ka_FN ci ∧ (ka_FT ci k).2.2.2 = false) (hc2 : ka_ck ci k = 1 ∧ ka_fty ci k = .object "java/lang/String") (hp : ka_k p = ci) (ha : a < 2000) : ka_ex sc d y pc lv (.ref a :: .ref p :: st) (ka_mem X) = ka_ex sc d y (pc + 3) lv st (ka_mem (ka_put X p k (nI a))) :=
  ka_pv hb hd hq hc (by rw [hc2.2]; rfl) (by rw [hc2.1]; show _ = Value.ref (nI a).toNatClampNeg; rw [show (nI a).toNatClampNeg = a from Int32.toNatClampNeg_ofNat_of_lt (by omega)]) (by omega) hp
/-- arrays of numbers -/
theorem ka_li {p : Nat} {j : Int32} (hb : ka_by y = cc) (hd : decode cc pc = .ok (.iaload, 1)) (hp : ka_k p = 50) (hj : ka_in j (ka_ln p)) : ka_ex sc d y pc lv (.int j :: .ref p :: st) (ka_mem X) = ka_ex sc d y (pc + 1) lv (.int (X p j.toNatClampNeg) :: st) (ka_mem X) := by
  obtain ⟨hs, hlt⟩ := ka_arr hp
  refine ka_go hb hd rfl rfl ?_
  have h2 : ka_s1 y .iaload 1 pc lv (.int j :: .ref p :: st) (ka_mem X) = none := rfl
  have hia : ka_ia sc (ka_mem X) p = some (ka_ln p, X p) := by
    unfold ka_ia
    rw [if_pos (show p < 1000 by omega), ka_mem_at hs]
    rfl
  rw [ka_stp, h2]
  simp only [ka_s2, hia, if_true]
  rw [if_pos (show ¬ j < 0 ∧ j.toNatClampNeg < ka_ln p from hj)]
theorem ka_lro {p n : Nat} {f : Nat → Int32} {j : Int32} (hb : ka_by y = cc) (hd : decode cc pc = .ok (.iaload, 1)) (hp : ka_ri sc p = some (n, f)) (h1 : 1000 ≤ p) (hj : ka_in j n) (h : aH) : ka_ex sc d y pc lv (.int j :: .ref p :: st) h = ka_ex sc d y (pc + 1) lv (.int (f j.toNatClampNeg) :: st) h := by
  refine ka_go hb hd rfl rfl ?_
  have h2 : ka_s1 y .iaload 1 pc lv (.int j :: .ref p :: st) h = none := rfl
  have hia : ka_ia sc h p = some (n, f) := by
    unfold ka_ia
    rw [if_neg (show ¬ p < 1000 by omega), hp]
  rw [ka_stp, h2]
  simp only [ka_s2, hia, if_true]
  rw [if_pos (show ¬ j < 0 ∧ j.toNatClampNeg < n from hj)]
theorem ka_si {p : Nat} {j x : Int32} (hb : ka_by y = cc) (hd : decode cc pc = .ok (.iastore, 1)) (hp : ka_k p = 50) (hj : ka_in j (ka_ln p)) : ka_ex sc d y pc lv (.int x :: .int j :: .ref p :: st) (ka_mem X) = ka_ex sc d y (pc + 1) lv st (ka_mem (ka_put X p j.toNatClampNeg x)) := by
  obtain ⟨hs, hlt⟩ := ka_arr hp
  refine ka_go hb hd rfl rfl ?_
  have h2 : ka_s1 y .iastore 1 pc lv (.int x :: .int j :: .ref p :: st) (ka_mem X) = none := rfl
  have hps : p < 1000 := by omega
  have hmem : (ka_mem X)[p]? = some (.inr (.inl (ka_ln p, X p))) := ka_mem_at hs
  have hset := ka_set_at (X := X) hs (x := ka_put X p j.toNatClampNeg x p)
  rw [ka_put_row] at hset
  have hf : ka_put X p j.toNatClampNeg x p = va_up (X p) j.toNatClampNeg x := by funext q; simp [ka_put, va_up]
  rw [hf] at hset
  have e3 : ka_s2 sc y .iastore 1 pc lv (.int x :: .int j :: .ref p :: st) (ka_mem X) = some (pc + 1, lv, st, ka_mem (ka_put X p j.toNatClampNeg x)) := by
    simp only [ka_s2, hmem, hps, and_self, if_true]
    rw [if_pos (show ¬ j < 0 ∧ j.toNatClampNeg < ka_ln p from hj), ← hset]
    rfl
  rw [ka_stp, h2, e3]
theorem ka_la {p e : Nat} {j : Int32} (hb : ka_by y = cc) (hd : decode cc pc = .ok (.aaload, 1)) (he : e = 0 ∨ e = 3) (hp : ka_k p = 60 + e) (hj : ka_in j (ka_ln p)) : ka_ex sc d y pc lv (.int j :: .ref p :: st) (ka_mem X) = ka_ex sc d y (pc + 1) lv (.ref (ka_ra p j.toNatClampNeg) :: st) (ka_mem X) := by
  obtain ⟨qs, hs, hlt, hl, hq⟩ := ka_rar hp he
  refine ka_go hb hd rfl rfl ?_
  have h2 : ka_s1 y .aaload 1 pc lv (.int j :: .ref p :: st) (ka_mem X) = none := rfl
  have hps : p < 1000 := by omega
  have hmem : (ka_mem X)[p]? = some (.inr (.inr (e, qs.length, fun j => qs[j]?))) := ka_mem_at hs
  rw [hl] at hj
  rw [ka_stp, h2]
  simp only [ka_s2, hmem, hps, and_self, if_true]
  rw [if_pos (show (e = 0 ∨ e = 3) ∧ ¬ j < 0 ∧ j.toNatClampNeg < qs.length from ⟨he, hj⟩), hq _ hj.2]
theorem ka_len {p : Nat} (hb : ka_by y = cc) (hd : decode cc pc = .ok (.arraylength, 1)) (hp : ka_k p = 50 ∨ ka_k p = 60 ∨ ka_k p = 63) : ka_ex sc d y pc lv (.ref p :: st) (ka_mem X) = ka_ex sc d y (pc + 1) lv (.int (nI (ka_ln p)) :: st) (ka_mem X) := by
  refine ka_go hb hd rfl rfl ?_
  have h2 : ka_s1 y .arraylength 1 pc lv (.ref p :: st) (ka_mem X) = none := rfl
  have hal : ka_al sc (ka_mem X) p = some (ka_ln p) := by
    unfold ka_al
    rcases hp with hp | hp | hp
    · obtain ⟨hs, hlt⟩ := ka_arr hp
      rw [if_pos (show p < 1000 by omega), ka_mem_at hs]
      rfl
    · obtain ⟨qs, hs, hlt, hl, hq⟩ := ka_rar (e := 0) hp (Or.inl rfl)
      rw [if_pos (show p < 1000 by omega), ka_mem_at hs, hl]
      rfl
    · obtain ⟨qs, hs, hlt, hl, hq⟩ := ka_rar (e := 3) hp (Or.inr rfl)
      rw [if_pos (show p < 1000 by omega), ka_mem_at hs, hl]
      rfl
  rw [ka_stp, h2]
  simp only [ka_s2, hal, if_true]
  rfl
theorem ka_cpy {a b idx w : Nat} {q : Nat × Nat × Nat × Nat} {n dp sp : Int32} (hb : ka_by y = cc) (hd : decode cc pc = .ok (.invokestatic idx, 3)) (hq : ka_lq ka_C y idx = some (6, w, q)) (h1 : 1 ≤ d) (hst : st.length ≤ 4) (ha : ka_k a = 50) (hbb : ka_k b = 50) (hin : ¬ sp < 0 ∧ ¬ dp < 0 ∧ ¬ n < 0 ∧ sp.toNatClampNeg + n.toNatClampNeg ≤ ka_ln b ∧ dp.toNatClampNeg + n.toNatClampNeg ≤ ka_ln a) : ka_ex sc d y pc lv (.int n :: .int dp :: .ref a :: .int sp :: .ref b :: st) (ka_mem X) = ka_ex sc d y (pc + 3) lv st (ka_mem (fun p => if p = a then va_cpy (X b) (X a) sp.toNatClampNeg dp.toNatClampNeg n.toNatClampNeg else X p)) := by
  obtain ⟨hs, hlt⟩ := ka_arr ha
  obtain ⟨hs2, hlt2⟩ := ka_arr hbb
  refine ka_go hb hd rfl ?_ ?_
  · simp only [ka_cal, hq, if_true]
    rw [if_neg (fun z => by omega)]
  · have h2 : ka_s1 y (.invokestatic idx) 3 pc lv (.int n :: .int dp :: .ref a :: .int sp :: .ref b :: st) (ka_mem X) = none := rfl
    have h3 : ka_s2 sc y (.invokestatic idx) 3 pc lv (.int n :: .int dp :: .ref a :: .int sp :: .ref b :: st) (ka_mem X) = none := rfl
    have hm1 : (ka_mem X)[a]? = some (.inr (.inl (ka_ln a, X a))) := ka_mem_at hs
    have hm2 : (ka_mem X)[b]? = some (.inr (.inl (ka_ln b, X b))) := ka_mem_at hs2
    have hset := ka_set_at (X := X) hs (x := va_cpy (X b) (X a) sp.toNatClampNeg dp.toNatClampNeg n.toNatClampNeg)
    rw [ka_stp, h2, h3]
    simp only [ka_s3, hq, h1, and_self, if_true]
    simp only [ka_cp, hm1, hm2]
    rw [if_neg (show ¬ (6 : Nat) = 4 by decide), if_neg (show ¬ (6 : Nat) = 5 by decide), if_pos (show st.length ≤ 4 ∧ a < 1000 ∧ b < 1000 from ⟨hst, by omega, by omega⟩), if_pos hin, ← hset]
    rfl
/-- what a frame goes on with behind a call -/
noncomputable def ka_ki (r : Option (Option Value × aH)) (sc : aS) (d y pc : Nat) (lv st : List Value) : Option (Option Value × aH) := match r with
  | some (some (.int v), h) => ka_ex sc d y pc lv (.int v :: st) h
  | _ => none
noncomputable def ka_kv (r : Option (Option Value × aH)) (sc : aS) (d y pc : Nat) (lv st : List Value) : Option (Option Value × aH) := match r with
  | some (none, h) => ka_ex sc d y pc lv st h
  | _ => none
noncomputable def ka_kr (r : Option (Option Value × aH)) (sc : aS) (d y pc : Nat) (lv st : List Value) : Option (Option Value × aH) := match r with
  | some (some (.ref v), h) => ka_ex sc d y pc lv (.ref v :: st) h
  | _ => none
end
