/-! the law comes to its end with true -/
def zsk (s : ka_Sh) : Nat := match s with
  | .inl (_, ks) => ks.length
  | .inr (.inl n) => n
  | .inr (.inr (_, qs)) => qs.length
theorem zsk_ok {s : ka_Sh} {x : Nat → Int32} : ka_z (ka_fi s x) = zsk s := by
  rcases s with ⟨ci, ks⟩ | n | ⟨e, qs⟩
  · show (ks.mapIdx (fun k t => ka_fv t (x k))).length = ks.length
    rw [List.length_mapIdx]
  · rfl
  · rfl
theorem zs_ok : ∀ {ss : List ka_Sh} {X : ka_X}, ka_zs (ss.mapIdx (fun p s => ka_fi s (X p))) = (ss.map zsk).sum
  | [], _ => rfl
  | s :: ss, X => by
    have := zs_ok (ss := ss) (X := fun p => X (p + 1))
    unfold ka_zs at this ⊢
    rw [List.mapIdx_cons, List.map_cons, List.sum_cons, List.map_cons, List.sum_cons, zsk_ok, this]
theorem zs_sk : (ka_sk.map zsk).sum ≤ 7302249 := by decide +kernel
section
variable {sc : aS} {d : Nat} {lv st : List Value} {h : aH}
theorem lw_n0 : ka_ex sc d 211 0 lv [] [] = ka_ex sc d 211 3 lv [.ref 0] k7 := ka_go kb_211 dL_law_0 rfl rfl rfl
theorem lw_n8 (hl : h.length = 87) : ka_ex sc d 211 8 lv [] h = ka_ex sc d 211 11 lv [.ref 87] (h ++ [k8]) := by
  refine ka_go kb_211 dL_law_8 rfl rfl ?_
  show (match (if 3 = 3 ∧ h.length < 999 then _ else none : Option aF) with | some f => some f | none => _) = _
  rw [if_pos ⟨rfl, by omega⟩]
  show (some ((11 : Nat), lv, [Value.ref h.length], h ++ [k8]) : Option aF) = _
  rw [hl]
theorem lw_c4 : ka_ex sc (d + 1) 211 4 lv [.ref 0, .ref 0] h = (ka_ex sc d 63 0 [.ref 0, ka_nv] [] h).bind (fun w => ka_ex sc (d + 1) 211 7 lv (w.1.toList ++ [.ref 0]) w.2) := ka_ex_call (z := 63) (vs := [.ref 0]) (rest := [.ref 0]) kb_211 dL_law_4 rfl rfl
theorem lw_c12 : ka_ex sc (d + 1) 211 12 lv [.ref 87, .ref 87] h = (ka_ex sc d 115 0 [.ref 87, ka_nv] [] h).bind (fun w => ka_ex sc (d + 1) 211 15 lv (w.1.toList ++ [.ref 87]) w.2) := ka_ex_call (z := 115) (vs := [.ref 87]) (rest := [.ref 87]) kb_211 dL_law_12 rfl rfl
end
theorem ka_begin {sc : aS} : ∃ X, Inv X ∧ ka_ex sc 200 211 0 [.ref 1000, ka_nv, ka_nv, ka_nv] [] [] = ka_ex sc 200 211 18 [.ref 1000, .ref 0, .ref 87, .int (nI 0)] [] (ka_mem X) := by
  obtain ⟨h1, X, e1, hl, -, hX, e2⟩ := kc_both
  have r1 : ka_ex sc 199 63 0 [.ref 0, ka_nv] [] k7 = some (none, h1) := ka_ex_iff.mpr ⟨3000, ka_rng_ok _ _ _ _ _ _ _ _ e1⟩
  have r2 : ka_ex sc 199 115 0 [.ref 87, ka_nv] [] (h1 ++ [k8]) = some (none, ka_mem X) := ka_ex_iff.mpr ⟨3000, ka_rng_ok _ _ _ _ _ _ _ _ e2⟩
  refine ⟨X, hX, ?_⟩
  generalize ka_mem X = M at r2 ⊢
  rw [lw_n0, x211_3]
  show ka_ex sc (199 + 1) 211 4 _ _ _ = _
  rw [lw_c4, r1]
  show ka_ex sc (199 + 1) 211 7 [.ref 1000, ka_nv, ka_nv, ka_nv] [.ref 0] h1 = _
  rw [x211_7, lw_n8 hl, x211_11]
  show ka_ex sc (199 + 1) 211 12 [.ref 1000, .ref 0, ka_nv, ka_nv] [.ref 87, .ref 87] _ = _
  rw [lw_c12, r2]
  show ka_ex sc (199 + 1) 211 15 [.ref 1000, .ref 0, ka_nv, ka_nv] [.ref 87] M = _
  rw [x211_15, x211_16, x211_17]
  rfl
/-- from the entry, for every script of at most 3072 ints, the law comes to its end with true -/
theorem ka_goal (L : Nat) (xs : Nat → Int32) (hL : L ≤ 3072) : ∃ h2, ka_ex (L, xs) 200 211 0 [.ref 1000, ka_nv, ka_nv, ka_nv] [] [] = some (some (.int 1), h2) ∧ h2.length ≤ 600000 ∧ ka_zs h2 ≤ 7302249 := by
  obtain ⟨X, hX, e⟩ := @ka_begin (L, xs)
  obtain ⟨Z, hZ⟩ := @lw_l L xs hL L 0 X hX (by omega) (by omega)
  refine ⟨ka_mem Z, by rw [e, hZ], by rw [ka_mem_len]; decide, ?_⟩
  show ka_zs (ka_sk.mapIdx (fun p s => ka_fi s (Z p))) ≤ _
  rw [zs_ok]
  exact zs_sk
