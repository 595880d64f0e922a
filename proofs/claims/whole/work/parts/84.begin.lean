/-! both constructors, run to their ends -/
def k8 : aC := .inl (8, (List.range (ka_FN 8)).map (fun j => ka_dv (ka_fty 8 j)))
def kc2 : Option (Option Value × aH) := match kc1 with
  | some (none, h) => ka_rng 3000 199 115 0 [.ref 87, ka_nv] [] (h ++ [k8])
  | _ => none
theorem kc2_t : (match kc2 with | some (none, h) => chh ka_sk h && decide (Iv (xof h)) | _ => false) = true := by decide +kernel
theorem wf_k7 : wfh k7 := by
  intro a e n f ha
  cases a with
  | zero => cases ha
  | succ a => cases ha
theorem kc_both : ∃ (h1 : aH) (X : ka_X), kc1 = some (none, h1) ∧ h1.length = 87 ∧ kc2 = some (none, ka_mem X) ∧ Inv X ∧ ka_rng 3000 199 115 0 [.ref 87, ka_nv] [] (h1 ++ [k8]) = some (none, ka_mem X) := by
  have t1 := kc1_t
  have t2 := kc2_t
  cases e1 : kc1 with
  | none => rw [e1] at t1; cases t1
  | some r =>
    obtain ⟨v, h1⟩ := r
    cases v with
    | some v => rw [e1] at t1; cases t1
    | none =>
      rw [e1] at t1
      have hl := of_decide_eq_true t1
      have e12 : kc2 = ka_rng 3000 199 115 0 [.ref 87, ka_nv] [] (h1 ++ [k8]) := by
        unfold kc2
        rw [e1]
      cases e2 : kc2 with
      | none => rw [e2] at t2; cases t2
      | some r2 =>
        obtain ⟨v2, h2⟩ := r2
        cases v2 with
        | some v2 => rw [e2] at t2; cases t2
        | none =>
          rw [e2] at t2
          have t3 : (chh ka_sk h2 && decide (Iv (xof h2))) = true := t2
          rw [Bool.and_eq_true] at t3
          have w1 : wfh h1 := wf_run (sc := (0, fun _ => 0)) _ _ _ _ _ _ _ _ wf_k7 (ka_rng_ok _ _ _ _ _ _ _ _ e1)
          have e3 : ka_rng 3000 199 115 0 [.ref 87, ka_nv] [] (h1 ++ [k8]) = some (none, h2) := by rw [← e12, e2]
          have w2 : wfh h2 := wf_run (sc := (0, fun _ => 0)) _ _ _ _ _ _ _ _ (wf_app1 w1) (ka_rng_ok _ _ _ _ _ _ _ _ e3)
          have hm := xof_mem t3.1 w2
          exact ⟨h1, xof h2, rfl, hl, by rw [hm], Iv_Inv (of_decide_eq_true t3.2), by rw [hm]; exact e3⟩
