/-! an array of objects holds nothing beyond its end -/
def wfh (h : aH) : Prop := ∀ (a e n : Nat) (f : Nat → Option Nat), h[a]? = some (.inr (.inr (e, n, f))) → ∀ j, n ≤ j → f j = none
theorem wf_set {h : aH} {b : Nat} {c : aC} (w : wfh h) (hc : ∀ (e n : Nat) (f : Nat → Option Nat), c = .inr (.inr (e, n, f)) → ∀ j, n ≤ j → f j = none) : wfh (h.set b c) := by
  intro a e n f ha j hj
  rw [List.getElem?_set] at ha
  split at ha
  · split at ha
    · cases ha
      exact hc e n f rfl j hj
    · cases ha
  · exact w a e n f ha j hj
theorem wf_app {h : aH} {c : aC} (w : wfh h) (hc : ∀ (e n : Nat) (f : Nat → Option Nat), c = .inr (.inr (e, n, f)) → ∀ j, n ≤ j → f j = none) : wfh (h ++ [c]) := by
  intro a e n f ha j hj
  rw [List.getElem?_append] at ha
  split at ha
  · exact w a e n f ha j hj
  · cases hk : a - h.length with
    | zero =>
      rw [hk] at ha
      cases ha
      exact hc e n f rfl j hj
    | succ k =>
      rw [hk] at ha
      cases ha
theorem wf_set1 {h : aH} {b : Nat} {q} (w : wfh h) : wfh (h.set b (.inl q)) := wf_set w (fun _ _ _ e => by cases e)
theorem wf_set2 {h : aH} {b : Nat} {q} (w : wfh h) : wfh (h.set b (.inr (.inl q))) := wf_set w (fun _ _ _ e => by cases e)
theorem wf_set3 {h : aH} {a e e2 n k : Nat} {f : Nat → Option Nat} {v : Option Nat} (w : wfh h) (hf : h[a]? = some (.inr (.inr (e, n, f)))) (hk : k < n) : wfh (h.set a (.inr (.inr (e2, n, va_up f k v)))) := by
  refine wf_set w ?_
  intro _ _ _ q j hj
  cases q
  unfold va_up
  rw [if_neg (by omega)]
  exact w _ _ _ _ hf j hj
theorem wf_app1 {h : aH} {q} (w : wfh h) : wfh (h ++ [.inl q]) := wf_app w (fun _ _ _ e => by cases e)
theorem wf_app2 {h : aH} {q} (w : wfh h) : wfh (h ++ [.inr (.inl q)]) := wf_app w (fun _ _ _ e => by cases e)
theorem wf_app3 {h : aH} {e n : Nat} (w : wfh h) : wfh (h ++ [.inr (.inr (e, n, fun _ => none))]) := by
  refine wf_app w ?_
  intro _ _ _ q j hj
  cases q
  rfl
theorem wf_s1 {y : Nat} {i : Instr} {len pc : Nat} {lv st : List Value} {h : aH} {f : aF} (e : ka_s1 y i len pc lv st h = some f) : f.2.2.2 = h := by
  unfold ka_s1 at e
  split at e
  all_goals (try simp only [ka_store, ka_if] at e)
  all_goals (repeat' split at e)
  all_goals first
    | (cases e; rfl)
    | cases e
theorem wf_s2 {sc : aS} {y : Nat} {i : Instr} {len pc : Nat} {lv st : List Value} {h : aH} {f : aF} (w : wfh h) (e : ka_s2 sc y i len pc lv st h = some f) : wfh f.2.2.2 := by
  unfold ka_s2 at e
  split at e
  all_goals (repeat' split at e)
  all_goals first
    | (cases e; exact w)
    | (cases e; exact wf_set1 w)
    | (cases e; exact wf_set2 w)
    | (cases e; exact wf_app1 w)
    | (cases e; exact wf_app2 w)
    | (cases e; exact wf_app3 w)
    | (cases e; exact wf_set3 w (by assumption) (by omega))
    | cases e
theorem wf_s3 {d y : Nat} {i : Instr} {len pc : Nat} {lv st : List Value} {h : aH} {f : aF} (w : wfh h) (e : ka_s3 d y i len pc lv st h = some f) : wfh f.2.2.2 := by
  unfold ka_s3 at e
  split at e
  all_goals (try simp only [ka_cp] at e)
  all_goals (repeat' split at e)
  all_goals first
    | (cases e; exact w)
    | (cases e; exact wf_set2 w)
    | cases e
theorem wf_stp {sc : aS} {d y : Nat} {i : Instr} {len pc : Nat} {lv st : List Value} {h : aH} {f : aF} (w : wfh h) (e : ka_stp sc d y i len pc lv st h = some f) : wfh f.2.2.2 := by
  unfold ka_stp at e
  split at e
  · rename_i q h1
    cases e
    rw [wf_s1 h1]
    exact w
  · split at e
    · rename_i q h2
      cases e
      exact wf_s2 w h2
    · exact wf_s3 w e
theorem wf_run {sc : aS} : ∀ (n d y pc : Nat) (lv st : List Value) (h : aH) (r : Option Value × aH), wfh h → ka_run sc n d y pc lv st h = some r → wfh r.2 := by
  intro n
  induction n with
  | zero => intro d y pc lv st h r w hr; cases hr
  | succ n ih =>
    intro d y pc lv st h r w hr
    rw [ka_run] at hr
    cases hd : decode (ka_by y) pc with
    | error e => rw [hd] at hr; cases hr
    | ok il =>
      obtain ⟨i, len⟩ := il
      rw [hd] at hr
      simp only at hr
      cases hret : ka_ret y i len st with
      | some v =>
        rw [hret] at hr
        cases hr
        exact w
      | none =>
        rw [hret] at hr
        simp only at hr
        cases hcal : ka_cal y i len st h with
        | some q =>
          obtain ⟨z, vs, rest⟩ := q
          rw [hcal] at hr
          simp only at hr
          cases d with
          | zero => cases hr
          | succ d =>
            simp only at hr
            cases hz : ka_run sc n d z 0 (ka_ent z vs) [] h with
            | none => rw [hz] at hr; cases hr
            | some v =>
              rw [hz] at hr
              exact ih _ _ _ _ _ _ _ (ih _ _ _ _ _ _ _ w hz) hr
        | none =>
          rw [hcal] at hr
          simp only at hr
          cases hs : ka_stp sc d y i len pc lv st h with
          | none => rw [hs] at hr; cases hr
          | some f =>
            obtain ⟨pc2, lv2, st2, h2⟩ := f
            rw [hs] at hr
            exact ih _ _ _ _ _ _ _ (wf_stp w hs) hr
