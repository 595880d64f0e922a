/-! a machine that reads no script: what it comes to, the machine with a script comes to -/
def ka_gk (i : Instr) (st : List Value) : Bool := match i, st with
  | .iaload, .int _ :: .ref a :: _ => decide (a < 1000)
  | .iaload, _ => false
  | .arraylength, .ref a :: _ => decide (a < 1000)
  | .arraylength, _ => false
  | _, _ => true
theorem ka_ia_g {s1 s2 : aS} {h : aH} {a : Nat} (ha : a < 1000) : ka_ia s1 h a = ka_ia s2 h a := by
  unfold ka_ia
  rw [if_pos ha, if_pos ha]
theorem ka_al_g {s1 s2 : aS} {h : aH} {a : Nat} (ha : a < 1000) : ka_al s1 h a = ka_al s2 h a := by
  unfold ka_al
  rw [if_pos ha, if_pos ha]
theorem ka_s2_g {s1 s2 : aS} {y : Nat} {i : Instr} {len pc : Nat} {lv st : List Value} {h : aH} (hg : ka_gk i st = true) : ka_s2 s1 y i len pc lv st h = ka_s2 s2 y i len pc lv st h := by
  unfold ka_s2
  split
  all_goals first
    | rfl
    | (have ha := of_decide_eq_true hg
       simp only [ka_ia_g (s1 := s1) (s2 := s2) ha]
       done)
    | (have ha := of_decide_eq_true hg
       simp only [ka_al_g (s1 := s1) (s2 := s2) ha]
       done)
    | skip
def ka_rng : Nat → Nat → Nat → Nat → List Value → List Value → aH → Option (Option Value × aH)
  | 0, _, _, _, _, _, _ => none
  | n + 1, d, y, pc, lv, st, h => match decode (ka_by y) pc with
    | .error _ => none
    | .ok (i, len) => match ka_gk i st with
      | false => none
      | true => match ka_ret y i len st with
        | some v => some (v, h)
        | none => match ka_cal y i len st h with
          | some (z, vs, rest) => (match d with
            | 0 => none
            | d + 1 => match ka_rng n d z 0 (ka_ent z vs) [] h with
              | none => none
              | some (v, h2) => ka_rng n (d + 1) y (pc + 3) lv (v.toList ++ rest) h2)
          | none => match ka_stp (0, fun _ => 0) d y i len pc lv st h with
            | some (pc2, lv2, st2, h2) => ka_rng n d y pc2 lv2 st2 h2
            | none => none
theorem ka_rng_ok {sc : aS} : ∀ (n d y pc : Nat) (lv st : List Value) (h : aH) (r : Option Value × aH), ka_rng n d y pc lv st h = some r → ka_run sc n d y pc lv st h = some r := by
  intro n
  induction n with
  | zero => intro d y pc lv st h r hr; cases hr
  | succ n ih =>
    intro d y pc lv st h r hr
    rw [ka_rng] at hr
    rw [ka_run]
    cases hd : decode (ka_by y) pc with
    | error e => rw [hd] at hr; cases hr
    | ok il =>
      obtain ⟨i, len⟩ := il
      rw [hd] at hr
      simp only at hr ⊢
      cases hg : ka_gk i st with
      | false => rw [hg] at hr; cases hr
      | true =>
        rw [hg] at hr
        simp only at hr
        cases hret : ka_ret y i len st with
        | some v => rw [hret] at hr; exact hr
        | none =>
          rw [hret] at hr
          simp only at hr ⊢
          cases hcal : ka_cal y i len st h with
          | some q =>
            obtain ⟨z, vs, rest⟩ := q
            rw [hcal] at hr
            simp only at hr ⊢
            cases d with
            | zero => cases hr
            | succ d =>
              simp only at hr ⊢
              cases hz : ka_rng n d z 0 (ka_ent z vs) [] h with
              | none => rw [hz] at hr; cases hr
              | some w =>
                rw [hz] at hr
                rw [ih _ _ _ _ _ _ _ hz]
                exact ih _ _ _ _ _ _ _ hr
          | none =>
            rw [hcal] at hr
            simp only at hr ⊢
            have es : ka_stp sc d y i len pc lv st h = ka_stp (0, fun _ => 0) d y i len pc lv st h := by
              unfold ka_stp
              rw [ka_s2_g (s1 := sc) (s2 := (0, fun _ => 0)) hg]
            rw [es]
            cases hs : ka_stp (0, fun _ => 0) d y i len pc lv st h with
            | none => rw [hs] at hr; cases hr
            | some f =>
              obtain ⟨pc2, lv2, st2, h2⟩ := f
              rw [hs] at hr
              exact ih _ _ _ _ _ _ _ hr
def k7 : aH := [.inl (7, (List.range (ka_FN 7)).map (fun j => ka_dv (ka_fty 7 j)))]
def kc1 : Option (Option Value × aH) := ka_rng 3000 199 63 0 [.ref 0, ka_nv] [] k7
theorem kc1_t : (match kc1 with | some (none, h) => decide (h.length = 87) | _ => false) = true := by decide +kernel
