/-! one step of the small machine is one step of the real one: Object's constructor, max, min, arraycopy; what a run adds -/
section
variable {p : Program} {l : Launch} {e : Env} {R : Room} {s : State} {m : MethodId} {args : Array Value} {below : List Frame} {meth : Method} {c : Code} {H : Heap} {locs : List Loc} {cells slots : Nat} {Q : State → Prop}
variable {B : Nat} {ro : Nat → Nat} {sc : aS} {y : Nat} {cI : ClassId} {cE : Nat → ClassId} {D : va_G}
theorem ka_cat1 (v : Value) : v.category ≤ 2 := by cases v <;> simp [Value.category]
theorem ka_cats : ∀ (st : List Value), (st.map (fun v => v.category)).sum ≤ 2 * st.length := by
  intro st
  induction st with
  | nil => exact Nat.le_refl _
  | cons v t ih =>
    have := ka_cat1 v
    simp only [List.map_cons, List.sum_cons, List.length_cons]
    omega
theorem ka_cats8 {st : List Value} (h : st.length ≤ 4) : ((st.map (ka_v B ro)).map (fun v => v.category)).sum ≤ 8 := by
  have := ka_cats (st.map (ka_v B ro))
  rw [List.length_map] at this
  omega
theorem ka_cats1 : ∀ (st : List Value), st.all (fun v => decide (v.category = 1)) = true → (st.map (fun v => v.category)).sum = st.length := by
  intro st
  induction st with
  | nil => intro _; rfl
  | cons v t ih =>
    intro h
    simp only [List.all_cons, Bool.and_eq_true, decide_eq_true_eq] at h
    have := ih h.2
    simp only [List.map_cons, List.sum_cons, List.length_cons]
    omega
theorem ka_cats_r8 {st : List Value} (h : ka_r8 st = true) : ((st.map (ka_v B ro)).map (fun v => v.category)).sum ≤ 8 := by
  unfold ka_r8 at h
  simp only [Bool.or_eq_true, Bool.and_eq_true, decide_eq_true_eq] at h
  rcases h with h | ⟨h1, h2⟩
  · exact ka_cats8 h
  · have h3 : (st.map (ka_v B ro)).map (fun v => v.category) = st.map (fun v => v.category) := by
      rw [List.map_map]
      exact List.map_congr_left fun v _ => ka_v_cat B ro v
    rw [h3, ka_cats1 st h2]
    exact h1
theorem ka_C_ok {k : Nat} {q : Nat × Nat × Nat × Nat × Nat × Nat} (h : ka_lq ka_C y k = some q) : ∃ kk, ka_Cok (kk, q) = true ∧ ka_cnk kk = ka_cn y ∧ kk % 65536 = k ∧ (kk, q) ∈ ka_C := by
  obtain ⟨kk, hm, e1, e2, -⟩ := ka_lq_mem h
  exact ⟨kk, List.all_eq_true.mp ka_C_all _ hm, e1, e2, hm⟩
set_option maxHeartbeats 4000000 in
theorem ka_s3_sound {d : Nat} {i : Instr} {len pc pc2 : Nat} {lv lv2 st st2 : List Value} {h h2 : aH} {ls : Array Slot} {h0 z0 : Nat} (hs : ka_s3 d y i len pc lv st h = some (pc2, lv2, st2, h2)) (hd : decode (ka_by y) pc = .ok (i, len)) (hx : p.tables.exec = Jvm.exec) (hb : c.code = ka_by y) (hml : c.maxLocals = ls.size) (hown : s.vm.findClass (ka_cn y) = some m.cls) (hts : ∀ w ∈ ka_T, w.before args s = true) (hK : va_K D vwCl (ka_tys cI cE) s) (hS : va_S (fun q => B ≤ q) s.heap H locs) (hP : va_P D vwCl (ka_w B ro cI cE h) H) (hc : cells + h0 = h.length) (hz : slots + z0 = ka_zs h) (hcR : h2.length ≤ R.cells + h0) (hsR : ka_zs h2 ≤ R.slots + z0) (hfr : d ≤ R.frames) (hlo : 128 * d ≤ R.locals)
    (k : ∀ (H2 : Heap) (locs2 : List Loc), lv2 = lv → va_S (fun q => B ≤ q) s.heap H2 locs2 → va_P D vwCl (ka_w B ro cI cE h2) H2 → cells + h0 = h2.length → slots + z0 = ka_zs h2 → W p l e R s m args below meth c H2 locs2 cells slots Q (F0 m pc2 ls (st2.map (ka_v B ro)))) : W p l e R s m args below meth c H locs cells slots Q (F0 m pc ls (st.map (ka_v B ro))) := by
  have hD := ka_w_D (B := B) (ro := ro) (cI := cI) (cE := cE) h
  unfold ka_s3 at hs
  split at hs
  · rename_i k1 a1 st1
    split at hs
    · rename_i q
      obtain ⟨q, hd1, hst⟩ := q
      subst q
      split at hs
      · rename_i w hq
        split at hs
        · rename_i h3
          obtain ⟨kk, hok, e1, e2, -⟩ := ka_C_ok hq
          unfold ka_Cok at hok
          rw [if_pos h3] at hok
          have hw := of_decide_eq_true hok
          rw [e1, e2] at hw
          have h8 := ka_cats8 (B := B) (ro := ro) hst
          cases hs
          refine W.objInit hx hb hown (hts _ (ka_T_of hw rfl)) (hts _ (ka_T_of ka_W1.1 rfl)) (hts _ (ka_T_of ka_W1.2.1 rfl)) rfl hml.symm rfl hd (by omega) ?_ (k H locs rfl hS hP hc hz)
          show 2 * 0 + _ + 12 ≤ R.locals
          omega
        · cases hs
      · cases hs
    · cases hs
  · rename_i k1 b1 a1 st1
    split at hs
    · rename_i q
      obtain ⟨q, hd1⟩ := q
      subst q
      split at hs
      · rename_i w hq
        obtain ⟨kk, hok, e1, e2, -⟩ := ka_C_ok hq
        unfold ka_Cok at hok
        split at hs
        · rename_i h4
          split at hs
          · rename_i hst
            have h3 : ¬ w.1 = 3 := by omega
            rw [if_neg h3, if_pos h4] at hok
            have hw := of_decide_eq_true hok
            rw [e1, e2] at hw
            have h8 := ka_cats8 (B := B) (ro := ro) hst
            cases hs
            exact va_mmax hx hb hml hown (hts _ (ka_T_of hw rfl)) (hts _ (ka_T_of ka_W1.2.2.2.2.2.2.1 rfl)) (hts _ (ka_T_of ka_W1.2.2.1 rfl)) (hts _ (ka_T_of ka_W1.2.2.2.2.2.2.2.1 rfl)) (by omega) (by omega) (by omega) (by omega) hd (k H locs rfl hS hP hc hz)
          · cases hs
        · rename_i h4
          split at hs
          · rename_i h5
            split at hs
            · rename_i hst
              have h3 : ¬ w.1 = 3 := by omega
              rw [if_neg h3, if_neg h4, if_pos h5] at hok
              have hw := of_decide_eq_true hok
              rw [e1, e2] at hw
              have h8 := ka_cats8 (B := B) (ro := ro) hst
              cases hs
              exact va_mmin hx hb hml hown (hts _ (ka_T_of hw rfl)) (hts _ (ka_T_of ka_W1.2.2.2.2.1 rfl)) (hts _ (ka_T_of ka_W1.2.2.1 rfl)) (hts _ (ka_T_of ka_W1.2.2.2.2.2.1 rfl)) (by omega) (by omega) (by omega) (by omega) hd (k H locs rfl hS hP hc hz)
            · cases hs
          · rename_i h5
            split at hs
            · rename_i h6
              have h3 : ¬ w.1 = 3 := by omega
              rw [if_neg h3, if_neg h4, if_neg h5, if_pos h6] at hok
              have hw := of_decide_eq_true hok
              rw [e1, e2] at hw
              unfold ka_cp at hs
              split at hs
              · rename_i a2 sp b2 st2'
                split at hs
                · rename_i hst
                  obtain ⟨hst, ha, hb9⟩ := hst
                  split at hs
                  · rename_i n0 f hc0
                    split at hs
                    · rename_i n1 g hc1
                      split at hs
                      · rename_i hin
                        obtain ⟨i1, i2, i3, i4, i5⟩ := hin
                        have h8 := ka_cats8 (B := B) (ro := ro) hst
                        have hnw : nativeFrameWords "java/lang/System" "arraycopy" 5 = 7 := by decide
                        cases hs
                        refine va_copyi (a := ka_ad B ro a2) (a0 := ka_ad B ro b2) hx hb hml hown (hts _ (ka_T_of hw rfl)) (hts _ (ka_T_of ka_W1.2.2.2.2.2.2.2.2.2.1 rfl)) (hts _ (ka_T_of ka_W1.2.2.2.2.2.2.2.2.1 rfl)) (hts _ (ka_T_of ka_W1.2.2.2.1 rfl)) hK hP hD hS b2 a2 0 0 (by rw [ka_ad_lt hb9]; exact ka_w_get hc0) (by rw [ka_ad_lt ha]; exact ka_w_get hc1) rfl rfl rfl i1 i2 i3 i4 i5 (fun _ _ => rfl) (by omega) (by rw [hnw]; omega) hd ?_
                        intro H1 locs1 hP1 _ hS1
                        rw [ka_ad_lt ha] at hP1
                        have hP2 : va_P D vwCl (ka_w B ro cI cE (h.set a2 (.inr (.inl (n1, va_cpy f g sp.toNatClampNeg a1.toNatClampNeg b1.toNatClampNeg))))) H1 := by
                          rw [← ka_w_set]
                          exact hP1
                        exact k H1 locs1 rfl hS1 hP2 (by rw [List.length_set]; exact hc) (by rw [ka_zs_set hc1 (by rfl)]; exact hz)
                      · cases hs
                    · cases hs
                  · cases hs
                · cases hs
              · cases hs
            · cases hs
      · cases hs
    · cases hs
  · cases hs
end
/-- the heap only grows -/
def ka_le (h h2 : aH) : Prop := h.length ≤ h2.length ∧ ka_zs h ≤ ka_zs h2
theorem ka_le.rf (h : aH) : ka_le h h := ⟨Nat.le_refl _, Nat.le_refl _⟩
theorem ka_le.tr {a b c : aH} (h : ka_le a b) (h2 : ka_le b c) : ka_le a c := ⟨Nat.le_trans h.1 h2.1, Nat.le_trans h.2 h2.2⟩
theorem ka_le_set {h : aH} {k : Nat} {c c2 : aC} (hk : h[k]? = some c) (e : ka_z c2 = ka_z c) : ka_le h (h.set k c2) := ⟨by rw [List.length_set]; exact Nat.le_refl _, by rw [ka_zs_set hk e]; exact Nat.le_refl _⟩
theorem ka_le_push (h : aH) (c : aC) : ka_le h (h ++ [c]) := ⟨by simp, by rw [ka_zs_push]; omega⟩
theorem ka_s1_le {y : Nat} {i : Instr} {len pc pc2 : Nat} {lv lv2 st st2 : List Value} {h h2 : aH} (hs : ka_s1 y i len pc lv st h = some (pc2, lv2, st2, h2)) : h2 = h := by
  unfold ka_s1 at hs
  split at hs
  all_goals first | (cases hs; done) | skip
  all_goals (try unfold ka_store at hs)
  all_goals (try unfold ka_if at hs)
  all_goals (repeat' split at hs)
  all_goals first | (cases hs; rfl) | (cases hs; done)
theorem ka_s2_le {sc : aS} {y : Nat} {i : Instr} {len pc pc2 : Nat} {lv lv2 st st2 : List Value} {h h2 : aH} (hs : ka_s2 sc y i len pc lv st h = some (pc2, lv2, st2, h2)) : ka_le h h2 := by
  unfold ka_s2 at hs
  split at hs
  all_goals (repeat' split at hs)
  all_goals first | (cases hs; exact ka_le.rf _) | (cases hs; exact ka_le_push _ _) | (cases hs; refine ka_le_set (by assumption) ?_; simp [ka_z]; done) | (cases hs; done)
theorem ka_s3_le {d y : Nat} {i : Instr} {len pc pc2 : Nat} {lv lv2 st st2 : List Value} {h h2 : aH} (hs : ka_s3 d y i len pc lv st h = some (pc2, lv2, st2, h2)) : ka_le h h2 := by
  unfold ka_s3 at hs
  split at hs
  all_goals (try unfold ka_cp at hs)
  all_goals (repeat' split at hs)
  all_goals first | (cases hs; exact ka_le.rf _) | (cases hs; refine ka_le_set (by assumption) ?_; simp [ka_z]; done) | (cases hs; done)
