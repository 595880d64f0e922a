/-! a run of the small machine is a run of the real one -/
theorem ka_run_grow (sc : aS) : ∀ (n d y pc : Nat) (lv st : List Value) (h : aH) (r : Option Value × aH), ka_run sc n d y pc lv st h = some r → ka_le h r.2 := by
  intro n
  induction n with
  | zero => intro d y pc lv st h r hr; cases hr
  | succ n ih =>
    intro d y pc lv st h r hr
    rw [ka_run] at hr
    split at hr
    · cases hr
    · split at hr
      · cases hr; exact ka_le.rf _
      · split at hr
        · split at hr
          · cases hr
          · split at hr
            · cases hr
            · rename_i hz
              exact (ih _ _ _ _ _ _ _ hz).tr (ih _ _ _ _ _ _ _ hr)
        · split at hr
          · rename_i hs
            refine ka_le.tr ?_ (ih _ _ _ _ _ _ _ hr)
            unfold ka_stp at hs
            split at hs
            · rename_i h1
              cases hs
              rw [ka_s1_le h1]
              exact ka_le.rf _
            · split at hs
              · rename_i h2
                cases hs
                exact ka_s2_le h2
              · exact ka_s3_le hs
          · cases hr
theorem ka_M_word {y : Nat} (hy : y < 211) : Jvm.Cond.code (ka_nm y) (ka_by y) (ka_ml y) (ka_rt y) ∈ ka_T ∧ (ka_nm y).cls = ka_cn y ∧ ka_ml y ≤ 20 ∧ plainName (ka_nm y).cls = true ∧ ((ka_nm y).cls ≠ "java/lang/invoke/MethodHandle" ∧ (ka_nm y).cls ≠ "java/lang/invoke/VarHandle") ∧ (parseMethodDescriptor (ka_nm y).desc).map (fun q => q.parameters.length) = some (ka_na y) := by
  have h := ka_M_all hy
  unfold ka_Mok at h
  simp only [Bool.and_eq_true, decide_eq_true_eq] at h
  obtain ⟨⟨⟨h1, h2⟩, h3⟩, h4⟩ := h
  exact ⟨ka_T_of h1 rfl, h2.1, h2.2.2, h3, ⟨h4.1, h4.2.1⟩, h4.2.2⟩
/-- the words of a method: its code, and all that stays -/
def ka_ws (y : Nat) : List Jvm.Cond := .code (ka_nm y) (ka_by y) (ka_ml y) (ka_rt y) :: ka_T
theorem ka_ws_good {y : Nat} (hy : y < 211) : GoodIn ka_T (ka_ws y) := by
  intro w hw
  rcases List.mem_cons.mp hw with q | q
  · subst q
    exact ka_T_good _ (ka_M_word hy).1
  · exact ka_T_good _ q
def ka_rm (d mc ms : Nat) : Room := { frames := d, cells := mc, slots := ms, locals := 128 * d }
section
variable {B : Nat} {ro : Nat → Nat} {sc : aS} {cI : ClassId} {cE : Nat → ClassId} {D : va_G}
/-- what holds of a state in which the heap is h -/
def ka_At (B : Nat) (ro : Nat → Nat) (sc : aS) (cI : ClassId) (cE : Nat → ClassId) (D : va_G) (h : aH) (U : State) : Prop := U.heap.size = B + h.length ∧ va_P D vwCl (ka_w B ro cI cE h) U.heap ∧ va_K D vwCl (ka_tys cI cE) U ∧ ka_RO B ro sc U U.heap
def ka_Pc (B : Nat) (ro : Nat → Nat) (sc : aS) (cI : ClassId) (cE : Nat → ClassId) (D : va_G) (vs : List Value) (h : aH) : Array Value → State → Prop := fun a U => a = (vs.map (ka_v B ro)).toArray ∧ ka_At B ro sc cI cE D h U
def ka_Qc (B : Nat) (ro : Nat → Nat) (cI : ClassId) (cE : Nat → ClassId) (D : va_G) (v : Option Value) (h : aH) : Array Value → State → Outcome → State → Prop := fun _ st oc t => oc = .returned (v.map (ka_v B ro)) ∧ va_P D vwCl (ka_w B ro cI cE h) t.heap ∧ va_F (fun q => B ≤ q) st t
theorem ka_Pc_blind (vs : List Value) (h : aH) : FrameBlind (ka_Pc B ro sc cI cE D vs h) := by
  intro a U g mk q
  obtain ⟨q1, q2, q3, q4, q5⟩ := q
  exact ⟨q1, q2, q3, va_K.moved (u := U) (U := U.calling g mk a) (Vm.Alike.refl U.vm) q4, ka_RO.of_vm (U := U.calling g mk a) q5 rfl⟩
variable {p : Program} {l : Launch} {e : Env} {R : Room} {s : State} {m : MethodId} {args : Array Value} {below : List Frame} {meth : Method} {c : Code}
/-- behind a call -/
theorem ka_call {H : Heap} {locs : List Loc} {cells slots mc ms pc : Nat} {ls : Array Slot} {st0 rest : List Value} {Q : State → Prop} {v : Option Value} {h2 : aH} {a : Array Value} (hr : va_Run p l e R s m args below meth c H locs cells slots mc ms (F0 m pc ls st0) rest (ka_Qc B ro cI cE D v h2 a) (fun q => B ≤ q)) (hS : va_S (fun q => B ≤ q) s.heap H locs)
    (kk : ∀ (H1 : Heap) (locs1 : List Loc), va_P D vwCl (ka_w B ro cI cE h2) H1 → va_S (fun q => B ≤ q) s.heap H1 locs1 → W p l e R s m args below meth c H1 locs1 (cells + mc) (slots + ms) Q (F0 m (pc + 3) ls ((v.map (ka_v B ro)).toList ++ rest))) : W p l e R s m args below meth c H locs cells slots Q (F0 m pc ls st0) := by
  intro T hT X
  obtain ⟨v', st₀, t, T', L, h0, X', hL, e1, e2, ⟨hv, hp, hz, hk⟩, st⟩ := hr T hT X
  cases hv
  rw [h0] at hz hk
  obtain ⟨t2, a1, b1⟩ := kk T'.heap (locs ++ L) (by rw [e1]; exact hp)
    ⟨Nat.le_trans hS.1 (by rw [e1]; exact hz), fun q h1 h2 => by rw [e1, hk q (Nat.lt_of_lt_of_le h1 hS.1) h2]; exact hS.2.1 q h1 h2, fun q hq => by
      rcases List.mem_append.mp hq with h | h
      · exact hS.2.2 q h
      · exact hL q h⟩ T' rfl X'
  exact ⟨t2, st t2 a1, b1⟩
theorem ka_sl_lg (vs : List Value) : (lg_sl (vs.map (ka_v B ro))).length = (ka_sl vs).length := by
  induction vs with
  | nil => rfl
  | cons v t ih =>
    have h1 : lg_sl ((v :: t).map (ka_v B ro)) = (if (ka_v B ro v).category = 2 then [Slot.val (ka_v B ro v), Slot.second] else [Slot.val (ka_v B ro v)]) ++ lg_sl (t.map (ka_v B ro)) := by simp [lg_sl]
    have h2 : ka_sl (v :: t) = (if v.category = 2 then [v, ka_nv] else [v]) ++ ka_sl t := by simp [ka_sl]
    rw [h1, h2, ka_v_cat, List.length_append, List.length_append, ih]
    split <;> rfl
theorem ka_args_at : ∀ (vs : List Value) (k i : Nat) (v : Value), (ka_sl vs)[i]? = some v → v ≠ ka_nv → (k + i, ka_v B ro v) ∈ lv_args k (vs.map (ka_v B ro)) := by
  intro vs
  induction vs with
  | nil => intro k i v h; simp [ka_sl] at h
  | cons w t ih =>
    intro k i v h hn
    have h2 : ka_sl (w :: t) = (if w.category = 2 then [w, ka_nv] else [w]) ++ ka_sl t := by simp [ka_sl]
    rw [h2] at h
    rw [List.map_cons, lv_args]
    split at h
    · rename_i hc
      match i, h with
      | 0, h => cases h; exact List.mem_cons_self
      | 1, h => cases h; exact absurd rfl hn
      | i + 2, h =>
        have h3 := ih (k + 2) i v (by simpa using h) hn
        rw [show k + (i + 2) = k + 2 + i by omega]
        refine List.mem_cons_of_mem _ ?_
        rw [ka_v_cat, hc]
        exact h3
    · rename_i hc
      have hc1 : w.category = 1 := by cases w <;> first | rfl | exact absurd rfl hc
      match i, h with
      | 0, h => cases h; exact List.mem_cons_self
      | i + 1, h =>
        have h3 := ih (k + 1) i v (by simpa using h) hn
        rw [show k + (i + 1) = k + 1 + i by omega]
        refine List.mem_cons_of_mem _ ?_
        rw [ka_v_cat, hc1]
        exact h3
theorem ka_lr_entry {z : Nat} {vs : List Value} (h : (ka_sl vs).length ≤ ka_ml z) : ka_lr B ro (ka_ent z vs) ((lg_sl (vs.map (ka_v B ro)) ++ List.replicate (ka_ml z - (lg_sl (vs.map (ka_v B ro))).length) Slot.unset).toArray) (ka_ml z) := by
  have hl := lv_entry (vs.map (ka_v B ro)) (n := ka_ml z) (by rw [ka_sl_lg]; exact h)
  refine ⟨by unfold ka_ent; rw [List.length_append, List.length_replicate]; omega, hl.1, hl.2.1, ?_⟩
  intro i v hv hn
  unfold ka_ent at hv
  have hi : i < (ka_sl vs).length := by
    rcases Nat.lt_or_ge i (ka_sl vs).length with q | q
    · exact q
    · rw [List.getElem?_append_right q, List.getElem?_replicate] at hv
      split at hv
      · cases hv; exact absurd rfl hn
      · cases hv
  rw [List.getElem?_append_left hi] at hv
  have h1 := ka_args_at (B := B) (ro := ro) vs 0 i v hv hn
  rw [Nat.zero_add] at h1
  exact hl.2.2 _ h1
end
