/-! THE SMALL MACHINE IS SOUND: what it comes to, the real one comes to -/
def ka_FX (p : Program) (s : State) (m : MethodId) (args : Array Value) (meth : Method) (c : Code) (y : Nat) : Prop := p.tables.exec = Jvm.exec ∧ c.code = ka_by y ∧ c.maxLocals = ka_ml y ∧ s.vm.findClass (ka_cn y) = some m.cls ∧ (∀ w ∈ ka_T, w.before args s = true) ∧ ((ka_nm y).name = "<init>" → meth.name = "<init>")
/-- the frame's end, asked of the caller -/
def ka_end (B : Nat) (ro : Nat → Nat) (cI : ClassId) (cE : Nat → ClassId) (D : va_G) (p : Program) (l : Launch) (e : Env) (R : Room) (s : State) (m : MethodId) (args : Array Value) (below : List Frame) (meth : Method) (c : Code) (Q : State → Prop) (y h0 z0 : Nat) (v : Option Value) (h2 : aH) : Prop :=
  ∀ (pc : Nat) (i : Instr) (len : Nat) (st : List Value) (H : Heap) (locs : List Loc) (cells slots : Nat) (ls : Array Slot), decode (ka_by y) pc = .ok (i, len) → ka_ret y i len st = some v → va_P D vwCl (ka_w B ro cI cE h2) H → va_S (fun q => B ≤ q) s.heap H locs → cells + h0 = h2.length → slots + z0 = ka_zs h2 → W p l e R s m args below meth c H locs cells slots Q (F0 m pc ls (st.map (ka_v B ro)))
def ka_IH (B : Nat) (ro : Nat → Nat) (sc : aS) (cI : ClassId) (cE : Nat → ClassId) (D : va_G) (l : Launch) (n : Nat) : Prop :=
  ∀ (d y pc : Nat) (lv st : List Value) (h : aH) (v : Option Value) (h2 : aH), ka_run sc n d y pc lv st h = some (v, h2) → ∀ (p : Program) (e : Env) (R : Room) (s : State) (m : MethodId) (args : Array Value) (below : List Frame) (meth : Method) (c : Code) (H : Heap) (locs : List Loc) (cells slots : Nat) (Q : State → Prop) (ls : Array Slot) (h0 z0 : Nat), ka_FX p s m args meth c y → va_K D vwCl (ka_tys cI cE) s → ka_RO B ro sc s s.heap → s.heap.size = B + h0 → va_S (fun q => B ≤ q) s.heap H locs → va_P D vwCl (ka_w B ro cI cE h) H → cells + h0 = h.length → slots + z0 = ka_zs h → h2.length ≤ R.cells + h0 → ka_zs h2 ≤ R.slots + z0 → d ≤ R.frames → 128 * d ≤ R.locals → ka_lr B ro lv ls (ka_ml y) → ka_end B ro cI cE D p l e R s m args below meth c Q y h0 z0 v h2 → W p l e R s m args below meth c H locs cells slots Q (F0 m pc ls (st.map (ka_v B ro)))
section
variable {B : Nat} {ro : Nat → Nat} {sc : aS} {cI : ClassId} {cE : Nat → ClassId} {D : va_G} {l : Launch}
set_option maxHeartbeats 4000000 in
theorem ka_met {n d z : Nat} {vs : List Value} {h h1 : aH} {w : Option Value} (ih : ka_IH B ro sc cI cE D l n) (hz : ka_run sc n d z 0 (ka_ent z vs) [] h = some (w, h1)) (hy : z < 211) (hent : (ka_sl vs).length ≤ ka_ml z) : Met l (ka_nm z) (ka_ws z) (ka_rm d (h1.length - h.length) (ka_zs h1 - ka_zs h)) (ka_Pc B ro sc cI cE D vs h) (ka_Qc B ro cI cE D w h1) (h1.length - h.length) (ka_zs h1 - ka_zs h) (fun q => B ≤ q) := by
  obtain ⟨hcode, hcls, hml20, hplain, hmh, hpar⟩ := ka_M_word hy
  have hg := ka_run_grow sc _ _ _ _ _ _ _ _ hz
  refine Met.ofW (cc := ka_by z) (maxL := ka_ml z) (ret := ka_rt z) hplain rfl ?_
  intro p e s m args below meth c s₁ Bd hml hv
  obtain ⟨rfl, hsz, hP, hK, hRO⟩ := hv
  have hts := atoms_spec (ws := ka_ws z) Bd.pre
  have hown : s.vm.findClass (ka_cn z) = some m.cls := by rw [← hcls]; exact findClass_of_methodNamed Bd.named
  have hname : meth.name = (ka_nm z).name := (name_of_methodNamed Bd.named Bd.method).1
  rw [lg_entry_eq]
  have e0 := ih d z 0 (ka_ent z vs) [] h w h1 hz p e (headSpec (ka_ws z) (ka_rm d (h1.length - h.length) (ka_zs h1 - ka_zs h))).room s m ((vs.map (ka_v B ro)).toArray) below meth c s.heap [] 0 0 (MQ below (ka_Qc B ro cI cE D w h1) ((vs.map (ka_v B ro)).toArray) s (h1.length - h.length) (ka_zs h1 - ka_zs h) (fun q => B ≤ q)) _ h.length (ka_zs h) ⟨Bd.exec, Bd.bytes, hml, hown, fun x hx => hts x (List.mem_cons_of_mem _ hx), fun q => hname.trans q⟩ hK hRO hsz va_S.rf hP (Nat.zero_add _) (Nat.zero_add _) (by have := hg.1; show _ ≤ (h1.length - h.length) + _; omega) (by have := hg.2; show _ ≤ (ka_zs h1 - ka_zs h) + _; omega) (Nat.le_refl _) (Nat.le_refl _) (ka_lr_entry hent) ?_
  · exact e0
  · intro pc i len st H locs cells slots ls hd hret hP2 hS2 hc hzz
    have hc2 : cells = h1.length - h.length := by omega
    have hz2 : slots = ka_zs h1 - ka_zs h := by omega
    subst hc2
    subst hz2
    unfold ka_ret at hret
    split at hret
    · split at hret
      · rename_i q
        subst q
        split at hret
        · rename_i ty hty
          split at hret
          · rename_i hn
            cases hret
            exact W.zret Bd.exec Bd.bytes (Bd.returns.trans hty) hn (fun t ht _ => ⟨rfl, by rw [ht]; exact hP2, hS2.F ht⟩) hS2.2.2 hd (hlocks := Bd.notSynchronized)
          · cases hret
        · cases hret
      · cases hret
    · split at hret
      · rename_i q
        obtain ⟨q, hrt⟩ := q
        subst q
        cases hret
        exact W.vret Bd.exec Bd.bytes (Bd.returns.trans hrt) (fun t ht _ => ⟨rfl, by rw [ht]; exact hP2, hS2.F ht⟩) hS2.2.2 hd (hlocks := Bd.notSynchronized)
      · cases hret
    · split at hret
      · rename_i q
        subst q
        split at hret
        · rename_i hty
          cases hret
          exact W.aret Bd.exec Bd.bytes (Bd.returns.trans hty) (Or.inl ⟨_, rfl⟩) (Or.inr ⟨_, rfl⟩) (fun t ht _ => ⟨rfl, by rw [ht]; exact hP2, hS2.F ht⟩) hS2.2.2 hd (hlocks := Bd.notSynchronized)
        · cases hret
      · cases hret
    · cases hret
theorem ka_split {st : List Value} {na : Nat} (f : Value → Value) : st.map f = (((st.take na).reverse).map f).reverse ++ (st.drop na).map f := by
  rw [← List.map_reverse, List.reverse_reverse, ← List.map_append, List.take_append_drop]
theorem ka_back (v : Option Value) (rest : List Value) : (v.map (ka_v B ro)).toList ++ rest.map (ka_v B ro) = (v.toList ++ rest).map (ka_v B ro) := by cases v <;> rfl
theorem ka_C_kind {kk : Nat} {q : Nat × Nat × Nat × Nat × Nat × Nat} (h : ka_Cok (kk, q) = true) (h3 : ¬ q.1 = 3) (h4 : ¬ q.1 = 4) (h5 : ¬ q.1 = 5) (h6 : ¬ q.1 = 6) : q.2.1 < 211 ∧ lw_tbl[q.2.2.1]? = some (ka_Cl (kk, q)) ∧ lw_tbl[q.2.2.2.2.2]? = some (.initialized (ka_nm q.2.1).cls) ∧ (q.1 = 0 ∨ q.1 = 10 → lw_tbl[q.2.2.2.1]? = some (.static (ka_nm q.2.1))) ∧ (q.1 = 1 → lw_tbl[q.2.2.2.1]? = some (.instanceMethod (ka_nm q.2.1)) ∧ lw_tbl[q.2.2.2.2.1]? = some (.selects (ka_nm q.2.1).cls (ka_nm q.2.1) (ka_nm q.2.1))) ∧ (q.1 = 2 ∨ q.1 = 12 → lw_tbl[q.2.2.2.1]? = some (.instanceMethod (ka_nm q.2.1)) ∧ (ka_nm q.2.1).name = "<init>" ∧ ka_rt q.2.1 = none) := by
  unfold ka_Cok at h
  rw [if_neg h3, if_neg h4, if_neg h5, if_neg h6] at h
  simp only [Bool.and_eq_true, decide_eq_true_eq] at h
  obtain ⟨⟨⟨h1, h2⟩, h7⟩, h8⟩ := h
  refine ⟨h1, h2, h7, fun z => ?_, fun z => ?_, fun z => ?_⟩
  · rw [if_pos z] at h8
    exact of_decide_eq_true h8
  · rw [if_neg (by omega), if_pos z] at h8
    simp only [Bool.and_eq_true, decide_eq_true_eq] at h8
    exact h8
  · have z0 : ¬ (q.1 = 0 ∨ q.1 = 10) := by omega
    have z1 : ¬ q.1 = 1 := by omega
    rw [if_neg z0, if_neg z1] at h8
    simp only [Bool.and_eq_true, decide_eq_true_eq] at h8
    exact ⟨h8.1.1.2, h8.1.2, h8.2⟩
end
