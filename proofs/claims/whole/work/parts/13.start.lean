-- ===== end of PART A; then your names; then what follows =====
/-! THE CLAIM OUT OF ONE WALK OF THE LAW'S BODY. Your part is whole_start (and what it stands on); all else here is the same for every law, but numbers. -/
def R_law : String := "KnifeDoorsLaw"
def lw_P (b : Addr) (xs : List Int32) (args : Array Value) (s : State) : Prop := args = #[.ref b] ∧ s.IntsAt b xs ∧ xs.length ≤ 3072 ∧ (Jvm.Cond.and given_1 narrow_1).before args s = true
def lw_Q (_ : Array Value) (s : State) (o : Outcome) (t : State) : Prop := o = .returned (some (.int 1)) ∧ Framed s o t [] 600000 7302249
def lw_Z (below : List Frame) (a : Array Value) (s : State) : State → Prop := fun t => ∃ o, t.status = .running ∧ Ended t below o ∧ lw_Q a s o t
/-- the law's own end, with 1 on the stack, nothing written that was there before, its room as the claim has it -/
theorem lw_ret {p : Program} {l : Launch} {e : Env} {s : State} {m : MethodId} {below : List Frame} {meth : Method} {c : Code} {b : Nat} (hx : p.tables.exec = Jvm.exec) (hb : c.code = code) (hr : meth.sig.returnType = ret) (hlocks : meth.locks = false) {pc : Nat} {H : Heap} {ls : Array Slot} (hdg : decode code pc = .ok (.ireturn, 1)) : W p l e room_1 s m #[Value.ref b] below meth c H [] 600000 7302249 (lw_Z below #[Value.ref b] s) (F0 m pc ls [.int 1]) := by
  intro T hT X
  obtain ⟨fs, hret, hrun, hended, hW, hframe⟩ := X.leave (v := some (.int 1)) (hlocks := hlocks) (fun h => by rw [hr] at h; cases h)
  have hmeth' : T.vm.method? m = some meth := X.method'
  refine ⟨T.setFrames fs, ?_, .returned (some (.int 1)), hrun, hended, rfl, ⟨_, rfl⟩, hW, hframe⟩
  jvm_step X.here [X.here.top, hx, hb, hdg, hmeth', hr, ret, narrow_b1]
  (try refine ⟨rfl, ?_⟩); (try refine ⟨rfl, ?_⟩)
  first | (intro acts; rw [hret _ acts rfl rfl rfl]) | rw [hret _ _ rfl rfl rfl]
  exact Steps.refl _
/-- what holds at the law's entry: the machine, the code, the tables' words (any of lw_tbl by 'hts w (by decide +kernel)'), the script of L ints xs at the cell b, what the Statement gives of the start (any of its parts by flat_of_before) -/
def lw_At (p : Program) (s : State) (m : MethodId) (meth : Method) (c : Code) (b L : Nat) (xs : Nat → Int32) : Prop :=
  p.tables.exec = Jvm.exec ∧ c.code = code ∧ meth.sig.returnType = ret ∧ c.maxLocals = 4 ∧ s.vm.findClass R_law = some m.cls ∧ (∀ w ∈ lw_tbl, w.before #[Value.ref b] s = true) ∧ va_X b L xs s s.heap ∧ b < s.heap.size ∧ meth.locks = false ∧ (Jvm.Cond.and given_1 narrow_1).before #[Value.ref b] s = true
/-! the start: what was there before -/
theorem ka_flat {args : Array Value} {s : State} {w : Jvm.Cond} (hgv : (Jvm.Cond.and given_1 narrow_1).before args s = true) (hw : decide (w ∈ flatC (Jvm.Cond.and given_1 narrow_1)) = true) : w.before args s = true := flat_of_before _ hgv _ (of_decide_eq_true hw)
def ka_stt (n C f : String) (N : Nat) (g : Nat → Int32) : Bool := decide (n = n) && decide ((Jvm.Cond.arrayOf (.static C f "[I") .int) ∈ flatC (Jvm.Cond.and given_1 narrow_1)) && decide ((Jvm.Cond.eq (.length (.static C f "[I")) (.int (Int32.ofNat N))) ∈ flatC (Jvm.Cond.and given_1 narrow_1)) && (List.range N).all (fun j => decide ((Jvm.Cond.eq (.elem (.static C f "[I") (.int (Int32.ofNat j))) (.int (g j))) ∈ flatC (Jvm.Cond.and given_1 narrow_1)))
theorem ka_stat {args : Array Value} {s : State} {B : Nat} (n C f : String) (N : Nat) (g : Nat → Int32) (hN : N < 2 ^ 31) (hB : s.heap.size = B) (hgv : (Jvm.Cond.and given_1 narrow_1).before args s = true) (h : ka_stt n C f N g = true) : ∃ t : Nat, (Term.static C f "[I").eval args s none [] s = some (.ref t) ∧ va_T .int t N (fun j => .int (g j)) (fun q => B ≤ q) s s.heap := by
  unfold ka_stt at h
  simp only [Bool.and_eq_true, List.all_eq_true, List.mem_range] at h
  obtain ⟨⟨⟨-, h1⟩, h2⟩, h3⟩ := h
  exact va_Tof hN (ka_flat hgv h1) (va_eqt (ka_flat hgv h2)) (fun j hj => va_eqt (ka_flat hgv (h3 j hj))) (fun a ha => by omega)
theorem ka_stt_1 : ka_stt "" "KnifeDoors" "MOST_BY_CHANGE" 8 (fun j => ([-1, -1, 5, 99, 999, 99, 9, 3] : List Int32).getD j 0) = true := by decide +kernel
theorem ka_stt_2 : ka_stt "" "KnifeDoors" "KIND_ABOVE" 7 (fun j => ([-1, 0, 0, 0, 1, 2, 3] : List Int32).getD j 0) = true := by decide +kernel
theorem ka_stt_3 : ka_stt "" "KnifeDoors" "SHARPEST_ON" 4 (fun j => ([40, 60, 80, 99] : List Int32).getD j 0) = true := by decide +kernel
theorem ka_stt_4 : ka_stt "" "KnifeDoors" "MOST_BY_SET" 7 (fun j => ([9, 9, 9, 9, 9, 20, 12] : List Int32).getD j 0) = true := by decide +kernel
theorem ka_stt_5 : ka_stt "" "KnifeDoors" "LEAST_BY_SET" 7 (fun j => ([0, 0, 0, 0, 0, 0, 1] : List Int32).getD j 0) = true := by decide +kernel
theorem ka_stt_6 : ka_stt "" "KnifeDoors$Voice" "BODIES" 28 (fun j => ([10, 11, 12, 13, 10, 20, 12, 13, 30, 11, 12, 13, 10, 11, 40, 13, 10, 50, 12, 13, 30, 11, 12, 60, 10, 11, 70, 71] : List Int32).getD j 0) = true := by decide +kernel
def ka_tm (i : Nat) : Term := if i = 0 then .string "KnifeDoors" 155 else .string "KnifeDoors" 157
def ka_tb (i : Nat) : List Int32 := ([[117, 115, 116, 109], [98, 110, 112, 104]] : List (List Int32)).getD i []
theorem ka_str_ok : ∀ i, i < 2 → decide ((Jvm.Cond.exactly (ka_tm i) "java/lang/String") ∈ flatC (Jvm.Cond.and given_1 narrow_1)) = true ∧ decide ((Jvm.Cond.eq (.field (ka_tm i) "java/lang/String" "coder" "B") (.int 0)) ∈ flatC (Jvm.Cond.and given_1 narrow_1)) = true ∧ decide ((Jvm.Cond.arrayOf (.field (ka_tm i) "java/lang/String" "value" "[B") .byte) ∈ flatC (Jvm.Cond.and given_1 narrow_1)) = true ∧ decide ((Jvm.Cond.eq (.length (.field (ka_tm i) "java/lang/String" "value" "[B")) (.int (Int32.ofNat 4))) ∈ flatC (Jvm.Cond.and given_1 narrow_1)) = true ∧ ∀ j, j < 4 → decide ((Jvm.Cond.eq (.elem (.field (ka_tm i) "java/lang/String" "value" "[B") (.int (Int32.ofNat j))) (.int ((ka_tb i).getD j 0))) ∈ flatC (Jvm.Cond.and given_1 narrow_1)) = true := by decide +kernel
theorem ka_str_ne : decide ((Jvm.Cond.not (Jvm.Cond.eq (ka_tm 0) (ka_tm 1))) ∈ flatC (Jvm.Cond.and given_1 narrow_1)) = true ∨ decide ((Jvm.Cond.not (Jvm.Cond.eq (ka_tm 1) (ka_tm 0))) ∈ flatC (Jvm.Cond.and given_1 narrow_1)) = true := by decide +kernel
theorem ka_str_eq : decide ((Jvm.Cond.eq (.string "KnifeDoors$Reader" 18) (.string "KnifeDoors" 155)) ∈ flatC (Jvm.Cond.and given_1 narrow_1)) = true ∨ decide ((Jvm.Cond.eq (.string "KnifeDoors" 155) (.string "KnifeDoors$Reader" 18)) ∈ flatC (Jvm.Cond.and given_1 narrow_1)) = true := by decide +kernel
theorem ka_cs_ok : decide ((Jvm.Cond.eq (.static "java/lang/String" "COMPACT_STRINGS" "Z") (.int 1)) ∈ flatC (Jvm.Cond.and given_1 narrow_1)) = true := by decide +kernel
theorem ka_lst : (ka_G.all (fun e => decide ((Jvm.Cond.laysStatic e.2.2.2.2.1 e.2.2.2.2.2.1 e.2.2.2.2.2.2) ∈ lw_tbl) && decide ((Jvm.Cond.initialized e.2.2.2.2.1) ∈ lw_tbl))) = true := by decide +kernel
theorem ka_ls_str : (ka_LS.all (fun e => decide ((Jvm.Cond.stringRef (ka_cnk e.1) (e.1 % 65536) e.2.2) ∈ lw_tbl))) = true := by decide +kernel
theorem ka_str3 : decide ((Jvm.Cond.exactly (.string "KnifeDoors$Reader" 18) "java/lang/String") ∈ flatC (Jvm.Cond.and given_1 narrow_1)) = true := by decide +kernel
theorem ka_cnst : (ka_C.all (fun e => decide (10 ≤ e.2.1 → lw_tbl[e.2.2.2.1]? = some (.methodLinkNest (ka_cnk e.1) (e.1 % 65536) (ka_nm e.2.2.1) "KnifeDoors")))) = true := by decide +kernel
theorem ka_gnst : (ka_G.all (fun e => decide (e.2.2.1 = 1 → lw_tbl[e.2.2.2.1]? = some (.fieldLinkNest (ka_cnk e.1) (e.1 % 65536) e.2.2.2.2.1 e.2.2.2.2.2.1 e.2.2.2.2.2.2 "KnifeDoors")))) = true := by decide +kernel
theorem ka_eq_ref {args : Array Value} {s : State} {t u : Term} {a : Nat} (h : (Jvm.Cond.eq t u).before args s = true) (hu : u.eval args s none [] s = some (.ref a)) : t.eval args s none [] s = some (.ref a) := by
  cases hv : t.eval args s none [] s with
  | none => simp [Cond.before, Cond.holds, Cond.value, hv] at h
  | some w =>
    simp only [Cond.before, Cond.holds, Cond.value, hv, hu] at h
    cases w <;> simp_all
theorem ka_ref_eq {args : Array Value} {s : State} {t u : Term} {a : Nat} (h : (Jvm.Cond.eq u t).before args s = true) (hu : u.eval args s none [] s = some (.ref a)) : t.eval args s none [] s = some (.ref a) := by
  cases hv : t.eval args s none [] s with
  | none => simp [Cond.before, Cond.holds, Cond.value, hv, hu] at h
  | some w =>
    simp only [Cond.before, Cond.holds, Cond.value, hv, hu] at h
    cases w <;> simp_all
set_option maxHeartbeats 4000000 in
theorem ka_RO_start {args : Array Value} {s : State} {b L : Nat} {xs : Nat → Int32} (hgv : (Jvm.Cond.and given_1 narrow_1).before args s = true) (hts : ∀ w ∈ lw_tbl, w.before args s = true) (hX : va_X b L xs s s.heap) (hbl : b < s.heap.size) : ∃ ro : Nat → Nat, ro 0 = b ∧ ka_RO s.heap.size ro (L, xs) s s.heap := by
  obtain ⟨t1, v1, T1⟩ := ka_stat (B := s.heap.size) _ _ _ _ _ (by decide) rfl hgv ka_stt_1
  obtain ⟨t2, v2, T2⟩ := ka_stat (B := s.heap.size) _ _ _ _ _ (by decide) rfl hgv ka_stt_2
  obtain ⟨t3, v3, T3⟩ := ka_stat (B := s.heap.size) _ _ _ _ _ (by decide) rfl hgv ka_stt_3
  obtain ⟨t4, v4, T4⟩ := ka_stat (B := s.heap.size) _ _ _ _ _ (by decide) rfl hgv ka_stt_4
  obtain ⟨t5, v5, T5⟩ := ka_stat (B := s.heap.size) _ _ _ _ _ (by decide) rfl hgv ka_stt_5
  obtain ⟨t6, v6, T6⟩ := ka_stat (B := s.heap.size) _ _ _ _ _ (by decide) rfl hgv ka_stt_6
  have hA : ∀ a : Nat, a < s.heap.size → ¬ (fun q => s.heap.size ≤ q) a := fun a ha => by show ¬ s.heap.size ≤ a; omega
  obtain ⟨adK, adV, hE, hev⟩ := vk_Sof (args := args) (s := s) (N := 2) (tm := ka_tm) (len := [4, 4]) (byt := [[117, 115, 116, 109], [98, 110, 112, 104]]) (A := fun q => s.heap.size ≤ q) (fun i hi => by
      rcases (show i = 0 ∨ i = 1 by omega) with rfl | rfl <;> decide) (fun i hi => ka_flat hgv (ka_str_ok i hi).1) (fun i hi => ka_flat hgv (ka_str_ok i hi).2.1) (fun i hi => ka_flat hgv (ka_str_ok i hi).2.2.1) (fun i hi => by
      have h1 := ka_flat hgv (ka_str_ok i hi).2.2.2.1
      rcases (show i = 0 ∨ i = 1 by omega) with rfl | rfl <;> exact h1) (fun i hi j hj => by
      have hj4 : j < 4 := by rcases (show i = 0 ∨ i = 1 by omega) with rfl | rfl <;> exact hj
      exact ka_flat hgv ((ka_str_ok i hi).2.2.2.2 j hj4)) (fun i j hi hj hij => by
      rcases (show i = 0 ∨ i = 1 by omega) with rfl | rfl <;> rcases (show j = 0 ∨ j = 1 by omega) with rfl | rfl
      · exact absurd rfl hij
      · rcases ka_str_ne with q | q
        · exact Or.inl (ka_flat hgv q)
        · exact Or.inr (ka_flat hgv q)
      · rcases ka_str_ne with q | q
        · exact Or.inr (ka_flat hgv q)
        · exact Or.inl (ka_flat hgv q)
      · exact absurd rfl hij) hA
  have hk0 : (Term.string "KnifeDoors" 155).eval args s none [] s = some (.ref (adK 0)) := hev 0 (by decide)
  have hk1 : (Term.string "KnifeDoors" 157).eval args s none [] s = some (.ref (adK 1)) := hev 1 (by decide)
  have hk2 : (Term.string "KnifeDoors$Reader" 18).eval args s none [] s = some (.ref (adK 0)) := by
    rcases ka_str_eq with q | q
    · exact ka_eq_ref (ka_flat hgv q) hk0
    · exact ka_ref_eq (ka_flat hgv q) hk0
  have hst : ∀ e ∈ ka_G, ∀ v, (Term.static e.2.2.2.2.1 e.2.2.2.2.2.1 e.2.2.2.2.2.2).eval args s none [] s = some v → va_Z e.2.2.2.2.1 e.2.2.2.2.2.1 e.2.2.2.2.2.2 v (fun q => s.heap.size ≤ q) s s.heap := by
    intro e he v hv
    have h1 := List.all_eq_true.mp ka_lst e he
    simp only [Bool.and_eq_true, decide_eq_true_eq] at h1
    exact va_Zof (hts _ h1.1) (hts _ h1.2) hv hA
  refine ⟨fun k => if k = 0 then b else if k = 1 then t1 else if k = 2 then t2 else if k = 3 then t3 else if k = 4 then t4 else if k = 5 then t5 else if k = 6 then t6 else if k < 9 then adK (k - 7) else adV (k - 9), rfl, ⟨hX, by show ¬ s.heap.size ≤ b; omega⟩, ?_, ?_, ?_, ?_, ?_, ?_, ?_, ?_⟩
  · intro e he
    unfold ka_RA at he
    simp only [List.mem_cons, List.not_mem_nil, or_false] at he
    rcases he with rfl | rfl | rfl | rfl | rfl | rfl
    · exact T1
    · exact T2
    · exact T3
    · exact T4
    · exact T5
    · exact T6
  · intro e he
    have he' := he
    unfold ka_G at he
    simp only [List.mem_cons, List.not_mem_nil, or_false] at he
    rcases he with rfl | rfl | rfl | rfl | rfl | rfl | rfl
    · exact hst _ he' _ v1
    · exact hst _ he' _ v2
    · exact hst _ he' _ v3
    · exact hst _ he' _ v4
    · exact hst _ he' _ v5
    · exact hst _ he' _ (va_eqt (ka_flat hgv ka_cs_ok))
    · exact hst _ he' _ v6
  · refine ⟨fun i hi => ?_, fun i j hi hj h => ?_⟩
    · rcases (show i = 0 ∨ i = 1 by omega) with rfl | rfl
      · exact hE.1 0 (by decide)
      · exact hE.1 1 (by decide)
    · rcases (show i = 0 ∨ i = 1 by omega) with rfl | rfl <;> rcases (show j = 0 ∨ j = 1 by omega) with rfl | rfl
      · rfl
      · exact hE.2 0 1 (by decide) (by decide) h
      · exact hE.2 1 0 (by decide) (by decide) h
      · rfl
  · intro e he
    have h1 := hts _ (of_decide_eq_true (List.all_eq_true.mp ka_ls_str e he))
    unfold ka_LS at he
    simp only [List.mem_cons, List.not_mem_nil, or_false] at he
    rcases he with rfl | rfl | rfl
    · exact vk_R.of h1 hk2
    · exact vk_R.of h1 hk0
    · exact vk_R.of h1 hk1
  · intro e he h10
    exact va_Nw.of rfl (hts _ (List.mem_of_getElem? (of_decide_eq_true (List.all_eq_true.mp ka_cnst e he) h10)))
  · intro e he h10
    exact va_Nw.of rfl (hts _ (List.mem_of_getElem? (of_decide_eq_true (List.all_eq_true.mp ka_gnst e he) h10)))
  · exact va_AO.of (hts _ (List.mem_of_getElem? ka_W1.2.2.2.2.2.2.2.2.2.2.2.1))
  · exact va_AO.of (hts _ (List.mem_of_getElem? ka_W1.2.2.2.2.2.2.2.2.2.2.2.2))
theorem ka_K_start {args : Array Value} {s : State} (hts : ∀ w ∈ ka_T, w.before args s = true) (hao1 : va_AO "KnifeDoors$Knife" s) (hao2 : va_AO "KnifeDoors$Sheet" s) : ∃ (D : va_G) (cI : ClassId) (cE : Nat → ClassId), va_K D vwCl (ka_tys cI cE) s := by
  have hk : ∀ ci, ∃ q : ClassId × (Nat → Nat), ci < 9 → u_Kn s ((ka_on[ci]?).getD "") (ka_FT ci) (ka_FN ci) q.1 q.2 := by
    intro ci
    by_cases h : ci < 9
    · obtain ⟨c, i, hq⟩ := u_known hts (ka_lay h) (hts _ (ka_inst h).1)
      exact ⟨(c, i), fun _ => hq⟩
    · exact ⟨(0, fun _ => 0), fun z => absurd z h⟩
  obtain ⟨f, hf⟩ := Classical.skolem.mp hk
  obtain ⟨cI, kI, comp, a1, a2, a3⟩ := Cond.arrayClass_spec (hts _ (ka_T_of ka_W1.2.2.2.2.2.2.2.2.2.2.1 rfl))
  obtain ⟨comp1, c1, k1, b1, -, b3, b4, b5⟩ := Cond.arrayOver_spec hao1
  obtain ⟨comp2, c2, k2, d1, -, d3, d4, d5⟩ := Cond.arrayOver_spec hao2
  refine ⟨(fun ci => (f ci).1, fun ci => (f ci).2), cI, fun e => if e = 0 then c1 else c2, ?_, ?_⟩
  · intro ci q hq
    have h9 : ci < 9 := (List.getElem?_eq_some_iff.mp hq).1
    rw [(ka_cls h9).1] at hq
    cases hq
    exact hf ci h9
  · intro k q hq
    match k, hq with
    | 0, hq => cases hq; exact ⟨fun n z => ⟨(fun k h => by cases h), kI, a2, comp, a3⟩, a1⟩
    | 1, hq => cases hq; exact ⟨fun n z => ⟨(fun k h => by cases h), k1, b3, comp1, b4⟩, k1, comp1, b3, b4, b1, b5⟩
    | 2, hq => cases hq; exact ⟨fun n z => ⟨(fun k h => by cases h), k2, d3, comp2, d4⟩, k2, comp2, d3, d4, d1, d5⟩
    | k + 3, hq => simp [ka_tys] at hq
/-- the claim out of the small machine's run of the law -/
theorem ka_start {p : Program} {e : Env} {s : State} {m : MethodId} {below : List Frame} {meth : Method} {c : Code} (l : Launch) {b L : Nat} {xs : Nat → Int32} (C0 : lw_At p s m meth c b L xs) (hgo : ∃ h2, ka_ex (L, xs) 200 211 0 [.ref 1000, ka_nv, ka_nv, ka_nv] [] [] = some (some (.int 1), h2) ∧ h2.length ≤ 600000 ∧ ka_zs h2 ≤ 7302249) : W p l e room_1 s m #[Value.ref b] below meth c s.heap [] 0 0 (lw_Z below #[Value.ref b] s) (entryFrame m ([Value.ref b] : List Value).toArray 4) := by
  obtain ⟨h2, hex, hl1, hl2⟩ := hgo
  obtain ⟨n, hn⟩ := ka_ex_iff.mp hex
  obtain ⟨hx, hb, hr, hml, hown, hts, hX, hbl, hlocks, hgv⟩ := C0
  have htsT : ∀ w ∈ ka_T, w.before #[Value.ref b] s = true := fun w hw => hts w (ka_T_in hw)
  obtain ⟨ro, hro, hRO⟩ := ka_RO_start hgv hts hX hbl
  obtain ⟨D, cI, cE, hK⟩ := ka_K_start htsT hRO.2.2.2.2.2.2.2.1 hRO.2.2.2.2.2.2.2.2
  have hP : va_P D vwCl (ka_w s.heap.size ro cI cE []) s.heap := fun k q h => by simp [ka_w] at h
  have hlr : ka_lr s.heap.size ro (ka_ent 211 [.ref 1000]) ((lg_sl (([.ref 1000] : List Value).map (ka_v s.heap.size ro)) ++ List.replicate (ka_ml 211 - (lg_sl (([.ref 1000] : List Value).map (ka_v s.heap.size ro))).length) Slot.unset).toArray) (ka_ml 211) := ka_lr_entry (by decide +kernel)
  have hv : ka_v s.heap.size ro (.ref 1000) = .ref b := by show Value.ref (ro 0) = _; rw [hro]
  have he : ka_ent 211 [.ref 1000] = [.ref 1000, ka_nv, ka_nv, ka_nv] := by decide +kernel
  rw [he] at hlr
  rw [lg_entry_eq]
  have hlr2 : ka_lr s.heap.size ro [.ref 1000, ka_nv, ka_nv, ka_nv] ((lg_sl ([Value.ref b]) ++ List.replicate (4 - (lg_sl ([Value.ref b])).length) Slot.unset).toArray) (ka_ml 211) := by
    have h1 : (([.ref 1000] : List Value).map (ka_v s.heap.size ro)) = [Value.ref b] := by rw [List.map_cons, hv]; rfl
    rw [h1] at hlr
    exact hlr
  refine ka_sound (sc := (L, xs)) (l := l) n 200 211 0 _ [] [] _ h2 hn p e room_1 s m #[Value.ref b] below meth c s.heap [] 0 0 _ _ 0 0 ⟨hx, hb, hml, hown, htsT, fun q => absurd q (by decide +kernel)⟩ hK hRO rfl va_S.rf hP rfl rfl hl1 hl2 (by decide) (by decide) hlr2 ?_
  intro pc i len st H locs cells slots ls hd hret hP2 hS2 hc hz
  unfold ka_ret at hret
  split at hret
  · split at hret
    · rename_i q
      subst q
      split at hret
      · split at hret
        · cases hret
          refine va_forget hS2.2.2 (W.widen (k := 600000) (n := 7302249) (by omega) (by omega) ?_)
          exact lw_ret hx hb hr hlocks hd
        · cases hret
      · cases hret
    · cases hret
  · split at hret <;> cases hret
  · split at hret
    · split at hret <;> cases hret
    · cases hret
  · cases hret
