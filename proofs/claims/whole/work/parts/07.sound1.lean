/-! words by number -/
section
variable {s : State} {args : Array Value} {y k : Nat} {B : Nat} {ro : Nat → Nat} {sc : aS}
theorem ka_lq_mem {α : Type} {l : List (Nat × α)} {v : α} (h : ka_lq l y k = some v) : ∃ kk, (kk, v) ∈ l ∧ ka_cnk kk = ka_cn y ∧ kk % 65536 = k ∧ kk / 65536 = ka_ow y := by
  unfold ka_lq at h
  split at h
  · rename_i hk
    refine ⟨_, ka_lk_mem h, ?_, by omega, by omega⟩
    unfold ka_cnk ka_cn
    rw [show (ka_ow y * 65536 + k) / 65536 = ka_ow y by omega]
  · cases h
theorem ka_L_word {q : Int32 × Nat} (hts : ∀ w ∈ ka_T, w.before args s = true) (h : ka_lq ka_L y k = some q) : (Jvm.Cond.constant (ka_cn y) k q.1).before args s = true := by
  obtain ⟨kk, hm, e1, e2, -⟩ := ka_lq_mem h
  have h1 := List.all_eq_true.mp ka_L_all _ hm
  have h2 := of_decide_eq_true h1
  rw [ka_Lw, e1, e2] at h2
  exact hts _ (ka_T_of h2 rfl)
theorem ka_L2_word {q : Int64 × Nat} (hts : ∀ w ∈ ka_T, w.before args s = true) (h : ka_lq ka_L2 y k = some q) : (Jvm.Cond.constantLong (ka_cn y) k q.1).before args s = true := by
  obtain ⟨kk, hm, e1, e2, -⟩ := ka_lq_mem h
  have h1 := List.all_eq_true.mp ka_L2_all _ hm
  have h2 := of_decide_eq_true h1
  rw [ka_L2w, e1, e2] at h2
  exact hts _ (ka_T_of h2 rfl)
theorem ka_LS_word {q : Nat × String} (hRO : ka_RO B ro sc s s.heap) (h : ka_lq ka_LS y k = some q) : vk_R (ka_cn y) k q.2 (ro (q.1 - 1000)) s := by
  obtain ⟨kk, hm, e1, e2, -⟩ := ka_lq_mem h
  have h1 := hRO.2.2.2.2.1 _ hm
  rw [e1, e2] at h1
  exact h1
theorem ka_LS_ref {q : Nat × String} (h : ka_lq ka_LS y k = some q) : ka_ad B ro q.1 = ro (q.1 - 1000) := by
  obtain ⟨kk, hm, -⟩ := ka_lq_mem h
  have h1 : ∀ e ∈ ka_LS, ¬ e.2.1 < 1000 := by decide
  exact if_neg (h1 _ hm)
theorem ka_G_word {q : Value × Nat × Nat × String × String × String} (hts : ∀ w ∈ ka_T, w.before args s = true) (h : ka_lq ka_G y k = some q) (hn : ¬ q.2.1 = 1) : (Jvm.Cond.fieldLink (ka_cn y) k q.2.2.2.1 q.2.2.2.2.1 q.2.2.2.2.2).before args s = true := by
  obtain ⟨kk, hm, e1, e2, -⟩ := ka_lq_mem h
  have h1 := List.all_eq_true.mp ka_G_all _ hm
  have h2 := of_decide_eq_true h1
  rw [ka_Gw, if_neg hn, e1, e2] at h2
  exact hts _ (ka_T_of h2 rfl)
theorem ka_G_word1 {q : Value × Nat × Nat × String × String × String} (hRO : ka_RO B ro sc s s.heap) (h : ka_lq ka_G y k = some q) (hn : q.2.1 = 1) : (Jvm.Cond.fieldLinkNest (ka_cn y) k q.2.2.2.1 q.2.2.2.2.1 q.2.2.2.2.2 "KnifeDoors").before args s = true := by
  obtain ⟨kk, hm, e1, e2, -⟩ := ka_lq_mem h
  have h1 := hRO.2.2.2.2.2.2.1 _ hm hn
  rw [e1, e2] at h1
  exact h1.use rfl
theorem ka_G_z {q : Value × Nat × Nat × String × String × String} (hRO : ka_RO B ro sc s s.heap) (h : ka_lq ka_G y k = some q) : va_Z q.2.2.2.1 q.2.2.2.2.1 q.2.2.2.2.2 (ka_v B ro q.1) (fun q => B ≤ q) s s.heap := by
  obtain ⟨kk, hm, -⟩ := ka_lq_mem h
  exact hRO.2.2.1 _ hm
theorem ka_F_word {q : Nat × Nat × Nat} (hts : ∀ w ∈ ka_T, w.before args s = true) (h : ka_lq ka_F y k = some q) : (Jvm.Cond.fieldLink (ka_cn y) k (ka_fd q.1 q.2.1).1 (ka_fd q.1 q.2.1).2.1 (ka_fd q.1 q.2.1).2.2).before args s = true ∧ (q.1 = 100 ∧ q.2.1 < 2 ∨ q.1 < 9 ∧ q.2.1 < ka_FN q.1 ∧ (ka_FT q.1 q.2.1).1 = (ka_on[q.1]?).getD "") := by
  obtain ⟨kk, hm, e1, e2, -⟩ := ka_lq_mem h
  have h1 := List.all_eq_true.mp ka_F_all _ hm
  simp only [Bool.and_eq_true, decide_eq_true_eq] at h1
  obtain ⟨h2, h3⟩ := h1
  rw [ka_Fw, e1, e2] at h2
  exact ⟨hts _ (ka_T_of h2 rfl), h3⟩
theorem ka_N_word {q : Nat × Nat} (hts : ∀ w ∈ ka_T, w.before args s = true) (h : ka_lq ka_N y k = some q) : (Jvm.Cond.classLink (ka_cn y) k ((ka_on[q.1]?).getD "")).before args s = true := by
  obtain ⟨kk, hm, e1, e2, -⟩ := ka_lq_mem h
  have h1 := List.all_eq_true.mp ka_N_all _ hm
  simp only [Bool.and_eq_true, decide_eq_true_eq] at h1
  obtain ⟨h2, h3⟩ := h1
  rw [ka_Nw, e1, e2] at h2
  exact hts _ (ka_T_of h2 rfl)
end
/-! one step of the small machine is one step of the real one: locals and stack -/
section
variable {p : Program} {l : Launch} {e : Env} {R : Room} {s : State} {m : MethodId} {args : Array Value} {below : List Frame} {meth : Method} {c : Code} {H : Heap} {locs : List Loc} {cells slots : Nat} {Q : State → Prop}
variable {B : Nat} {ro : Nat → Nat} {sc : aS} {y : Nat}
theorem ka_tg_of {pc : Nat} {off : Int} {t : Nat} (h : ka_tg pc off = some t) : (pc : Int) + off = (t : Int) := by
  unfold ka_tg at h
  split at h
  · cases h
    omega
  · cases h
theorem ka_if_sound {x z : Int32} {cd : Jvm.ClassFile.Cond} {pc pc2 : Nat} {off : Int} {lv lv2 st st2 : List Value} {h h2 : aH} {ls : Array Slot} (hx : p.tables.exec = Jvm.exec) (hb : c.code = ka_by y) (hd : decode (ka_by y) pc = .ok (.if_icmp cd off, 3)) (hs : ka_if (ka_cc cd x z) pc off lv st h = some (pc2, lv2, st2, h2))
    (k : h2 = h → lv2 = lv → st2 = st → W p l e R s m args below meth c H locs cells slots Q (F0 m pc2 ls (st.map (ka_v B ro)))) : W p l e R s m args below meth c H locs cells slots Q (F0 m pc ls (.int z :: .int x :: st.map (ka_v B ro))) := by
  unfold ka_if at hs
  split at hs
  · cases hs
  · rename_i t ht
    cases hs
    have ht' := ka_tg_of ht
    cases cd
    · exact lv_icmp_eq hx hb hd ht' (fun q => by simpa [ka_cc, q] using k rfl rfl rfl) (fun q => by simpa [ka_cc, q] using k rfl rfl rfl)
    · exact lv_icmp_ne hx hb hd ht' (fun q => by simpa [ka_cc, q] using k rfl rfl rfl) (fun q => by simpa [ka_cc, q] using k rfl rfl rfl)
    · exact lv_icmp_lt hx hb hd ht' (fun q => by simpa [ka_cc, q] using k rfl rfl rfl) (fun q => by simpa [ka_cc, q] using k rfl rfl rfl)
    · exact lv_icmp_ge hx hb hd ht' (fun q => by simpa [ka_cc, q] using k rfl rfl rfl) (fun q => by simpa [ka_cc, q] using k rfl rfl rfl)
    · exact lv_icmp_gt hx hb hd ht' (fun q => by simpa [ka_cc, q] using k rfl rfl rfl) (fun q => by simpa [ka_cc, q] using k rfl rfl rfl)
    · exact lv_icmp_le hx hb hd ht' (fun q => by simpa [ka_cc, q] using k rfl rfl rfl) (fun q => by simpa [ka_cc, q] using k rfl rfl rfl)
theorem ka_if0_sound {x : Int32} {cd : Jvm.ClassFile.Cond} {pc pc2 : Nat} {off : Int} {lv lv2 st st2 : List Value} {h h2 : aH} {ls : Array Slot} (hx : p.tables.exec = Jvm.exec) (hb : c.code = ka_by y) (hd : decode (ka_by y) pc = .ok (.ifCond cd off, 3)) (hs : ka_if (ka_cc cd x 0) pc off lv st h = some (pc2, lv2, st2, h2))
    (k : h2 = h → lv2 = lv → st2 = st → W p l e R s m args below meth c H locs cells slots Q (F0 m pc2 ls (st.map (ka_v B ro)))) : W p l e R s m args below meth c H locs cells slots Q (F0 m pc ls (.int x :: st.map (ka_v B ro))) := by
  unfold ka_if at hs
  split at hs
  · cases hs
  · rename_i t ht
    cases hs
    have ht' := ka_tg_of ht
    cases cd
    · exact lv_if_eq hx hb hd ht' (fun q => by simpa [ka_cc, q] using k rfl rfl rfl) (fun q => by simpa [ka_cc, q] using k rfl rfl rfl)
    · exact lv_if_ne hx hb hd ht' (fun q => by simpa [ka_cc, q] using k rfl rfl rfl) (fun q => by simpa [ka_cc, q] using k rfl rfl rfl)
    · exact lv_if_lt hx hb hd ht' (fun q => by simpa [ka_cc, q] using k rfl rfl rfl) (fun q => by simpa [ka_cc, q] using k rfl rfl rfl)
    · exact lv_if_ge hx hb hd ht' (fun q => by simpa [ka_cc, q] using k rfl rfl rfl) (fun q => by simpa [ka_cc, q] using k rfl rfl rfl)
    · exact lv_if_gt hx hb hd ht' (fun q => by simpa [ka_cc, q] using k rfl rfl rfl) (fun q => by simpa [ka_cc, q] using k rfl rfl rfl)
    · exact lv_if_le hx hb hd ht' (fun q => by simpa [ka_cc, q] using k rfl rfl rfl) (fun q => by simpa [ka_cc, q] using k rfl rfl rfl)
set_option maxHeartbeats 8000000 in
theorem ka_s1_sound {i : Instr} {len pc pc2 : Nat} {lv lv2 st st2 : List Value} {h h2 : aH} {ls : Array Slot} (hs : ka_s1 y i len pc lv st h = some (pc2, lv2, st2, h2)) (hd : decode (ka_by y) pc = .ok (i, len)) (hx : p.tables.exec = Jvm.exec) (hb : c.code = ka_by y) (hown : s.vm.findClass (ka_cn y) = some m.cls) (hts : ∀ w ∈ ka_T, w.before args s = true) (hRO : ka_RO B ro sc s s.heap) (hS : va_S (fun q => B ≤ q) s.heap H locs) (hl : ka_lr B ro lv ls (ka_ml y))
    (k : h2 = h → ∀ ls2 : Array Slot, ka_lr B ro lv2 ls2 (ka_ml y) → W p l e R s m args below meth c H locs cells slots Q (F0 m pc2 ls2 (st2.map (ka_v B ro)))) : W p l e R s m args below meth c H locs cells slots Q (F0 m pc ls (st.map (ka_v B ro))) := by
  unfold ka_s1 at hs
  split at hs
  · split at hs
    · rename_i q
      cases hs
      subst q
      exact lv_iconst hx hb hd rfl (k rfl _ hl)
    · cases hs
  · split at hs
    · rename_i q
      cases hs
      subst q
      exact lv_bipush hx hb hd rfl (k rfl _ hl)
    · cases hs
  · split at hs
    · rename_i q
      cases hs
      subst q
      exact lv_sipush hx hb hd rfl (k rfl _ hl)
    · cases hs
  · split at hs
    · rename_i q
      cases hs
      subst q
      exact lv_lconst hx hb hd rfl (k rfl _ hl)
    · cases hs
  · split at hs
    · rename_i q
      split at hs
      · rename_i hv
        cases hs
        subst q
        exact lv_iload_n hx hb hd rfl (ka_lr_at hl hv (by simp)) (k rfl _ hl)
      · cases hs
    · cases hs
  · split at hs
    · rename_i q
      split at hs
      · rename_i hv
        cases hs
        subst q
        exact lv_iload hx hb hd (ka_lr_at hl hv (by simp)) (k rfl _ hl)
      · cases hs
    · cases hs
  · split at hs
    · rename_i q
      split at hs
      · rename_i hv
        cases hs
        subst q
        exact lv_lload_n hx hb hd rfl (ka_lr_at hl hv (by simp)) (k rfl _ hl)
      · cases hs
    · cases hs
  · split at hs
    · rename_i q
      split at hs
      · rename_i hv
        cases hs
        subst q
        exact lv_lload hx hb hd (ka_lr_at hl hv (by simp)) (k rfl _ hl)
      · cases hs
    · cases hs
  · split at hs
    · rename_i q
      split at hs
      · rename_i hv
        cases hs
        subst q
        exact lv_aload_n hx hb hd rfl (ka_lr_at hl hv (by simp)) (k rfl _ hl)
      · cases hs
    · cases hs
  · split at hs
    · rename_i q
      split at hs
      · rename_i hv
        cases hs
        subst q
        exact lv_aload hx hb hd (ka_lr_at hl hv (by simp)) (k rfl _ hl)
      · cases hs
    · cases hs
  · split at hs
    · rename_i q
      subst q
      unfold ka_store at hs
      split at hs
      · rename_i hi
        cases hs
        exact lv_istore_n hx hb hd rfl (ka_lr_has hl) (hl.1 ▸ hi) rfl (fun ls2 h2 => k rfl ls2 (ka_lr_store hl hi h2))
      · cases hs
    · cases hs
  · split at hs
    · rename_i q
      subst q
      unfold ka_store at hs
      split at hs
      · rename_i hi
        cases hs
        exact lv_istore hx hb hd (ka_lr_has hl) (hl.1 ▸ hi) rfl (fun ls2 h2 => k rfl ls2 (ka_lr_store hl hi h2))
      · cases hs
    · cases hs
  · split at hs
    · rename_i q
      subst q
      unfold ka_store at hs
      split at hs
      · rename_i hi
        cases hs
        exact lv_astore_n hx hb hd rfl (ka_lr_has hl) (hl.1 ▸ hi) rfl (fun ls2 h2 => k rfl ls2 (ka_lr_store (x := .ref _) hl hi h2))
      · cases hs
    · cases hs
  · split at hs
    · rename_i q
      subst q
      unfold ka_store at hs
      split at hs
      · rename_i hi
        cases hs
        exact lv_astore hx hb hd (ka_lr_has hl) (hl.1 ▸ hi) rfl (fun ls2 h2 => k rfl ls2 (ka_lr_store (x := .ref _) hl hi h2))
      · cases hs
    · cases hs
  · split at hs
    · rename_i q
      subst q
      split at hs
      · rename_i hv
        unfold ka_store at hs
        split at hs
        · rename_i hi
          cases hs
          obtain ⟨j, hj⟩ := List.mem_iff_getElem?.mp (ka_as_in (B := B) (ro := ro) hv (fun z => Value.noConfusion z))
          exact lv_iinc hx hb hd (ka_lr_has hl) hj rfl (hl.1 ▸ hi) rfl (fun ls2 h2 => k rfl ls2 (ka_lr_store hl hi h2))
        · cases hs
      · cases hs
    · cases hs
  · split at hs
    · rename_i q
      cases hs
      subst q
      exact lv_iadd hx hb hd (k rfl _ hl)
    · cases hs
  · split at hs
    · rename_i q
      cases hs
      subst q
      exact lv_isub hx hb hd (k rfl _ hl)
    · cases hs
  · split at hs
    · rename_i q
      cases hs
      subst q
      exact lv_imul hx hb hd (k rfl _ hl)
    · cases hs
  · split at hs
    · rename_i q
      cases hs
      obtain ⟨q1, q2⟩ := q
      subst q1
      exact lv_idiv hx hb hd q2 (k rfl _ hl)
    · cases hs
  · split at hs
    · rename_i q
      cases hs
      obtain ⟨q1, q2⟩ := q
      subst q1
      exact lv_irem hx hb hd q2 (k rfl _ hl)
    · cases hs
  · split at hs
    · rename_i q
      cases hs
      subst q
      exact lv_ineg hx hb hd (k rfl _ hl)
    · cases hs
  · split at hs
    · rename_i q
      cases hs
      subst q
      exact lv_iand hx hb hd (k rfl _ hl)
    · cases hs
  · split at hs
    · rename_i q
      cases hs
      subst q
      exact lv_ixor hx hb hd (k rfl _ hl)
    · cases hs
  · split at hs
    · rename_i q
      cases hs
      subst q
      exact lv_ishl hx hb hd (k rfl _ hl)
    · cases hs
  · split at hs
    · rename_i q
      cases hs
      subst q
      exact lv_ishr hx hb hd (k rfl _ hl)
    · cases hs
  · split at hs
    · rename_i q
      cases hs
      subst q
      exact lv_iushr hx hb hd rfl (k rfl _ hl)
    · cases hs
  · split at hs
    · rename_i q
      cases hs
      subst q
      exact lv_land hx hb hd (k rfl _ hl)
    · cases hs
  · split at hs
    · rename_i q
      cases hs
      subst q
      exact lv_lor hx hb hd (k rfl _ hl)
    · cases hs
  · split at hs
    · rename_i q
      cases hs
      subst q
      exact lv_lshl hx hb hd rfl (k rfl _ hl)
    · cases hs
  · split at hs
    · rename_i q
      cases hs
      subst q
      exact lv_lshr hx hb hd rfl (k rfl _ hl)
    · cases hs
  · split at hs
    · rename_i q
      cases hs
      subst q
      exact lv_lushr hx hb hd rfl (k rfl _ hl)
    · cases hs
  · split at hs
    · rename_i q
      cases hs
      subst q
      exact W.lcmp hx hb hd (k rfl _ hl)
    · cases hs
  · split at hs
    · rename_i q
      cases hs
      subst q
      exact lv_i2l hx hb hd rfl (k rfl _ hl)
    · cases hs
  · split at hs
    · rename_i q
      cases hs
      subst q
      exact lv_l2i hx hb hd rfl (k rfl _ hl)
    · cases hs
  · split at hs
    · rename_i q
      cases hs
      subst q
      exact lv_i2b hx hb hd rfl (k rfl _ hl)
    · cases hs
  · split at hs
    · rename_i q
      cases hs
      subst q
      exact lv_i2s hx hb hd rfl (k rfl _ hl)
    · cases hs
  · split at hs
    · rename_i q
      cases hs
      subst q
      exact lv_i2c hx hb hd rfl (k rfl _ hl)
    · cases hs
  · split at hs
    · rename_i q
      cases hs
      subst q
      exact lv_dup hx hb hd rfl (k rfl _ hl)
    · cases hs
  · split at hs
    · rename_i q
      cases hs
      subst q
      exact lv_dup hx hb hd rfl (k rfl _ hl)
    · cases hs
  · split at hs
    · rename_i q
      cases hs
      subst q
      exact lv_dup2_11 hx hb hd rfl rfl (k rfl _ hl)
    · cases hs
  · split at hs
    · rename_i q
      cases hs
      subst q
      exact lv_pop hx hb hd rfl (k rfl _ hl)
    · cases hs
  · split at hs
    · rename_i q
      subst q
      exact ka_if0_sound hx hb hd hs (fun e1 e2 e3 => by subst e1; subst e2; subst e3; exact k rfl _ hl)
    · cases hs
  · split at hs
    · rename_i q
      subst q
      exact ka_if_sound hx hb hd hs (fun e1 e2 e3 => by subst e1; subst e2; subst e3; exact k rfl _ hl)
    · cases hs
  · split at hs
    · rename_i q
      subst q
      split at hs
      · rename_i ht
        cases hs
        exact lv_goto hx hb hd (ka_tg_of ht) (k rfl _ hl)
      · cases hs
    · cases hs
  · split at hs
    · rename_i q
      split at hs
      · rename_i ht
        cases hs
        exact lv_tableOut hx hb hd q (ka_tg_of ht) (k rfl _ hl)
      · cases hs
    · rename_i q
      split at hs
      · rename_i ho
        split at hs
        · rename_i ht
          cases hs
          exact lv_tableIn hx hb hd (fun z => q (Or.inl z)) (fun z => q (Or.inr z)) ho (ka_tg_of ht) (k rfl _ hl)
        · cases hs
      · cases hs
  · split at hs
    · rename_i q
      split at hs
      · rename_i ht
        cases hs
        exact lv_lookup hx hb hd q rfl (ka_tg_of ht) (k rfl _ hl)
      · cases hs
    · cases hs
  · split at hs
    · rename_i q
      subst q
      split at hs
      · rename_i hq
        cases hs
        exact lv_ldc hx hb hown (ka_L_word hts hq) hd (k rfl _ hl)
      · split at hs
        · rename_i hq
          cases hs
          have kk := k rfl _ hl
          have e1 := ka_LS_ref (B := B) (ro := ro) hq
          simp only [List.map_cons, ka_v, e1] at kk
          exact va_ldcS hx hb hown (ka_LS_word hRO hq) hd kk
        · cases hs
    · cases hs
  · split at hs
    · rename_i q
      subst q
      split at hs
      · rename_i hq
        cases hs
        exact lv_ldcw hx hb hown (ka_L_word hts hq) hd (k rfl _ hl)
      · cases hs
    · cases hs
  · split at hs
    · rename_i q
      subst q
      split at hs
      · rename_i hq
        cases hs
        exact lv_ldc2 hx hb hown (ka_L2_word hts hq) hd (k rfl _ hl)
      · cases hs
    · cases hs
  · split at hs
    · rename_i q
      subst q
      split at hs
      · rename_i w hq
        cases hs
        by_cases e1 : w.2.1 = 1
        · exact va_getsN hx hb (ka_G_z hRO hq) hS hown (ka_G_word1 hRO hq e1) (fun _ z => z) hd (k rfl _ hl)
        · exact va_gets hx hb (ka_G_z hRO hq) hS hown (ka_G_word hts hq e1) (fun _ z => z) hd (k rfl _ hl)
      · cases hs
    · cases hs
  · cases hs
end
