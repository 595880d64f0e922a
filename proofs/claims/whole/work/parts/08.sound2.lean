/-! one step of the small machine is one step of the real one: the heap -/
theorem ka_cls {ci : Nat} (h : ci < 9) : vwCl[ci]? = some ((ka_on[ci]?).getD "", ka_FT ci, ka_FN ci) ∧ (∀ k, k < ka_FN ci → parseFieldDescriptor (ka_FT ci k).2.2.1 = some (ka_fty ci k)) ∧ (∀ a, a < ka_FN ci → ∀ b, b < ka_FN ci → a ≠ b → (ka_FT ci a).2.1 ≠ (ka_FT ci b).2.1) := by
  match ci, h with
  | 0, _ => exact ⟨rfl, tyX0_ok, nmX0⟩
  | 1, _ => exact ⟨rfl, tyX1_ok, nmX1⟩
  | 2, _ => exact ⟨rfl, tyX2_ok, nmX2⟩
  | 3, _ => exact ⟨rfl, tyX3_ok, nmX3⟩
  | 4, _ => exact ⟨rfl, tyX4_ok, nmX4⟩
  | 5, _ => exact ⟨rfl, tyX5_ok, nmX5⟩
  | 6, _ => exact ⟨rfl, tyX6_ok, nmX6⟩
  | 7, _ => exact ⟨rfl, tyX7_ok, nmX7⟩
  | 8, _ => exact ⟨rfl, tyX8_ok, nmX8⟩
theorem ka_lay {ci : Nat} (h : ci < 9) : ∀ w ∈ u_ws ((ka_on[ci]?).getD "") (ka_FT ci) (ka_FN ci), w ∈ ka_T := by
  have h1 := List.all_eq_true.mp ka_lp_all ci (List.mem_range.mpr h)
  simp only [Bool.and_eq_true, decide_eq_true_eq] at h1
  obtain ⟨h1, h2⟩ := h1
  intro w hw
  have h3 : some w ∈ (ka_lp.getD ci []).map (fun i => lw_tbl[i]?) := by rw [← h1]; exact List.mem_map_of_mem hw
  obtain ⟨i, -, hi⟩ := List.mem_map.mp h3
  exact ka_T_of hi (List.all_eq_true.mp h2 w hw)
theorem ka_dv_ok : ∀ ci, ci < 9 → ∀ k, k < ka_FN ci → defaultValue (ka_fty ci k) = ka_dv (ka_fty ci k) := by decide +kernel
theorem ka_inst {ci : Nat} (h : ci < 9) : (Jvm.Cond.instantiable ((ka_on[ci]?).getD "") (ka_FN ci)) ∈ ka_T ∧ (Jvm.Cond.initialized ((ka_on[ci]?).getD "")) ∈ ka_T := by
  have h1 := List.all_eq_true.mp ka_ip_all ci (List.mem_range.mpr h)
  simp only [Bool.and_eq_true, decide_eq_true_eq] at h1
  exact ⟨ka_T_of h1.1 rfl, ka_T_of h1.2 rfl⟩
theorem ka_ok_v {B : Nat} {ro : Nat → Nat} {ty : FieldType} {v : Value} (h : ka_ok ty v = true) : narrow ty (ka_v B ro v) = ka_v B ro v ∧ fits ty (ka_v B ro v) = true := by
  cases v with
  | int x =>
    simp only [ka_ok, Bool.and_eq_true, decide_eq_true_eq] at h
    exact h
  | ref a => cases ty <;> first | exact ⟨rfl, rfl⟩ | (simp [ka_ok] at h)
  | _ => cases h
theorem ka_dv_v (B : Nat) (ro : Nat → Nat) (ty : FieldType) : ka_v B ro (ka_dv ty) = ka_dv ty := by cases ty <;> rfl
section
variable {p : Program} {l : Launch} {e : Env} {R : Room} {s : State} {m : MethodId} {args : Array Value} {below : List Frame} {meth : Method} {c : Code} {H : Heap} {locs : List Loc} {cells slots : Nat} {Q : State → Prop}
variable {B : Nat} {ro : Nat → Nat} {sc : aS} {y : Nat} {cI : ClassId} {cE : Nat → ClassId} {D : va_G}
abbrev ka_tys (cI : ClassId) (cE : Nat → ClassId) : List (ClassId × FieldType) := [(cI, .int), (cE 0, .object RX0), (cE 3, .object RX3)]
/-- the heap's size, out of the room's book -/
theorem ka_size {h : aH} {h0 : Nat} {g : JFrame} (hs0 : s.heap.size = B + h0) (hc : cells + h0 = h.length) (hS : va_S (fun q => B ≤ q) s.heap H locs) (hP : va_P D vwCl (ka_w B ro cI cE h) H) (k : H.size = B + h.length → W p l e R s m args below meth c H locs cells slots Q g) : W p l e R s m args below meth c H locs cells slots Q g := by
  intro T hT X
  refine k ?_ T hT X
  have h1 := X.heapSize
  rw [hT] at h1
  have h2 := hS.1
  by_cases hz : h.length = 0
  · omega
  · have h3 : h[h.length - 1]? = some h[h.length - 1] := List.getElem?_eq_getElem (by omega)
    have h4 := (hP _ _ (ka_w_get (B := B) (ro := ro) (cI := cI) (cE := cE) h3)).lt
    simp only at h4
    omega
theorem ka_addr {h : aH} {h0 q : Nat} {x : va_E} {g : JFrame} (hs0 : s.heap.size = B + h0) (hc : cells + h0 = h.length) (hP : va_P D vwCl (ka_w B ro cI cE h ++ [(q, x)]) H) (hD : va_D (fun q => B ≤ q) (ka_w B ro cI cE h ++ [(q, x)])) (k : q = B + h.length → W p l e R s m args below meth c H locs (cells + 1) slots Q g) : W p l e R s m args below meth c H locs (cells + 1) slots Q g := by
  intro T hT X
  refine k ?_ T hT X
  have h1 := X.heapSize
  rw [hT] at h1
  have hl : (ka_w B ro cI cE h).length = h.length := by simp [ka_w]
  have hq : (ka_w B ro cI cE h ++ [(q, x)])[h.length]? = some (q, x) := by rw [← hl]; simp
  have h2 : q < H.size := (hP _ _ hq).lt
  have h3 : B ≤ q := hD.2 _ _ hq
  rcases Nat.lt_or_ge q (B + h.length) with z | z
  · exfalso
    have h4 : q - B < h.length := by omega
    have h5 := ka_w_get (B := B) (ro := ro) (cI := cI) (cE := cE) (List.getElem?_eq_getElem h4)
    have h6 : (ka_w B ro cI cE h ++ [(q, x)])[q - B]? = some (B + (q - B), ka_c B ro cI cE h[q - B]) := by rw [List.getElem?_append_left (by omega)]; exact h5
    have h7 := hD.1 _ _ _ _ h6 hq (by simp only; omega)
    omega
  · omega
theorem ka_ad_lt {a : Nat} (h : a < 1000) : ka_ad B ro a = B + a := if_pos h
theorem ka_ad_ge {a : Nat} (h : ¬ a < 1000) : ka_ad B ro a = ro (a - 1000) := if_neg h
set_option maxHeartbeats 8000000 in
theorem ka_s2_sound {i : Instr} {len pc pc2 : Nat} {lv lv2 st st2 : List Value} {h h2 : aH} {ls : Array Slot} {h0 z0 : Nat} (hs : ka_s2 sc y i len pc lv st h = some (pc2, lv2, st2, h2)) (hd : decode (ka_by y) pc = .ok (i, len)) (hx : p.tables.exec = Jvm.exec) (hb : c.code = ka_by y) (hown : s.vm.findClass (ka_cn y) = some m.cls) (hnm : (ka_nm y).name = "<init>" → meth.name = "<init>") (hcy : ka_cn y = (ka_on[ka_ow y]?).getD "") (hts : ∀ w ∈ ka_T, w.before args s = true) (hRO : ka_RO B ro sc s s.heap) (hK : va_K D vwCl (ka_tys cI cE) s) (hS : va_S (fun q => B ≤ q) s.heap H locs) (hP : va_P D vwCl (ka_w B ro cI cE h) H) (hs0 : s.heap.size = B + h0) (hc : cells + h0 = h.length) (hz : slots + z0 = ka_zs h) (hcR : h2.length ≤ R.cells + h0) (hsR : ka_zs h2 ≤ R.slots + z0)
    (k : ∀ (H2 : Heap) (locs2 : List Loc) (cells2 slots2 : Nat), lv2 = lv → va_S (fun q => B ≤ q) s.heap H2 locs2 → va_P D vwCl (ka_w B ro cI cE h2) H2 → cells2 + h0 = h2.length → slots2 + z0 = ka_zs h2 → W p l e R s m args below meth c H2 locs2 cells2 slots2 Q (F0 m pc2 ls (st2.map (ka_v B ro)))) : W p l e R s m args below meth c H locs cells slots Q (F0 m pc ls (st.map (ka_v B ro))) := by
  have hD := ka_w_D (B := B) (ro := ro) (cI := cI) (cE := cE) h
  have hA : ∀ q, s.heap.size ≤ q → (fun q => B ≤ q) q := fun q hq => Nat.le_trans (by omega) hq
  unfold ka_s2 at hs
  split at hs
  -- getfield
  · split at hs
    · rename_i q
      subst q
      split at hs
      · rename_i w hq
        obtain ⟨hw, hci⟩ := ka_F_word hts hq
        split at hs
        · rename_i h100
          split at hs
          · rename_i v hv
            cases hs
            have hk2 : w.2.1 < 2 := by rcases hci with z | z <;> omega
            unfold ka_sf at hv
            have key : ∀ i : Nat, i < 2 → w.2.1 = 0 → v = .ref (1009 + i) → va_OF "java/lang/String" "value" "[B" (ka_v B ro v) (ro (7 + i)) (fun q => B ≤ q) s s.heap := by
              intro i hi hk0 hv
              subst hv
              have h1 := (hRO.2.2.2.1.1 i hi).2.2.1
              have h2 : ka_v B ro (.ref (1009 + i)) = .ref (ro (9 + i)) := by simp only [ka_v]; rw [ka_ad_ge (a := 1009 + i) (by omega), show 1009 + i - 1000 = 9 + i by omega]
              rw [h2]; exact h1
            have key2 : ∀ i : Nat, i < 2 → va_OF "java/lang/String" "coder" "B" (.int 0) (ro (7 + i)) (fun q => B ≤ q) s s.heap := fun i hi => (hRO.2.2.2.1.1 i hi).2.1
            rw [h100] at hw
            split at hv
            · rename_i hk0
              rw [hk0] at hw
              split at hv
              · rename_i ha
                cases hv
                subst ha
                exact vk_getf hx hb (key 0 (by decide) hk0 rfl) hS hown hw (fun _ z => z) hd (k _ _ _ _ rfl hS hP hc hz)
              · split at hv
                · rename_i ha
                  cases hv
                  subst ha
                  exact vk_getf hx hb (key 1 (by decide) hk0 rfl) hS hown hw (fun _ z => z) hd (k _ _ _ _ rfl hS hP hc hz)
                · cases hv
            · rename_i hk0
              have hk1 : w.2.1 = 1 := by omega
              rw [hk1] at hw
              split at hv
              · rename_i ha
                cases hv
                rcases ha with ha | ha
                · subst ha
                  exact vk_getf hx hb (key2 0 (by decide)) hS hown hw (fun _ z => z) hd (k _ _ _ _ rfl hS hP hc hz)
                · subst ha
                  exact vk_getf hx hb (key2 1 (by decide)) hS hown hw (fun _ z => z) hd (k _ _ _ _ rfl hS hP hc hz)
              · cases hv
          · cases hs
        · rename_i h100
          split at hs
          · rename_i ha
            split at hs
            · rename_i c2 fs hcell
              split at hs
              · rename_i he
                subst he
                split at hs
                · rename_i v hv
                  cases hs
                  obtain ⟨h9, hk, -⟩ : w.1 < 9 ∧ w.2.1 < ka_FN w.1 ∧ _ := by
                    rcases hci with z | z
                    · exact absurd z.1 h100
                    · exact z
                  obtain ⟨e1, e2, e3⟩ := ka_cls h9
                  rw [ka_fd, if_neg h100] at hw
                  refine va_get (a := ka_ad B ro _) hx hb hts (ka_lay h9) hown hK hP _ (by rw [ka_ad_lt ha]; exact ka_w_get hcell) e1 w.2.1 hk hw (fun _ z => z) (by rw [List.getElem?_map, hv]; rfl) hd ?_
                  exact k _ _ _ _ rfl hS hP hc hz
                · cases hs
              · cases hs
            · cases hs
          · cases hs
      · cases hs
    · cases hs
  -- putfield
  · rename_i k1 v1 a1 st1
    split at hs
    · rename_i q
      obtain ⟨q, ha⟩ := q
      subst q
      split at hs
      · rename_i w hq
        obtain ⟨hw, hci⟩ := ka_F_word hts hq
        split at hs
        · rename_i c2 fs hcell
          split at hs
          · rename_i hok
            obtain ⟨he, hlen, hk, h9, hok, hfin⟩ := hok
            subst he
            cases hs
            have h100 : ¬ w.1 = 100 := by omega
            obtain ⟨e1, e2, e3⟩ := ka_cls h9
            rw [ka_fd, if_neg h100] at hw
            have hap : (ka_FT w.1 w.2.1).1 = (ka_on[w.1]?).getD "" := by
              rcases hci with z | z
              · exact absurd z.1 h100
              · exact z.2.2
            have hcell2 : (ka_w B ro cI cE h)[a1]? = some (ka_ad B ro a1, Sum.inr (w.1, fs.map (ka_v B ro))) := by rw [ka_ad_lt ha]; exact ka_w_get hcell
            have hfin2 : ∀ (H1 : Heap) (locs1 : List Loc), va_P D vwCl ((ka_w B ro cI cE h).set a1 (ka_ad B ro a1, Sum.inr (w.1, (fs.map (ka_v B ro)).set w.2.1 (ka_v B ro v1)))) H1 → va_D (fun q => B ≤ q) ((ka_w B ro cI cE h).set a1 (ka_ad B ro a1, Sum.inr (w.1, (fs.map (ka_v B ro)).set w.2.1 (ka_v B ro v1)))) → va_S (fun q => B ≤ q) s.heap H1 locs1 → W p l e R s m args below meth c H1 locs1 cells slots Q (F0 m (pc + 3) ls (st2.map (ka_v B ro))) := by
              intro H1 locs1 hP1 _ hS1
              rw [ka_ad_lt ha, ← List.map_set] at hP1
              have hP2 : va_P D vwCl (ka_w B ro cI cE (h.set a1 (.inl (w.1, fs.set w.2.1 v1)))) H1 := by
                rw [← ka_w_set]
                exact hP1
              exact k H1 locs1 cells slots rfl hS1 hP2 (by rw [List.length_set]; exact hc) (by rw [ka_zs_set hcell (by simp [ka_z])]; exact hz)
            by_cases hf : (ka_FT w.1 w.2.1).2.2.2 = true
            · obtain ⟨f1, f2⟩ := hfin hf
              exact va_putF (a := ka_ad B ro a1) hx hb hts (ka_lay h9) (ka_fty w.1) e2 e3 hown hK hP hD hS _ hcell2 e1 w.2.1 hk hw (fun _ z => z) hf (hnm f1) (by rw [hap, hcy, f2]) (e2 _ hk) (ka_ok_v hok).1 (ka_ok_v hok).2 (by rw [List.length_map]; exact hlen) hd hfin2
            · exact va_put (a := ka_ad B ro a1) hx hb hts (ka_lay h9) (ka_fty w.1) e2 e3 hown hK hP hD hS _ hcell2 e1 w.2.1 hk hw (fun _ z => z) (by simpa using hf) (e2 _ hk) (ka_ok_v hok).1 (ka_ok_v hok).2 (by rw [List.length_map]; exact hlen) hd hfin2
          · cases hs
        · cases hs
      · cases hs
    · cases hs
  -- iaload
  · split at hs
    · rename_i q
      subst q
      split at hs
      · rename_i n f hq
        split at hs
        · rename_i hin
          cases hs
          unfold ka_ia at hq
          split at hq
          · rename_i ha
            split at hq
            · rename_i q2 hcell
              cases hq
              exact va_iald (a := ka_ad B ro _) hx hb hK hP _ 0 (by rw [ka_ad_lt ha]; exact ka_w_get hcell) rfl (ka_in_vp hin) hd (k _ _ _ _ rfl hS hP hc hz)
            · cases hq
          · rename_i ha
            unfold ka_ri at hq
            split at hq
            · rename_i h1000
              subst h1000
              cases hq
              have hlt : ro 0 < s.heap.size := by
                obtain ⟨scr, hc, -⟩ := hRO.1.1
                exact (Array.getElem?_eq_some_iff.mp hc).1
              exact va_sld hx hb hRO.1.1 hlt hRO.1.2 hS (ka_in_vp hin) hd (k _ _ _ _ rfl hS hP hc hz)
            · have hT := hRO.2.1 _ (ka_lk_mem hq)
              simp only [List.map_cons, ka_v]
              rw [ka_ad_ge ha]
              exact va_ti hx hb hT hS (ka_in_vp hin) rfl hd (k _ _ _ _ rfl hS hP hc hz)
        · cases hs
      · cases hs
    · cases hs
  -- baload
  · rename_i j1 a1 st1
    split at hs
    · rename_i q
      subst q
      split at hs
      · rename_i n f hq
        split at hs
        · rename_i hin
          cases hs
          have hm := ka_lk_mem hq
          have hT : ∃ i, i < 2 ∧ ka_ad B ro a1 = ro (9 + i) ∧ n = ([4, 4] : List Nat).getD i 0 ∧ ∀ j, f j = (([[117, 115, 116, 109], [98, 110, 112, 104]] : List (List Int32)).getD i []).getD j 0 := by
            unfold ka_RB at hm
            rcases List.mem_cons.mp hm with z | z
            · cases z
              exact ⟨0, by omega, rfl, rfl, fun _ => rfl⟩
            · rcases List.mem_cons.mp z with z | z
              · cases z
                exact ⟨1, by omega, rfl, rfl, fun _ => rfl⟩
              · cases z
          obtain ⟨i, hi, e1, e2, e3⟩ := hT
          have hT2 := (hRO.2.2.2.1.1 i hi).2.2.2
          simp only [List.map_cons, ka_v]
          rw [e1]
          refine va_tb hx hb hT2 hS (i := j1) (by rw [← e2]; exact ka_in_vp hin) rfl hd ?_
          rw [← e3]
          exact k _ _ _ _ rfl hS hP hc hz
        · cases hs
      · cases hs
    · cases hs
  -- iastore
  · rename_i x1 j1 a1 st1
    split at hs
    · rename_i q
      obtain ⟨q, ha⟩ := q
      subst q
      split at hs
      · rename_i n f hcell
        split at hs
        · rename_i hin
          cases hs
          refine va_iast (a := ka_ad B ro a1) hx hb hK hP hD hS _ 0 (by rw [ka_ad_lt ha]; exact ka_w_get hcell) rfl (ka_in_vp hin) hd ?_
          intro H1 locs1 hP1 _ hS1
          rw [ka_ad_lt ha] at hP1
          have hP2 : va_P D vwCl (ka_w B ro cI cE (h.set a1 (.inr (.inl (n, va_up f j1.toNatClampNeg x1))))) H1 := by
            rw [← ka_w_set]
            exact hP1
          exact k H1 locs1 cells slots rfl hS1 hP2 (by rw [List.length_set]; exact hc) (by rw [ka_zs_set hcell (by rfl)]; exact hz)
        · cases hs
      · cases hs
    · cases hs
  -- aaload
  · rename_i j1 a1 st1
    split at hs
    · rename_i q
      obtain ⟨q, ha⟩ := q
      subst q
      split at hs
      · rename_i e1 n f hcell
        split at hs
        · rename_i hin
          obtain ⟨he, hin⟩ := hin
          split at hs
          · rename_i b hfb
            cases hs
            have hgo : ∀ (t0 : Nat) (C : String), (ka_tys cI cE)[t0]? = some (cE e1, .object C) → W p l e R s m args below meth c H locs cells slots Q (F0 m pc ls ((.int j1 :: .ref a1 :: st1 : List Value).map (ka_v B ro))) := by
              intro t0 C ht
              refine va_aldq (a := ka_ad B ro a1) hx hb hK hP _ t0 (by rw [ka_ad_lt ha]; exact ka_w_get hcell) ht (ka_in_vp hin) hd ?_
              simp only [hfb]
              exact k _ _ _ _ rfl hS hP hc hz
            rcases he with rfl | rfl
            · exact hgo 1 RX0 rfl
            · exact hgo 2 RX3 rfl
          · cases hs
        · cases hs
      · cases hs
    · cases hs
  -- aastore
  · rename_i b1 j1 a1 st1
    split at hs
    · rename_i q
      obtain ⟨q, ha, hb9⟩ := q
      subst q
      split at hs
      · rename_i e1 n f hcell
        split at hs
        · rename_i c2 fs hcell2
          split at hs
          · rename_i hin
            obtain ⟨he, hi1, hi2, hce⟩ := hin
            cases hs
            subst hce
            have hgo : ∀ (t0 : Nat) (C : vw_C), (ka_tys cI cE)[t0]? = some (cE c2, .object C.1) → vwCl[c2]? = some C → W p l e R s m args below meth c H locs cells slots Q (F0 m pc ls ((.ref b1 :: .int j1 :: .ref a1 :: st2 : List Value).map (ka_v B ro))) := by
              intro t0 C ht hC
              refine va_astq (a := ka_ad B ro a1) hx hb hK hP hD hS _ t0 _ c2 (by rw [ka_ad_lt ha]; exact ka_w_get hcell) ht (by rw [ka_ad_lt hb9]; exact ka_w_get hcell2) hC (ka_in_vp ⟨hi1, hi2⟩) hd ?_
              intro H1 locs1 hP1 _ hS1
              rw [ka_ad_lt ha] at hP1
              have hE : ka_c B ro cI cE (.inr (.inr (c2, n, va_up f j1.toNatClampNeg (some b1)))) = .inl (cE c2, n, .inr (.inr (.inr (.inr (va_up (fun j => (f j).map (ka_ad B ro)) j1.toNatClampNeg (some (ka_ad B ro b1))))))) := by
                have hF : (fun j => (va_up f j1.toNatClampNeg (some b1) j).map (ka_ad B ro)) = va_up (fun j => (f j).map (ka_ad B ro)) j1.toNatClampNeg (some (ka_ad B ro b1)) := by
                  funext j
                  by_cases hj : j = j1.toNatClampNeg
                  · subst hj; simp [va_up]
                  · simp [va_up, hj]
                show Sum.inl (cE c2, n, Sum.inr (Sum.inr (Sum.inr (Sum.inr (fun j => (va_up f j1.toNatClampNeg (some b1) j).map (ka_ad B ro)))))) = _
                rw [hF]
              have hP2 : va_P D vwCl (ka_w B ro cI cE (h.set a1 (.inr (.inr (c2, n, va_up f j1.toNatClampNeg (some b1)))))) H1 := by
                rw [← ka_w_set]
                rw [hE]
                exact hP1
              exact k H1 locs1 cells slots rfl hS1 hP2 (by rw [List.length_set]; exact hc) (by rw [ka_zs_set hcell (by rfl)]; exact hz)
            rcases he with rfl | rfl
            · exact hgo 1 (RX0, TX0, 9) rfl rfl
            · exact hgo 2 (RX3, TX3, 3) rfl rfl
          · cases hs
        · cases hs
      · cases hs
    · cases hs
  -- arraylength
  · rename_i a1 st1
    split at hs
    · rename_i q
      subst q
      split at hs
      · rename_i n hq
        cases hs
        unfold ka_al at hq
        split at hq
        · rename_i ha
          split at hq
          · rename_i q2 hcell
            cases hq
            exact va_alen (a := ka_ad B ro a1) (x := (q2.1, .inl q2.2)) hx hb hK hP _ 0 (by rw [ka_ad_lt ha]; exact ka_w_get hcell) rfl rfl hd (k _ _ _ _ rfl hS hP hc hz)
          · rename_i q2 hcell
            split at hq
            · rename_i he
              cases hq
              rcases he with he | he
              · exact va_alen (a := ka_ad B ro a1) (x := (q2.2.1, .inr (.inr (.inr (.inr _))))) hx hb hK hP _ 1 (by rw [ka_ad_lt ha]; exact ka_w_get hcell) (by rw [he]; rfl) rfl hd (k _ _ _ _ rfl hS hP hc hz)
              · exact va_alen (a := ka_ad B ro a1) (x := (q2.2.1, .inr (.inr (.inr (.inr _))))) hx hb hK hP _ 2 (by rw [ka_ad_lt ha]; exact ka_w_get hcell) (by rw [he]; rfl) rfl hd (k _ _ _ _ rfl hS hP hc hz)
            · cases hq
          · cases hq
        · rename_i ha
          split at hq
          · rename_i q2 hq2
            cases hq
            unfold ka_ri at hq2
            split at hq2
            · rename_i h1000
              subst h1000
              cases hq2
              have hlt : ro 0 < s.heap.size := by
                obtain ⟨scr, hc, -⟩ := hRO.1.1
                exact (Array.getElem?_eq_some_iff.mp hc).1
              exact va_slen hx hb hRO.1.1 hlt hRO.1.2 hS hd (k _ _ _ _ rfl hS hP hc hz)
            · have hT := hRO.2.1 _ (ka_lk_mem hq2)
              simp only [List.map_cons, ka_v]
              rw [ka_ad_ge ha]
              exact va_tlen hx hb hT hS rfl hd (k _ _ _ _ rfl hS hP hc hz)
          · split at hq
            · rename_i q2 hq2
              cases hq
              have hm := ka_lk_mem hq2
              have hT : ∃ i, i < 2 ∧ ka_ad B ro a1 = ro (9 + i) ∧ q2.1 = ([4, 4] : List Nat).getD i 0 := by
                unfold ka_RB at hm
                rcases List.mem_cons.mp hm with z | z
                · cases z
                  exact ⟨0, by omega, rfl, rfl⟩
                · rcases List.mem_cons.mp z with z | z
                  · cases z
                    exact ⟨1, by omega, rfl, rfl⟩
                  · cases z
              obtain ⟨i, hi, e1, e2⟩ := hT
              have hT2 := (hRO.2.2.2.1.1 i hi).2.2.2
              simp only [List.map_cons, ka_v]
              rw [e1]
              exact va_tlen hx hb hT2 hS (by rw [← e2]) hd (k _ _ _ _ rfl hS hP hc hz)
            · cases hq
      · cases hs
    · cases hs
  -- new
  · split at hs
    · rename_i q
      obtain ⟨q, hlim⟩ := q
      subst q
      split at hs
      · rename_i w hq
        split at hs
        · rename_i h9
          cases hs
          have hw := ka_N_word hts hq
          obtain ⟨e1, e2, e3⟩ := ka_cls h9
          obtain ⟨i1, i2⟩ := ka_inst h9
          have hgz : ka_z (.inl (w.1, (List.range (ka_FN w.1)).map (fun j => ka_dv (ka_fty w.1 j)))) = ka_FN w.1 := by simp [ka_z]
          rw [List.length_append, List.length_singleton] at hcR
          rw [ka_zs_push, hgz] at hsR
          refine va_new (fs := ((List.range (ka_FN w.1)).map (fun j => ka_dv (ka_fty w.1 j))).map (ka_v B ro)) hx hb hts (ka_lay h9) (ka_fty w.1) e2 hown hw (hts _ i1) (hts _ i2) hK hP hD hS hA e1 ?_ (by omega) (by omega) hd ?_
          · intro j hj
            rw [ka_dv_ok _ h9 _ hj]
            simp [vp_V, hj, ka_dv_v]
          · intro q H1 hP1 hD1 hS1
            refine ka_addr hs0 hc hP1 hD1 fun hq1 => ?_
            subst hq1
            have hlt : h.length < 1000 := by omega
            have hP2 : va_P D vwCl (ka_w B ro cI cE (h ++ [.inl (w.1, (List.range (ka_FN w.1)).map (fun j => ka_dv (ka_fty w.1 j)))])) H1 := by
              rw [ka_w_push]
              exact hP1
            have kk := k H1 locs (cells + 1) (slots + ka_FN w.1) rfl hS1 hP2 (by rw [List.length_append, List.length_singleton]; omega) (by rw [ka_zs_push, hgz]; omega)
            simp only [List.map_cons, ka_v, ka_ad_lt hlt] at kk
            exact kk
        · cases hs
      · cases hs
    · cases hs
  -- newarray
  · rename_i n1 st1
    split at hs
    · rename_i q
      obtain ⟨q, hlim, ht, hn0, hn1⟩ := q
      subst q
      subst ht
      cases hs
      rw [List.length_append, List.length_singleton] at hcR
      rw [ka_zs_push] at hsR
      simp only [ka_z] at hsR
      refine va_newa (ty := .int) (N' := Int32.toNatClampNeg n1) (a0 := (Int32.toNatClampNeg n1, .inl (fun _ => 0))) hx hb (hts _ (ka_T_of ka_W1.2.2.2.2.2.2.2.2.2.2.1 rfl)) rfl hK hP hD hS hA (fun _ => rfl) hn0 rfl (Nat.le_trans (Nat.mul_le_mul_right _ hn1) (by decide)) (by omega) (by omega) hd ?_
      intro q cA H1 hK1 hP1 hD1 hS1
      have hcA : cA = cI := by
        have h1 := (hK.2 0 (cI, .int) rfl).2
        have h2 := (hK1.2 3 (cA, .int) rfl).2
        exact Option.some.inj (h2.symm.trans h1)
      subst hcA
      refine ka_addr hs0 hc hP1 hD1 fun hq1 => ?_
      subst hq1
      have hlt : h.length < 1000 := by omega
      have hP2 : va_P D vwCl (ka_w B ro cA cE (h ++ [.inr (.inl (n1.toNatClampNeg, fun _ => 0))])) H1 := by
        rw [ka_w_push]
        exact hP1
      have kk := k H1 locs (cells + 1) (slots + n1.toNatClampNeg) rfl hS1 hP2 (by rw [List.length_append, List.length_singleton]; omega) (by rw [ka_zs_push, ← hz]; simp only [ka_z]; omega)
      simp only [List.map_cons, ka_v, ka_ad_lt hlt] at kk
      exact kk
    · cases hs
  -- anewarray
  · rename_i k1 n1 st1
    split at hs
    · rename_i q
      obtain ⟨q, hlim, hn0, hn1⟩ := q
      subst q
      split at hs
      · rename_i w hq
        split at hs
        · rename_i h9
          cases hs
          have hw := ka_N_word hts hq
          rw [List.length_append, List.length_singleton] at hcR
          rw [ka_zs_push] at hsR
          simp only [ka_z] at hsR
          have hgo : ∀ (t0 : Nat) (C : String), (ka_on[w.1]?).getD "" = C → (ka_tys cI cE)[t0]? = some (cE w.1, .object C) → va_AO C s → W p l e R s m args below meth c H locs cells slots Q (F0 m pc ls ((.int n1 :: st1 : List Value).map (ka_v B ro))) := by
            intro t0 C hC ht hao
            rw [hC] at hw
            refine va_newq (N' := n1.toNatClampNeg) hx hb hown hw hao hK hP hD hS hA hn0 rfl (Nat.le_trans (Nat.mul_le_mul_right _ hn1) (by decide)) (by omega) (by omega) hd ?_
            intro q cA H1 hK1 hP1 hD1 hS1
            have hcA : cA = cE w.1 := by
              have h1 := (hK.2 t0 (cE w.1, .object C) ht).2
              have h2 := (hK1.2 3 (cA, .object C) rfl).2
              obtain ⟨_, _, -, -, -, h1⟩ := h1
              obtain ⟨_, _, -, -, -, h2⟩ := h2
              exact Option.some.inj (h2.symm.trans h1)
            subst hcA
            refine ka_addr hs0 hc hP1 hD1 fun hq1 => ?_
            subst hq1
            have hlt : h.length < 1000 := by omega
            have hP2 : va_P D vwCl (ka_w B ro cI cE (h ++ [.inr (.inr (w.1, n1.toNatClampNeg, fun _ => none))])) H1 := by
              rw [ka_w_push]
              exact hP1
            have kk := k H1 locs (cells + 1) (slots + n1.toNatClampNeg) rfl hS1 hP2 (by rw [List.length_append, List.length_singleton]; omega) (by rw [ka_zs_push, ← hz]; simp only [ka_z]; omega)
            simp only [List.map_cons, ka_v, ka_ad_lt hlt] at kk
            exact kk
          rcases h9 with h9 | h9
          · exact hgo 1 RX0 (by rw [h9]; rfl) (by rw [h9]; rfl) hRO.2.2.2.2.2.2.2.1
          · exact hgo 2 RX3 (by rw [h9]; rfl) (by rw [h9]; rfl) hRO.2.2.2.2.2.2.2.2
        · cases hs
      · cases hs
    · cases hs
  · cases hs
end
