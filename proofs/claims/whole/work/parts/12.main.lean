section
variable {B : Nat} {ro : Nat → Nat} {sc : aS} {cI : ClassId} {cE : Nat → ClassId} {D : va_G} {l : Launch}
set_option maxHeartbeats 8000000 in
theorem ka_call_sound {n d y pc z len : Nat} {i : Instr} {lv st vs rest : List Value} {h h1 h2 : aH} {w v : Option Value} (ih : ka_IH B ro sc cI cE D l n) (hcal : ka_cal y i len st h = some (z, vs, rest)) (hz : ka_run sc n d z 0 (ka_ent z vs) [] h = some (w, h1)) (hr : ka_run sc n (d + 1) y (pc + 3) lv (w.toList ++ rest) h1 = some (v, h2)) {p : Program} {e : Env} {R : Room} {s : State} {m : MethodId} {args : Array Value} {below : List Frame} {meth : Method} {c : Code} {H : Heap} {locs : List Loc} {cells slots : Nat} {Q : State → Prop} {ls : Array Slot} {h0 z0 : Nat} (hd : decode (ka_by y) pc = .ok (i, len)) (hF : ka_FX p s m args meth c y) (hK : va_K D vwCl (ka_tys cI cE) s) (hRO : ka_RO B ro sc s s.heap) (hs0 : s.heap.size = B + h0) (hS : va_S (fun q => B ≤ q) s.heap H locs) (hP : va_P D vwCl (ka_w B ro cI cE h) H) (hc : cells + h0 = h.length) (hzz : slots + z0 = ka_zs h) (hcR : h2.length ≤ R.cells + h0) (hsR : ka_zs h2 ≤ R.slots + z0) (hfr : d + 1 ≤ R.frames) (hlo : 128 * (d + 1) ≤ R.locals) (hl : ka_lr B ro lv ls (ka_ml y)) (hend : ka_end B ro cI cE D p l e R s m args below meth c Q y h0 z0 v h2) : W p l e R s m args below meth c H locs cells slots Q (F0 m pc ls (st.map (ka_v B ro))) := by
  have hF' := hF
  obtain ⟨hx, hb, hml, hown, hts, hname⟩ := hF
  have hg1 : ka_le h h1 := ka_run_grow sc _ _ _ _ _ _ _ _ hz
  have hg2 : ka_le h1 h2 := ka_run_grow sc _ _ _ _ _ _ _ _ hr
  refine ka_size hs0 hc hS hP fun hHs => ?_
  -- the state ahead of the callee
  have hPre : ∀ U : State, U.heap = H → s.WarmedH U.vm → ka_Pc B ro sc cI cE D vs h (vs.map (ka_v B ro)).toArray U := by
    intro U hU hW
    refine ⟨rfl, by rw [hU]; exact hHs, by rw [hU]; exact hP, va_K.moved hW.alike hK, ?_⟩
    have h5 := hRO.to hW (H1 := H) hS.2.1
    rw [hU]
    exact h5
  have hrest : (ka_r8 rest = true) → 2 * (F0 m pc ls (st.map (ka_v B ro))).monitorRoom + ((rest.map (ka_v B ro)).map fun v => v.category).sum ≤ 8 := fun h4 => lv_room (ka_cats_r8 h4)
  have hgo : va_Run p l e R s m args below meth c H locs cells slots (h1.length - h.length) (ka_zs h1 - ka_zs h) (F0 m pc ls (st.map (ka_v B ro))) (rest.map (ka_v B ro)) (ka_Qc B ro cI cE D w h1 (vs.map (ka_v B ro)).toArray) (fun q => B ≤ q) → W p l e R s m args below meth c H locs cells slots Q (F0 m pc ls (st.map (ka_v B ro))) := by
    intro hrun
    refine ka_call hrun hS fun H1 locs1 hP1 hS1 => ?_
    rw [ka_back]
    exact ih (d + 1) y (pc + 3) lv (w.toList ++ rest) h1 v h2 hr p e R s m args below meth c H1 locs1 _ _ Q ls h0 z0 hF' hK hRO hs0 hS1 hP1 (by have := hg1.1; omega) (by have := hg1.2; omega) hcR hsR hfr hlo hl hend
  have hf : cells + (h1.length - h.length) ≤ R.cells ∧ slots + (ka_zs h1 - ka_zs h) ≤ R.slots := by
    have a1 := hg1.1; have a2 := hg2.1; have a3 := hg1.2; have a4 := hg2.2
    constructor <;> omega
  have hml2 : ∀ {z : Nat}, ka_ml z ≤ 20 → (ka_rm d (h1.length - h.length) (ka_zs h1 - ka_zs h)).frames + 1 ≤ R.frames ∧ 8 + (ka_ml z + 11) + (ka_rm d (h1.length - h.length) (ka_zs h1 - ka_zs h)).locals ≤ R.locals := by
    intro z hz20
    show d + 1 ≤ _ ∧ 8 + (ka_ml z + 11) + 128 * d ≤ _
    constructor <;> omega
  have hsz : (F0 m pc ls (st.map (ka_v B ro))).locals.size = ka_ml y := hl.2.1
  unfold ka_cal at hcal
  split at hcal
  -- static
  · split at hcal
    · rename_i k1 q3
      subst q3
      split at hcal
      · rename_i q hq
        split at hcal
        · rename_i hok
          obtain ⟨hkind, hna, hr4, hent⟩ := hok
          cases hcal
          obtain ⟨kk, hcok, e1, e2, hmem⟩ := ka_C_ok hq
          obtain ⟨hy, hw1, hw2, hw3, -, -⟩ := ka_C_kind hcok (by omega) (by omega) (by omega) (by omega)
          have hw3 := hw3 hkind
          obtain ⟨hcode, hcls, hml20, hplain, hmh, hpar⟩ := ka_M_word hy
          have hM := ka_met ih hz hy hent
          rcases hkind with hk | hk
          · unfold ka_Cl at hw1
            rw [if_neg (show ¬ 10 ≤ q.1 by omega), e1, e2] at hw1
            exact hgo (va_runS (nL := ka_ml y) (n := ka_na q.2.1) ⟨hx, hb, hml, hown, hts⟩ hM ⟨callB_of _ hts (ka_ws_good hy) rfl rfl rfl (hts _ (ka_T_of hw2 rfl)) (hts _ (ka_T_of hw1 rfl)) ⟨hmh.1, hmh.2, hpar⟩ (hml2 hml20), hts _ (ka_T_of hw3 rfl)⟩ ⟨ka_Pc_blind _ _, hPre⟩ rfl (by rw [List.length_map, List.length_reverse, List.length_take]; omega) hsz (ka_split _) (hrest hr4) hd hf)
          · have hnest := hRO.2.2.2.2.2.1 _ hmem (show 10 ≤ q.1 by omega)
            rw [e1, e2] at hnest
            exact hgo (va_runSN (nL := ka_ml y) (n := ka_na q.2.1) ⟨hx, hb, hml, hown, hts⟩ hM ⟨va_cnB _ hts (ka_ws_good hy) rfl rfl rfl hnest (hts _ (ka_T_of hw2 rfl)) ⟨hmh.1, hmh.2, hpar⟩ (hml2 hml20), hts _ (ka_T_of hw3 rfl), trivial⟩ ⟨ka_Pc_blind _ _, hPre⟩ rfl (by rw [List.length_map, List.length_reverse, List.length_take]; omega) hsz (ka_split _) (hrest hr4) hd hf)
        · cases hcal
      · cases hcal
    · cases hcal
  -- virtual
  · split at hcal
    · rename_i k1 q3
      subst q3
      split at hcal
      · rename_i q hq
        split at hcal
        · rename_i a1 rest1 hdrop
          split at hcal
          · rename_i hok
            obtain ⟨hk, hr4, hrc, hent⟩ := hok
            cases hcal
            obtain ⟨kk, hcok, e1, e2, hmem⟩ := ka_C_ok hq
            obtain ⟨hy, hw1, hw2, -, hw3, -⟩ := ka_C_kind hcok (by omega) (by omega) (by omega) (by omega)
            obtain ⟨hw3, hw4⟩ := hw3 hk
            obtain ⟨hcode, hcls, hml20, hplain, hmh, hpar⟩ := ka_M_word hy
            have hM := ka_met ih hz hy hent
            unfold ka_Cl at hw1
            rw [if_neg (show ¬ 10 ≤ q.1 by omega), e1, e2] at hw1
            have hna : ka_na q.2.1 < st.length := by
              rcases Nat.lt_or_ge (ka_na q.2.1) st.length with z | z
              · exact z
              · rw [List.drop_eq_nil_of_le z] at hdrop; cases hdrop
            have hst : st.map (ka_v B ro) = (((st.take (ka_na q.2.1)).reverse).map (ka_v B ro)).reverse ++ .ref (ka_ad B ro a1) :: rest.map (ka_v B ro) := by
              rw [ka_split (na := ka_na q.2.1), hdrop]
              rfl
            have hrecv : ∃ cellB : Cell, H[ka_ad B ro a1]? = some cellB ∧ cellB.vm.isStatics = false ∧ s.vm.findClass (ka_nm q.2.1).cls = some cellB.cls := by
              unfold ka_rc at hrc
              rw [hcls]
              split at hrc
              · rename_i ha
                split at hrc
                · rename_i c2 fs hcell
                  simp only [decide_eq_true_eq] at hrc
                  obtain ⟨hc2, h9⟩ := hrc
                  subst hc2
                  rw [ka_ad_lt ha]
                  exact va_recv hK hP (ka_cls h9).1 (ka_w_get hcell)
                · cases hrc
              · simp only [decide_eq_true_eq] at hrc
                obtain ⟨h10, ha⟩ := hrc
                have hcn : ka_cn q.2.1 = "java/lang/String" := by unfold ka_cn; rw [h10]; rfl
                rw [hcn]
                rcases ha with rfl | rfl
                · exact vk_recv (i := 0) hRO.2.2.2.1 (by decide) hS
                · exact vk_recv (i := 1) hRO.2.2.2.1 (by decide) hS
            exact hgo (va_runV (C := (ka_nm q.2.1).cls) (b := ka_ad B ro a1) (As := ((st.take (ka_na q.2.1)).reverse).map (ka_v B ro)) (nL := ka_ml y) (n := ka_na q.2.1) ⟨hx, hb, hml, hown, hts⟩ hM ⟨callB_of _ hts (ka_ws_good hy) rfl rfl rfl (hts _ (ka_T_of hw2 rfl)) (hts _ (ka_T_of hw1 rfl)) ⟨hmh.1, hmh.2, hpar⟩ (hml2 hml20), hts _ (ka_T_of hw3 rfl), hts _ (ka_T_of hw4 rfl)⟩ ⟨ka_Pc_blind _ _, hrecv, hPre⟩ rfl (by rw [List.length_map, List.length_reverse, List.length_take]; omega) hsz hst (hrest hr4) hd hf)
          · cases hcal
        · cases hcal
      · cases hcal
    · cases hcal
  -- constructors
  · split at hcal
    · rename_i k1 q3
      subst q3
      split at hcal
      · rename_i q hq
        split at hcal
        · rename_i a1 rest1 hdrop
          split at hcal
          · rename_i hok
            obtain ⟨hk, hr4, hent⟩ := hok
            cases hcal
            obtain ⟨kk, hcok, e1, e2, hmem⟩ := ka_C_ok hq
            obtain ⟨hy, hw1, hw2, -, -, hw3⟩ := ka_C_kind hcok (by omega) (by omega) (by omega) (by omega)
            obtain ⟨hw3, hini, hrt⟩ := hw3 hk
            obtain ⟨hcode, hcls, hml20, hplain, hmh, hpar⟩ := ka_M_word hy
            have hM := ka_met ih hz hy hent
            have hna : ka_na q.2.1 < st.length := by
              rcases Nat.lt_or_ge (ka_na q.2.1) st.length with z | z
              · exact z
              · rw [List.drop_eq_nil_of_le z] at hdrop; cases hdrop
            have hst : st.map (ka_v B ro) = (((st.take (ka_na q.2.1)).reverse).map (ka_v B ro)).reverse ++ .ref (ka_ad B ro a1) :: rest.map (ka_v B ro) := by
              rw [ka_split (na := ka_na q.2.1), hdrop]
              rfl
            have hws : ka_ws q.2.1 = .code (ka_nm q.2.1) (ka_by q.2.1) (ka_ml q.2.1) none :: ka_T := by unfold ka_ws; rw [hrt]
            rcases hk with hk | hk
            · unfold ka_Cl at hw1
              rw [if_neg (show ¬ 10 ≤ q.1 by omega), e1, e2] at hw1
              exact hgo (va_runI (b := ka_ad B ro a1) (As := ((st.take (ka_na q.2.1)).reverse).map (ka_v B ro)) (nL := ka_ml y) (n := ka_na q.2.1) ⟨hx, hb, hml, hown, hts⟩ hM ⟨callB_of _ hts (ka_ws_good hy) hws rfl rfl (hts _ (ka_T_of hw2 rfl)) (hts _ (ka_T_of hw1 rfl)) ⟨hmh.1, hmh.2, hpar⟩ (hml2 hml20), hini, hts _ (ka_T_of hw3 rfl)⟩ ⟨ka_Pc_blind _ _, hPre⟩ rfl (by rw [List.length_map, List.length_reverse, List.length_take]; omega) hsz hst (hrest hr4) hd hf)
            · have hnest := hRO.2.2.2.2.2.1 _ hmem (show 10 ≤ q.1 by omega)
              rw [e1, e2] at hnest
              exact hgo (va_runIN (b := ka_ad B ro a1) (As := ((st.take (ka_na q.2.1)).reverse).map (ka_v B ro)) (nL := ka_ml y) (n := ka_na q.2.1) ⟨hx, hb, hml, hown, hts⟩ hM ⟨va_cnB _ hts (ka_ws_good hy) hws rfl rfl hnest (hts _ (ka_T_of hw2 rfl)) ⟨hmh.1, hmh.2, hpar⟩ (hml2 hml20), hini, hts _ (ka_T_of hw3 rfl)⟩ ⟨ka_Pc_blind _ _, hPre⟩ rfl (by rw [List.length_map, List.length_reverse, List.length_take]; omega) hsz hst (hrest hr4) hd hf)
          · cases hcal
        · cases hcal
      · cases hcal
    · cases hcal
  · cases hcal
set_option maxHeartbeats 4000000 in
theorem ka_sound : ∀ n : Nat, ka_IH B ro sc cI cE D l n := by
  intro n
  induction n with
  | zero => intro d y pc lv st h v h2 hr; cases hr
  | succ n ih =>
    intro d y pc lv st h v h2 hr p e R s m args below meth c H locs cells slots Q ls h0 z0 hF hK hRO hs0 hS hP hc hzz hcR hsR hfr hlo hl hend
    rw [ka_run] at hr
    split at hr
    · cases hr
    · rename_i i len hd
      split at hr
      · rename_i v' hret
        cases hr
        exact hend pc i len st H locs cells slots ls hd hret hP hS hc hzz
      · split at hr
        · rename_i z vs rest hcal
          split at hr
          · cases hr
          · rename_i d
            split at hr
            · cases hr
            · rename_i w h1 hz
              exact ka_call_sound ih hcal hz hr hd hF hK hRO hs0 hS hP hc hzz hcR hsR hfr hlo hl hend
        · split at hr
          · rename_i pc2 lv2 st2 hh2 hs
            have hg := ka_run_grow sc _ _ _ _ _ _ _ _ hr
            have hF' := hF
            obtain ⟨hx, hb, hml, hown, hts, hname⟩ := hF
            unfold ka_stp at hs
            split at hs
            · rename_i h1
              cases hs
              refine ka_s1_sound h1 hd hx hb hown hts hRO hS hl fun e1 ls2 hl2 => ?_
              rw [e1] at hr
              exact ih _ _ _ _ _ _ _ _ hr p e R s m args below meth c H locs cells slots Q ls2 h0 z0 hF' hK hRO hs0 hS hP hc hzz hcR hsR hfr hlo hl2 hend
            · split at hs
              · rename_i h1
                cases hs
                refine ka_s2_sound h1 hd hx hb hown hname rfl hts hRO hK hS hP hs0 hc hzz (Nat.le_trans hg.1 hcR) (Nat.le_trans hg.2 hsR) fun H2 locs2 cells2 slots2 e1 hS2 hP2 hc2 hz2 => ?_
                subst e1
                exact ih _ _ _ _ _ _ _ _ hr p e R s m args below meth c H2 locs2 cells2 slots2 Q ls h0 z0 hF' hK hRO hs0 hS2 hP2 hc2 hz2 hcR hsR hfr hlo hl hend
              · refine ka_s3_sound hs hd hx hb (hml.trans hl.2.1.symm) hown hts hK hS hP hc hzz (Nat.le_trans hg.1 hcR) (Nat.le_trans hg.2 hsR) hfr hlo fun H2 locs2 e1 hS2 hP2 hc2 hz2 => ?_
                subst e1
                exact ih _ _ _ _ _ _ _ _ hr p e R s m args below meth c H2 locs2 cells slots Q ls h0 z0 hF' hK hRO hs0 hS2 hP2 hc2 hz2 hcR hsR hfr hlo hl hend
          · cases hr
end
