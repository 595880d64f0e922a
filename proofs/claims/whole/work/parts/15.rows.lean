/-! rows for the machine's instructions over the heap of memory X: what the printed rows stand on -/
section
variable {sc : aS} {d y pc : Nat} {lv st : List Value} {cc : ByteArray} {X : ka_X} {h : aH}
theorem ka_br {i : Instr} {len t : Nat} {off : Int} {b : Bool} {P : Prop} [Decidable P] {st0 : List Value} (hb : ka_by y = cc) (hd : decode cc pc = .ok (i, len)) (h1 : ka_ret y i len st0 = none) (h2 : ka_cal y i len st0 h = none) (h3 : ka_s1 y i len pc lv st0 h = ka_if b pc off lv st h) (ht : ka_tg pc off = some t) (hP : b = true ↔ P) : ka_ex sc d y pc lv st0 h = if P then ka_ex sc d y t lv st h else ka_ex sc d y (pc + 3) lv st h := by
  have e : ka_stp sc d y i len pc lv st0 h = some (if b then t else pc + 3, lv, st, h) := by
    rw [ka_stp, h3, ka_if, ht]
  rw [ka_go hb hd h1 h2 e]
  by_cases q : P
  · rw [if_pos q, if_pos (hP.mpr q)]
  · rw [if_neg q, if_neg (fun z => q (hP.mp z))]
theorem ka_nlt {a b : Int32} : ¬ a < b ↔ b ≤ a := Int32.not_lt
theorem ka_sw {P : Prop} [Decidable P] {α : Type} {a b : α} : (if ¬ P then a else b) = if P then b else a := by
  by_cases h : P
  · rw [if_pos h, if_neg (fun z => z h)]
  · rw [if_neg h, if_pos h]
theorem ka_ic_eq {x z : Int32} {off : Int} {t : Nat} (hb : ka_by y = cc) (hd : decode cc pc = .ok (.if_icmp .eq off, 3)) (ht : ka_tg pc off = some t) : ka_ex sc d y pc lv (.int z :: .int x :: st) h = if x = z then ka_ex sc d y t lv st h else ka_ex sc d y (pc + 3) lv st h := ka_br (b := ka_cc .eq x z) hb hd rfl rfl rfl ht (by simp [ka_cc])
theorem ka_ic_ne {x z : Int32} {off : Int} {t : Nat} (hb : ka_by y = cc) (hd : decode cc pc = .ok (.if_icmp .ne off, 3)) (ht : ka_tg pc off = some t) : ka_ex sc d y pc lv (.int z :: .int x :: st) h = if x = z then ka_ex sc d y (pc + 3) lv st h else ka_ex sc d y t lv st h := (ka_br (b := ka_cc .ne x z) (P := ¬ x = z) hb hd rfl rfl rfl ht (by simp [ka_cc])).trans ka_sw
theorem ka_ic_lt {x z : Int32} {off : Int} {t : Nat} (hb : ka_by y = cc) (hd : decode cc pc = .ok (.if_icmp .lt off, 3)) (ht : ka_tg pc off = some t) : ka_ex sc d y pc lv (.int z :: .int x :: st) h = if x < z then ka_ex sc d y t lv st h else ka_ex sc d y (pc + 3) lv st h := ka_br (b := ka_cc .lt x z) hb hd rfl rfl rfl ht (by simp [ka_cc])
theorem ka_ic_ge {x z : Int32} {off : Int} {t : Nat} (hb : ka_by y = cc) (hd : decode cc pc = .ok (.if_icmp .ge off, 3)) (ht : ka_tg pc off = some t) : ka_ex sc d y pc lv (.int z :: .int x :: st) h = if x < z then ka_ex sc d y (pc + 3) lv st h else ka_ex sc d y t lv st h := (ka_br (b := ka_cc .ge x z) (P := ¬ x < z) hb hd rfl rfl rfl ht (by rw [ka_nlt]; simp [ka_cc])).trans ka_sw
theorem ka_ic_gt {x z : Int32} {off : Int} {t : Nat} (hb : ka_by y = cc) (hd : decode cc pc = .ok (.if_icmp .gt off, 3)) (ht : ka_tg pc off = some t) : ka_ex sc d y pc lv (.int z :: .int x :: st) h = if z < x then ka_ex sc d y t lv st h else ka_ex sc d y (pc + 3) lv st h := ka_br (b := ka_cc .gt x z) hb hd rfl rfl rfl ht (by simp [ka_cc])
theorem ka_ic_le {x z : Int32} {off : Int} {t : Nat} (hb : ka_by y = cc) (hd : decode cc pc = .ok (.if_icmp .le off, 3)) (ht : ka_tg pc off = some t) : ka_ex sc d y pc lv (.int z :: .int x :: st) h = if z < x then ka_ex sc d y (pc + 3) lv st h else ka_ex sc d y t lv st h := (ka_br (b := ka_cc .le x z) (P := ¬ z < x) hb hd rfl rfl rfl ht (by rw [ka_nlt]; simp [ka_cc])).trans ka_sw
theorem ka_i0_eq {x : Int32} {off : Int} {t : Nat} (hb : ka_by y = cc) (hd : decode cc pc = .ok (.ifCond .eq off, 3)) (ht : ka_tg pc off = some t) : ka_ex sc d y pc lv (.int x :: st) h = if x = 0 then ka_ex sc d y t lv st h else ka_ex sc d y (pc + 3) lv st h := ka_br (b := ka_cc .eq x 0) hb hd rfl rfl rfl ht (by simp [ka_cc])
theorem ka_i0_ne {x : Int32} {off : Int} {t : Nat} (hb : ka_by y = cc) (hd : decode cc pc = .ok (.ifCond .ne off, 3)) (ht : ka_tg pc off = some t) : ka_ex sc d y pc lv (.int x :: st) h = if x = 0 then ka_ex sc d y (pc + 3) lv st h else ka_ex sc d y t lv st h := (ka_br (b := ka_cc .ne x 0) (P := ¬ x = 0) hb hd rfl rfl rfl ht (by simp [ka_cc])).trans ka_sw
theorem ka_i0_lt {x : Int32} {off : Int} {t : Nat} (hb : ka_by y = cc) (hd : decode cc pc = .ok (.ifCond .lt off, 3)) (ht : ka_tg pc off = some t) : ka_ex sc d y pc lv (.int x :: st) h = if x < 0 then ka_ex sc d y t lv st h else ka_ex sc d y (pc + 3) lv st h := ka_br (b := ka_cc .lt x 0) hb hd rfl rfl rfl ht (by simp [ka_cc])
theorem ka_i0_ge {x : Int32} {off : Int} {t : Nat} (hb : ka_by y = cc) (hd : decode cc pc = .ok (.ifCond .ge off, 3)) (ht : ka_tg pc off = some t) : ka_ex sc d y pc lv (.int x :: st) h = if x < 0 then ka_ex sc d y (pc + 3) lv st h else ka_ex sc d y t lv st h := (ka_br (b := ka_cc .ge x 0) (P := ¬ x < 0) hb hd rfl rfl rfl ht (by rw [ka_nlt]; simp [ka_cc])).trans ka_sw
theorem ka_i0_gt {x : Int32} {off : Int} {t : Nat} (hb : ka_by y = cc) (hd : decode cc pc = .ok (.ifCond .gt off, 3)) (ht : ka_tg pc off = some t) : ka_ex sc d y pc lv (.int x :: st) h = if 0 < x then ka_ex sc d y t lv st h else ka_ex sc d y (pc + 3) lv st h := ka_br (b := ka_cc .gt x 0) hb hd rfl rfl rfl ht (by simp [ka_cc])
theorem ka_i0_le {x : Int32} {off : Int} {t : Nat} (hb : ka_by y = cc) (hd : decode cc pc = .ok (.ifCond .le off, 3)) (ht : ka_tg pc off = some t) : ka_ex sc d y pc lv (.int x :: st) h = if 0 < x then ka_ex sc d y (pc + 3) lv st h else ka_ex sc d y t lv st h := (ka_br (b := ka_cc .le x 0) (P := ¬ 0 < x) hb hd rfl rfl rfl ht (by rw [ka_nlt]; simp [ka_cc])).trans ka_sw
/-- a row of divisions -/
theorem ka_dv2 {a b : Int32} (hb : ka_by y = cc) (hd : decode cc pc = .ok (.idiv, 1)) (hn : ¬ b = 0) : ka_ex sc d y pc lv (.int b :: .int a :: st) h = ka_ex sc d y (pc + 1) lv (.int (a / b) :: st) h := ka_go hb hd rfl rfl (by rw [ka_stp, ka_s1, if_pos ⟨rfl, hn⟩])
theorem ka_rm2 {a b : Int32} (hb : ka_by y = cc) (hd : decode cc pc = .ok (.irem, 1)) (hn : ¬ b = 0) : ka_ex sc d y pc lv (.int b :: .int a :: st) h = ka_ex sc d y (pc + 1) lv (.int (a - a / b * b) :: st) h := ka_go hb hd rfl rfl (by rw [ka_stp, ka_s1, if_pos ⟨rfl, hn⟩])
/-- switches: by the targets -/
def ka_tsw (pc : Nat) (dflt lo hi : Int) (offs : Array Int) (x : Int32) : Option Nat := if x.toInt < lo ∨ hi < x.toInt then ka_tg pc dflt else (match offs[(x.toInt - lo).toNat]? with
  | some off => ka_tg pc off
  | none => none)
theorem ka_ts {x : Int32} {dflt lo hi : Int} {offs : Array Int} {len t : Nat} (hb : ka_by y = cc) (hd : decode cc pc = .ok (.tableswitch dflt lo hi offs, len)) (ht : ka_tsw pc dflt lo hi offs x = some t) : ka_ex sc d y pc lv (.int x :: st) h = ka_ex sc d y t lv st h := by
  refine ka_go hb hd rfl rfl ?_
  unfold ka_tsw at ht
  rw [ka_stp, ka_s1]
  by_cases q : x.toInt < lo ∨ hi < x.toInt
  · rw [if_pos q] at ht
    rw [if_pos q, ht]
  · rw [if_neg q] at ht
    rw [if_neg q]
    cases ho : offs[(x.toInt - lo).toNat]? with
    | none => rw [ho] at ht; cases ht
    | some off =>
      rw [ho] at ht
      simp only at ht ⊢
      rw [ht]
theorem ka_ls {x : Int32} {dflt : Int} {ps : Array (Int × Int)} {len t : Nat} (hb : ka_by y = cc) (hd : decode cc pc = .ok (.lookupswitch dflt ps, len)) (hp : (ps.toList.zip (ps.toList.drop 1)).all (fun (a, next) => a.1 < next.1) = true) (ht : ka_tg pc (Op.lookupswitch.offset ps.toList dflt x.toInt) = some t) : ka_ex sc d y pc lv (.int x :: st) h = ka_ex sc d y t lv st h := by
  refine ka_go hb hd rfl rfl ?_
  rw [ka_stp, ka_s1, if_pos hp, ht]
/-- returns -/
theorem ka_ri1 {v : Int32} (hb : ka_by y = cc) (hd : decode cc pc = .ok (.ireturn, 1)) (hr : ka_rt y = some .int) : ka_ex sc d y pc lv [.int v] h = some (some (.int v), h) := ka_ex_ret hb hd (by simp [ka_ret, hr, narrow])
theorem ka_rz1 {v : Int32} (hb : ka_by y = cc) (hd : decode cc pc = .ok (.ireturn, 1)) (hr : ka_rt y = some .boolean) (hv : v = 0 ∨ v = 1) : ka_ex sc d y pc lv [.int v] h = some (some (.int v), h) := ka_ex_ret hb hd (by rcases hv with rfl | rfl <;> (simp only [ka_ret, hr]; rfl))
theorem ka_rb1 (hb : ka_by y = cc) (hd : decode cc pc = .ok (.ireturn, 1)) (hr : ka_rt y = some .byte) : ka_ex sc d y pc lv [.int 0] h = some (some (.int 0), h) := ka_ex_ret hb hd (by simp only [ka_ret, hr]; rfl)
/-- calls -/
noncomputable def ka_kk (r : Option (Option Value × aH)) (sc : aS) (d y pc : Nat) (lv st : List Value) : Option (Option Value × aH) := r.bind (fun w => ka_ex sc d y pc lv (w.1.toList ++ st) w.2)
theorem ka_kk_i {v : Value} : ka_kk (some (some v, h)) sc d y pc lv st = ka_ex sc d y pc lv (v :: st) h := rfl
theorem ka_kk_n : ka_kk (some (none, h)) sc d y pc lv st = ka_ex sc d y pc lv st h := rfl
theorem ka_cs {k z : Nat} {q : Nat × Nat × Nat × Nat} {kd : Nat} {as rest : List Value} (hb : ka_by y = cc) (hd : decode cc pc = .ok (.invokestatic k, 3)) (hq : ka_lq ka_C y k = some (kd, z, q)) (hk : kd = 0 ∨ kd = 10) (hn : as.length = ka_na z) (hr : ka_r8 rest = true) (hl : (ka_sl as.reverse).length ≤ ka_ml z) : ka_ex sc (d + 1) y pc lv (as ++ rest) h = ka_kk (ka_ex sc d z 0 (ka_ent z as.reverse) [] h) sc (d + 1) y (pc + 3) lv rest := by
  refine ka_ex_call hb hd rfl ?_
  have h1 : (as ++ rest).take (ka_na z) = as := by rw [← hn]; simp
  have h2 : (as ++ rest).drop (ka_na z) = rest := by rw [← hn]; simp
  simp only [ka_cal, hq, if_true, h1, h2]
  rw [if_pos ⟨hk, by rw [List.length_append]; omega, hr, hl⟩]
theorem ka_cv {k z p : Nat} {q : Nat × Nat × Nat × Nat} {as rest : List Value} (hb : ka_by y = cc) (hd : decode cc pc = .ok (.invokevirtual k, 3)) (hq : ka_lq ka_C y k = some (1, z, q)) (hn : as.length = ka_na z) (hr : ka_r8 rest = true) (hl : (ka_sl (.ref p :: as.reverse)).length ≤ ka_ml z) (h9 : ka_ow z < 9) (hp : ka_k p = ka_ow z) : ka_ex sc (d + 1) y pc lv (as ++ .ref p :: rest) (ka_mem X) = ka_kk (ka_ex sc d z 0 (ka_ent z (.ref p :: as.reverse)) [] (ka_mem X)) sc (d + 1) y (pc + 3) lv rest := by
  obtain ⟨ks, hs, -, hlt, -⟩ := ka_obj hp h9
  refine ka_ex_call hb hd rfl ?_
  have h1 : (as ++ .ref p :: rest).take (ka_na z) = as := by rw [← hn]; simp
  have h2 : (as ++ .ref p :: rest).drop (ka_na z) = .ref p :: rest := by rw [← hn]; simp
  have hrc : ka_rc (ka_mem X) p (ka_ow z) = true := by
    unfold ka_rc
    rw [if_pos (show p < 1000 by omega), ka_mem_at hs]
    simp [ka_fi, h9]
  simp only [ka_cal, hq, if_true, h1, h2]
  rw [if_pos ⟨trivial, hr, hrc, hl⟩]
theorem ka_cvs {k z p : Nat} {q : Nat × Nat × Nat × Nat} {as rest : List Value} (hb : ka_by y = cc) (hd : decode cc pc = .ok (.invokevirtual k, 3)) (hq : ka_lq ka_C y k = some (1, z, q)) (hn : as.length = ka_na z) (hr : ka_r8 rest = true) (hl : (ka_sl (.ref p :: as.reverse)).length ≤ ka_ml z) (h9 : ka_ow z = 10) (hp : p = 1007 ∨ p = 1008) : ka_ex sc (d + 1) y pc lv (as ++ .ref p :: rest) h = ka_kk (ka_ex sc d z 0 (ka_ent z (.ref p :: as.reverse)) [] h) sc (d + 1) y (pc + 3) lv rest := by
  refine ka_ex_call hb hd rfl ?_
  have h1 : (as ++ .ref p :: rest).take (ka_na z) = as := by rw [← hn]; simp
  have h2 : (as ++ .ref p :: rest).drop (ka_na z) = .ref p :: rest := by rw [← hn]; simp
  have hrc : ka_rc h p (ka_ow z) = true := by
    unfold ka_rc
    rw [if_neg (show ¬ p < 1000 by omega)]
    simp [h9, hp]
  simp only [ka_cal, hq, if_true, h1, h2]
  rw [if_pos ⟨trivial, hr, hrc, hl⟩]
/-- max and min -/
theorem ka_mx {a b : Int32} {k w : Nat} {q : Nat × Nat × Nat × Nat} (hb : ka_by y = cc) (hd : decode cc pc = .ok (.invokestatic k, 3)) (hq : ka_lq ka_C y k = some (4, w, q)) (hst : st.length ≤ 4) : ka_ex sc (d + 1) y pc lv (.int b :: .int a :: st) h = ka_ex sc (d + 1) y (pc + 3) lv (.int (if a < b then b else a) :: st) h := by
  refine ka_go hb hd rfl ?_ ?_
  · simp only [ka_cal, hq, if_true]
    rw [if_neg (fun z => by omega)]
  · have h2 : ka_s1 y (.invokestatic k) 3 pc lv (.int b :: .int a :: st) h = none := rfl
    have h3 : ka_s2 sc y (.invokestatic k) 3 pc lv (.int b :: .int a :: st) h = none := rfl
    rw [ka_stp, h2, h3]
    simp only [ka_s3, hq, if_true]
    rw [if_pos ⟨trivial, by omega⟩, if_pos hst]
theorem ka_mn {a b : Int32} {k w : Nat} {q : Nat × Nat × Nat × Nat} (hb : ka_by y = cc) (hd : decode cc pc = .ok (.invokestatic k, 3)) (hq : ka_lq ka_C y k = some (5, w, q)) (hst : st.length ≤ 4) : ka_ex sc (d + 1) y pc lv (.int b :: .int a :: st) h = ka_ex sc (d + 1) y (pc + 3) lv (.int (if b < a then b else a) :: st) h := by
  refine ka_go hb hd rfl ?_ ?_
  · simp only [ka_cal, hq, if_true]
    rw [if_neg (fun z => by omega)]
  · have h2 : ka_s1 y (.invokestatic k) 3 pc lv (.int b :: .int a :: st) h = none := rfl
    have h3 : ka_s2 sc y (.invokestatic k) 3 pc lv (.int b :: .int a :: st) h = none := rfl
    rw [ka_stp, h2, h3]
    simp only [ka_s3, hq, if_true]
    rw [if_pos ⟨trivial, by omega⟩, if_neg (show ¬ (5 : Nat) = 4 by decide), if_pos hst]
/-- lengths and elements of what was there before -/
theorem ka_lenro {p n : Nat} {f : Nat → Int32} (hb : ka_by y = cc) (hd : decode cc pc = .ok (.arraylength, 1)) (hp : ka_ri sc p = some (n, f)) (h1 : 1000 ≤ p) : ka_ex sc d y pc lv (.ref p :: st) h = ka_ex sc d y (pc + 1) lv (.int (nI n) :: st) h := by
  refine ka_go hb hd rfl rfl ?_
  have h2 : ka_s1 y .arraylength 1 pc lv (.ref p :: st) h = none := rfl
  have hal : ka_al sc h p = some n := by
    unfold ka_al
    rw [if_neg (show ¬ p < 1000 by omega), hp]
  rw [ka_stp, h2]
  simp only [ka_s2, hal, if_true]
  rfl
theorem ka_lb {p n : Nat} {f : Nat → Int32} {j : Int32} (hb : ka_by y = cc) (hd : decode cc pc = .ok (.baload, 1)) (hp : ka_lk ka_RB p = some (n, f)) (hj : ka_in j n) : ka_ex sc d y pc lv (.int j :: .ref p :: st) h = ka_ex sc d y (pc + 1) lv (.int (f j.toNatClampNeg) :: st) h := by
  refine ka_go hb hd rfl rfl ?_
  have h2 : ka_s1 y .baload 1 pc lv (.int j :: .ref p :: st) h = none := rfl
  rw [ka_stp, h2]
  simp only [ka_s2, hp, if_true]
  rw [if_pos (show ¬ j < 0 ∧ j.toNatClampNeg < n from hj)]
theorem ka_cl_i {x : Int32} : ka_cl (.int x) = .int x := rfl
theorem ka_cl_r {x : Nat} : ka_cl (.ref x) = .ref x := rfl
theorem ka_cl_n {x : Nat} : ka_cl (.retAddr x) = .retAddr x := rfl
theorem ka_cl_l {x : Int64} : ka_cl (.long x) = ka_nv := rfl
end
