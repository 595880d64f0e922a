/-! a small machine: its heap is a list of cells, a reference is a place in it (1000 and on: what was there before and nobody writes) -/
abbrev aC : Type := (Nat × List Value) ⊕ ((Nat × (Nat → Int32)) ⊕ (Nat × Nat × (Nat → Option Nat)))
abbrev aH : Type := List aC
abbrev aF : Type := Nat × List Value × List Value × aH
abbrev aS : Type := Nat × (Nat → Int32)
def ka_lk {α : Type} : List (Nat × α) → Nat → Option α
  | [], _ => none
  | (a, v) :: t, k => if a = k then some v else ka_lk t k
theorem ka_lk_mem {α : Type} {l : List (Nat × α)} {k : Nat} {v : α} (h : ka_lk l k = some v) : (k, v) ∈ l := by
  induction l with
  | nil => cases h
  | cons a t ih =>
    obtain ⟨a, w⟩ := a
    unfold ka_lk at h
    split at h
    · rename_i e
      cases h
      subst e
      exact List.mem_cons_self
    · exact List.mem_cons_of_mem _ (ih h)
def ka_nm (y : Nat) : MethodName := ((ka_M[y]?).map (fun q => q.1)).getD yL_law
def ka_by (y : Nat) : ByteArray := ((ka_M[y]?).map (fun q => q.2.1)).getD ByteArray.empty
def ka_ml (y : Nat) : Nat := ((ka_M[y]?).map (fun q => q.2.2.1)).getD 0
def ka_rt (y : Nat) : Option FieldType := ((ka_M[y]?).map (fun q => q.2.2.2.1)).getD none
def ka_na (y : Nat) : Nat := ((ka_M[y]?).map (fun q => q.2.2.2.2.1)).getD 0
def ka_ow (y : Nat) : Nat := ((ka_M[y]?).map (fun q => q.2.2.2.2.2.1)).getD 99
def ka_lq {α : Type} (l : List (Nat × α)) (y k : Nat) : Option α := if k < 65536 then ka_lk l (ka_ow y * 65536 + k) else none
def ka_tg (pc : Nat) (off : Int) : Option Nat := if 0 ≤ (pc : Int) + off then some ((pc : Int) + off).toNat else none
def ka_cc (c : Jvm.ClassFile.Cond) (x y : Int32) : Bool := match c with
  | .eq => decide (x = y)
  | .ne => decide (¬ x = y)
  | .lt => decide (x < y)
  | .ge => decide (y ≤ x)
  | .gt => decide (y < x)
  | .le => decide (x ≤ y)
def ka_if (b : Bool) (pc : Nat) (off : Int) (lv st : List Value) (h : aH) : Option aF := match ka_tg pc off with
  | none => none
  | some t => some (if b then t else pc + 3, lv, st, h)
/-- what is no value: a local that isn't there -/
abbrev ka_nv : Value := .retAddr 0
def ka_cl (v : Value) : Value := if v.category = 2 then ka_nv else v
def ka_clean (lv : List Value) : Nat → List Value
  | 0 => lv
  | i + 1 => match lv[i]? with
    | some v => lv.set i (ka_cl v)
    | none => lv
def ka_store (pc len i : Nat) (v : Value) (lv st : List Value) (h : aH) : Option aF :=
  if i < lv.length then some (pc + len, (ka_clean lv i).set i v, st, h) else none
def ka_load (pc len : Nat) (v : Option Value) (lv st : List Value) (h : aH) : Option aF := match v with
  | some (.int x) => some (pc + len, lv, .int x :: st, h)
  | some (.ref x) => some (pc + len, lv, .ref x :: st, h)
  | some (.long x) => some (pc + len, lv, .long x :: st, h)
  | _ => none
/-- static rows -/
def ka_RA : List (Nat × aS) := [(1001, 8, fun j => ([-1, -1, 5, 99, 999, 99, 9, 3] : List Int32).getD j 0), (1002, 7, fun j => ([-1, 0, 0, 0, 1, 2, 3] : List Int32).getD j 0), (1003, 4, fun j => ([40, 60, 80, 99] : List Int32).getD j 0), (1004, 7, fun j => ([9, 9, 9, 9, 9, 20, 12] : List Int32).getD j 0), (1005, 7, fun j => ([0, 0, 0, 0, 0, 0, 1] : List Int32).getD j 0), (1006, 28, fun j => ([10, 11, 12, 13, 10, 20, 12, 13, 30, 11, 12, 13, 10, 11, 40, 13, 10, 50, 12, 13, 30, 11, 12, 60, 10, 11, 70, 71] : List Int32).getD j 0)]
def ka_RB : List (Nat × aS) := [(1009, 4, fun j => ([117, 115, 116, 109] : List Int32).getD j 0), (1010, 4, fun j => ([98, 110, 112, 104] : List Int32).getD j 0)]
def ka_sf (a k : Nat) : Option Value := if k = 0 then (if a = 1007 then some (.ref 1009) else if a = 1008 then some (.ref 1010) else none) else (if a = 1007 ∨ a = 1008 then some (.int 0) else none)
def ka_ri (sc : aS) (a : Nat) : Option aS := if a = 1000 then some sc else ka_lk ka_RA a
def ka_ia (sc : aS) (h : aH) (a : Nat) : Option aS := if a < 1000 then (match h[a]? with
  | some (.inr (.inl q)) => some q
  | _ => none) else ka_ri sc a
def ka_al (sc : aS) (h : aH) (a : Nat) : Option Nat := if a < 1000 then (match h[a]? with
  | some (.inr (.inl q)) => some q.1
  | some (.inr (.inr q)) => if q.1 = 0 ∨ q.1 = 3 then some q.2.1 else none
  | _ => none) else match ka_ri sc a with
  | some q => some q.1
  | none => match ka_lk ka_RB a with
    | some q => some q.1
    | none => none
def ka_in (i : Int32) (n : Nat) : Prop := ¬ i < 0 ∧ i.toNatClampNeg < n
theorem ka_in_vp {i : Int32} {n : Nat} (h : ka_in i n) : vp_in i n := fun q => q.elim h.1 (Nat.not_le.mpr h.2)
def ka_fty (ci k : Nat) : FieldType := match ci with
  | 0 => tyX0 k | 1 => tyX1 k | 2 => tyX2 k | 3 => tyX3 k | 4 => tyX4 k | 5 => tyX5 k | 6 => tyX6 k | 7 => tyX7 k | _ => tyX8 k
def ka_FT (ci : Nat) : u_T := match ci with
  | 0 => TX0 | 1 => TX1 | 2 => TX2 | 3 => TX3 | 4 => TX4 | 5 => TX5 | 6 => TX6 | 7 => TX7 | _ => TX8
def ka_FN (ci : Nat) : Nat := match ci with
  | 0 => 9 | 1 => 7 | 2 => 4 | 3 => 3 | 4 => 16 | 5 => 3 | 6 => 5 | 7 => 10 | _ => 23
def ka_ok (ty : FieldType) (v : Value) : Bool := match v with
  | .int x => decide (narrow ty (.int x) = .int x) && fits ty (.int x)
  | .ref _ => (match ty with | .object _ => true | .array _ => true | _ => false)
  | _ => false
def ka_dv (ty : FieldType) : Value := match ty with
  | .object _ => .null
  | .array _ => .null
  | _ => .int 0
/-- the steps on locals and stack -/
def ka_s1 (y : Nat) (i : Instr) (len pc : Nat) (lv st : List Value) (h : aH) : Option aF := match i, st with
  | .iconst n, st => if len = 1 then some (pc + 1, lv, .int (Int32.ofInt n) :: st, h) else none
  | .bipush n, st => if len = 2 then some (pc + 2, lv, .int (Int8.ofInt n).toInt32 :: st, h) else none
  | .sipush n, st => if len = 3 then some (pc + 3, lv, .int (Int16.ofInt n).toInt32 :: st, h) else none
  | .lconst n, st => if len = 1 then some (pc + 1, lv, .long (Int64.ofNat (n : Nat)) :: st, h) else none
  | .iload_n k, st => if len = 1 then (match lv[(k : Nat)]? with | some (.int x) => some (pc + 1, lv, .int x :: st, h) | _ => none) else none
  | .iload k, st => if len = 2 then (match lv[k]? with | some (.int x) => some (pc + 2, lv, .int x :: st, h) | _ => none) else none
  | .lload_n k, st => if len = 1 then (match lv[(k : Nat)]? with | some (.long x) => some (pc + 1, lv, .long x :: st, h) | _ => none) else none
  | .lload k, st => if len = 2 then (match lv[k]? with | some (.long x) => some (pc + 2, lv, .long x :: st, h) | _ => none) else none
  | .aload_n k, st => if len = 1 then (match lv[(k : Nat)]? with | some (.ref x) => some (pc + 1, lv, .ref x :: st, h) | _ => none) else none
  | .aload k, st => if len = 2 then (match lv[k]? with | some (.ref x) => some (pc + 2, lv, .ref x :: st, h) | _ => none) else none
  | .istore_n k, .int x :: st => if len = 1 then ka_store pc 1 k (.int x) lv st h else none
  | .istore k, .int x :: st => if len = 2 then ka_store pc 2 k (.int x) lv st h else none
  | .astore_n k, .ref x :: st => if len = 1 then ka_store pc 1 k (.ref x) lv st h else none
  | .astore k, .ref x :: st => if len = 2 then ka_store pc 2 k (.ref x) lv st h else none
  | .iinc k n, st => if len = 3 then (match lv[k]? with | some (.int x) => ka_store pc 3 k (.int (x + Int32.ofInt n)) lv st h | _ => none) else none
  | .iadd, .int b :: .int a :: st => if len = 1 then some (pc + 1, lv, .int (a + b) :: st, h) else none
  | .isub, .int b :: .int a :: st => if len = 1 then some (pc + 1, lv, .int (a - b) :: st, h) else none
  | .imul, .int b :: .int a :: st => if len = 1 then some (pc + 1, lv, .int (a * b) :: st, h) else none
  | .idiv, .int b :: .int a :: st => if len = 1 ∧ ¬ b = 0 then some (pc + 1, lv, .int (a / b) :: st, h) else none
  | .irem, .int b :: .int a :: st => if len = 1 ∧ ¬ b = 0 then some (pc + 1, lv, .int (a - a / b * b) :: st, h) else none
  | .ineg, .int a :: st => if len = 1 then some (pc + 1, lv, .int (-a) :: st, h) else none
  | .iand, .int b :: .int a :: st => if len = 1 then some (pc + 1, lv, .int (a &&& b) :: st, h) else none
  | .ixor, .int b :: .int a :: st => if len = 1 then some (pc + 1, lv, .int (a ^^^ b) :: st, h) else none
  | .ishl, .int b :: .int a :: st => if len = 1 then some (pc + 1, lv, .int (a <<< (b &&& 31)) :: st, h) else none
  | .ishr, .int b :: .int a :: st => if len = 1 then some (pc + 1, lv, .int (a >>> (b &&& 31)) :: st, h) else none
  | .iushr, .int b :: .int a :: st => if len = 1 then some (pc + 1, lv, .int (a.toUInt32 >>> (b.toUInt32 &&& Int32.toUInt32 31)).toInt32 :: st, h) else none
  | .land, .long b :: .long a :: st => if len = 1 then some (pc + 1, lv, .long (a &&& b) :: st, h) else none
  | .lor, .long b :: .long a :: st => if len = 1 then some (pc + 1, lv, .long (a ||| b) :: st, h) else none
  | .lshl, .int b :: .long a :: st => if len = 1 then some (pc + 1, lv, .long (a <<< (b.toInt64 &&& 63)) :: st, h) else none
  | .lshr, .int b :: .long a :: st => if len = 1 then some (pc + 1, lv, .long (a >>> (b.toInt64 &&& 63)) :: st, h) else none
  | .lushr, .int b :: .long a :: st => if len = 1 then some (pc + 1, lv, .long (a.toUInt64 >>> (b.toInt64.toUInt64 &&& Int64.toUInt64 63)).toInt64 :: st, h) else none
  | .lcmp, .long b :: .long a :: st => if len = 1 then some (pc + 1, lv, .int (lg_cmp a b) :: st, h) else none
  | .i2l, .int a :: st => if len = 1 then some (pc + 1, lv, .long a.toInt64 :: st, h) else none
  | .l2i, .long a :: st => if len = 1 then some (pc + 1, lv, .int a.toInt32 :: st, h) else none
  | .i2b, .int a :: st => if len = 1 then some (pc + 1, lv, .int a.toInt8.toInt32 :: st, h) else none
  | .i2s, .int a :: st => if len = 1 then some (pc + 1, lv, .int a.toInt16.toInt32 :: st, h) else none
  | .i2c, .int a :: st => if len = 1 then some (pc + 1, lv, .int (a.toUInt32 % 65536).toInt32 :: st, h) else none
  | .dup, .ref a :: st => if len = 1 then some (pc + 1, lv, .ref a :: .ref a :: st, h) else none
  | .dup, .int a :: st => if len = 1 then some (pc + 1, lv, .int a :: .int a :: st, h) else none
  | .dup2, .int b :: .ref a :: st => if len = 1 then some (pc + 1, lv, .int b :: .ref a :: .int b :: .ref a :: st, h) else none
  | .pop, .int a :: st => if len = 1 then some (pc + 1, lv, st, h) else none
  | .ifCond c off, .int x :: st => if len = 3 then ka_if (ka_cc c x 0) pc off lv st h else none
  | .if_icmp c off, .int z :: .int x :: st => if len = 3 then ka_if (ka_cc c x z) pc off lv st h else none
  | .goto off, st => if len = 3 then (match ka_tg pc off with | some t => some (t, lv, st, h) | none => none) else none
  | .tableswitch dflt lo hi offs, .int x :: st => if x.toInt < lo ∨ hi < x.toInt then (match ka_tg pc dflt with | some t => some (t, lv, st, h) | none => none) else (match offs[(x.toInt - lo).toNat]? with
    | some off => (match ka_tg pc off with | some t => some (t, lv, st, h) | none => none)
    | none => none)
  | .lookupswitch dflt ps, .int x :: st => if (ps.toList.zip (ps.toList.drop 1)).all (fun (a, next) => a.1 < next.1) = true then (match ka_tg pc (Op.lookupswitch.offset ps.toList dflt x.toInt) with | some t => some (t, lv, st, h) | none => none) else none
  | .ldc k, st => if len = 2 then (match ka_lq ka_L y k with
    | some q => some (pc + 2, lv, .int q.1 :: st, h)
    | none => match ka_lq ka_LS y k with
      | some q => some (pc + 2, lv, .ref q.1 :: st, h)
      | none => none) else none
  | .ldc_w k, st => if len = 3 then (match ka_lq ka_L y k with
    | some q => some (pc + 3, lv, .int q.1 :: st, h)
    | none => none) else none
  | .ldc2_w k, st => if len = 3 then (match ka_lq ka_L2 y k with
    | some q => some (pc + 3, lv, .long q.1 :: st, h)
    | none => none) else none
  | .getstatic k, st => if len = 3 then (match ka_lq ka_G y k with
    | some q => some (pc + 3, lv, q.1 :: st, h)
    | none => none) else none
  | _, _ => none
/-- the steps on the heap -/
def ka_s2 (sc : aS) (y : Nat) (i : Instr) (len pc : Nat) (lv st : List Value) (h : aH) : Option aF := match i, st with
  | .getfield k, .ref a :: st => if len = 3 then (match ka_lq ka_F y k with
    | some q => if q.1 = 100 then (match ka_sf a q.2.1 with
        | some v => some (pc + 3, lv, v :: st, h)
        | none => none)
      else if a < 1000 then (match h[a]? with
        | some (.inl (c2, fs)) => if c2 = q.1 then (match fs[q.2.1]? with
          | some v => some (pc + 3, lv, v :: st, h)
          | none => none) else none
        | _ => none) else none
    | none => none) else none
  | .putfield k, v :: .ref a :: st => if len = 3 ∧ a < 1000 then (match ka_lq ka_F y k with
    | some q => (match h[a]? with
        | some (.inl (c2, fs)) => if c2 = q.1 ∧ q.2.1 < fs.length ∧ q.2.1 < ka_FN q.1 ∧ q.1 < 9 ∧ ka_ok (ka_fty q.1 q.2.1) v = true ∧ ((ka_FT q.1 q.2.1).2.2.2 = true → (ka_nm y).name = "<init>" ∧ ka_ow y = q.1) then some (pc + 3, lv, st, h.set a (.inl (c2, fs.set q.2.1 v))) else none
        | _ => none)
    | none => none) else none
  | .iaload, .int j :: .ref a :: st => if len = 1 then (match ka_ia sc h a with
    | some (n, f) => if ¬ j < 0 ∧ j.toNatClampNeg < n then some (pc + 1, lv, .int (f j.toNatClampNeg) :: st, h) else none
    | none => none) else none
  | .baload, .int j :: .ref a :: st => if len = 1 then (match ka_lk ka_RB a with
    | some (n, f) => if ¬ j < 0 ∧ j.toNatClampNeg < n then some (pc + 1, lv, .int (f j.toNatClampNeg) :: st, h) else none
    | none => none) else none
  | .iastore, .int x :: .int j :: .ref a :: st => if len = 1 ∧ a < 1000 then (match h[a]? with
    | some (.inr (.inl (n, f))) => if ¬ j < 0 ∧ j.toNatClampNeg < n then some (pc + 1, lv, st, h.set a (.inr (.inl (n, va_up f j.toNatClampNeg x)))) else none
    | _ => none) else none
  | .aaload, .int j :: .ref a :: st => if len = 1 ∧ a < 1000 then (match h[a]? with
    | some (.inr (.inr (e, n, f))) => if (e = 0 ∨ e = 3) ∧ ¬ j < 0 ∧ j.toNatClampNeg < n then (match f j.toNatClampNeg with
      | some b => some (pc + 1, lv, .ref b :: st, h)
      | none => none) else none
    | _ => none) else none
  | .aastore, .ref b :: .int j :: .ref a :: st => if len = 1 ∧ a < 1000 ∧ b < 1000 then (match h[a]? with
    | some (.inr (.inr (e, n, f))) => (match h[b]? with
      | some (.inl (c2, fs)) => if (e = 0 ∨ e = 3) ∧ ¬ j < 0 ∧ j.toNatClampNeg < n ∧ c2 = e then some (pc + 1, lv, st, h.set a (.inr (.inr (e, n, va_up f j.toNatClampNeg (some b))))) else none
      | _ => none)
    | _ => none) else none
  | .arraylength, .ref a :: st => if len = 1 then (match ka_al sc h a with
    | some n => some (pc + 1, lv, .int (Int32.ofNat n) :: st, h)
    | none => none) else none
  | .new k, st => if len = 3 ∧ h.length < 999 then (match ka_lq ka_N y k with
    | some q => if q.1 < 9 then some (pc + 3, lv, .ref h.length :: st, h ++ [.inl (q.1, (List.range (ka_FN q.1)).map (fun j => ka_dv (ka_fty q.1 j)))]) else none
    | none => none) else none
  | .newarray t, .int n :: st => if len = 2 ∧ h.length < 999 ∧ t = .int ∧ ¬ n < 0 ∧ n.toNatClampNeg ≤ 1000 then some (pc + 2, lv, .ref h.length :: st, h ++ [.inr (.inl (n.toNatClampNeg, fun _ => 0))]) else none
  | .anewarray k, .int n :: st => if len = 3 ∧ h.length < 999 ∧ ¬ n < 0 ∧ n.toNatClampNeg ≤ 1000 then (match ka_lq ka_N y k with
    | some q => if q.1 = 0 ∨ q.1 = 3 then some (pc + 3, lv, .ref h.length :: st, h ++ [.inr (.inr (q.1, n.toNatClampNeg, fun _ => none))]) else none
    | none => none) else none
  | _, _ => none
def ka_cp (pc : Nat) (lv : List Value) (n dp : Int32) (st : List Value) (h : aH) : Option aF := match st with
  | .ref a :: .int sp :: .ref b :: st => if st.length ≤ 4 ∧ a < 1000 ∧ b < 1000 then (match h[b]? with
    | some (.inr (.inl (n0, f))) => (match h[a]? with
      | some (.inr (.inl (n1, g))) => if ¬ sp < 0 ∧ ¬ dp < 0 ∧ ¬ n < 0 ∧ sp.toNatClampNeg + n.toNatClampNeg ≤ n0 ∧ dp.toNatClampNeg + n.toNatClampNeg ≤ n1 then some (pc + 3, lv, st, h.set a (.inr (.inl (n1, va_cpy f g sp.toNatClampNeg dp.toNatClampNeg n.toNatClampNeg)))) else none
      | _ => none)
    | _ => none) else none
  | _ => none
/-- the calls that are one step: Object's constructor, max, min, arraycopy -/
def ka_s3 (d y : Nat) (i : Instr) (len pc : Nat) (lv st : List Value) (h : aH) : Option aF := match i, st with
  | .invokespecial k, .ref a :: st => if len = 3 ∧ 1 ≤ d ∧ st.length ≤ 4 then (match ka_lq ka_C y k with
    | some q => if q.1 = 3 then some (pc + 3, lv, st, h) else none
    | none => none) else none
  | .invokestatic k, .int b :: .int a :: st => if len = 3 ∧ 1 ≤ d then (match ka_lq ka_C y k with
    | some q => if q.1 = 4 then (if st.length ≤ 4 then some (pc + 3, lv, .int (if a < b then b else a) :: st, h) else none) else if q.1 = 5 then (if st.length ≤ 4 then some (pc + 3, lv, .int (if b < a then b else a) :: st, h) else none) else if q.1 = 6 then ka_cp pc lv b a st h else none
    | none => none) else none
  | _, _ => none
def ka_stp (sc : aS) (d y : Nat) (i : Instr) (len pc : Nat) (lv st : List Value) (h : aH) : Option aF := match ka_s1 y i len pc lv st h with
  | some f => some f
  | none => match ka_s2 sc y i len pc lv st h with
    | some f => some f
    | none => ka_s3 d y i len pc lv st h
def ka_ret (y : Nat) (i : Instr) (len : Nat) (st : List Value) : Option (Option Value) := match i, st with
  | .ireturn, [.int v] => if len = 1 then (match ka_rt y with
    | some ty => if narrow ty (.int v) = .int v then some (some (.int v)) else none
    | none => none) else none
  | .return_, [] => if len = 1 ∧ ka_rt y = none then some none else none
  | .areturn, [.ref a] => if len = 1 then (match ka_rt y with
    | some (.object _) => some (some (.ref a))
    | _ => none) else none
  | _, _ => none
def ka_sl (vs : List Value) : List Value := vs.flatMap fun v => if v.category = 2 then [v, ka_nv] else [v]
def ka_ent (z : Nat) (vs : List Value) : List Value := ka_sl vs ++ List.replicate (ka_ml z - (ka_sl vs).length) ka_nv
/-- the receiver is an object of the method's class -/
def ka_rc (h : aH) (a o : Nat) : Bool := if a < 1000 then (match h[a]? with
    | some (.inl (c2, _)) => decide (c2 = o ∧ o < 9)
    | _ => false) else decide (o = 10 ∧ (a = 1007 ∨ a = 1008))
/-- what may lie on the stack under a call's arguments -/
def ka_r8 (rest : List Value) : Bool := decide (rest.length ≤ 4) || (decide (rest.length ≤ 8) && rest.all (fun v => decide (v.category = 1)))
def ka_cal (y : Nat) (i : Instr) (len : Nat) (st : List Value) (h : aH) : Option (Nat × List Value × List Value) := match i with
  | .invokestatic k => if len = 3 then (match ka_lq ka_C y k with
    | some q => if (q.1 = 0 ∨ q.1 = 10) ∧ ka_na q.2.1 ≤ st.length ∧ ka_r8 (st.drop (ka_na q.2.1)) = true ∧ (ka_sl (st.take (ka_na q.2.1)).reverse).length ≤ ka_ml q.2.1 then some (q.2.1, (st.take (ka_na q.2.1)).reverse, st.drop (ka_na q.2.1)) else none
    | none => none) else none
  | .invokevirtual k => if len = 3 then (match ka_lq ka_C y k with
    | some q => (match st.drop (ka_na q.2.1) with
      | .ref a :: rest => if q.1 = 1 ∧ ka_r8 rest = true ∧ ka_rc h a (ka_ow q.2.1) = true ∧ (ka_sl (.ref a :: (st.take (ka_na q.2.1)).reverse)).length ≤ ka_ml q.2.1 then some (q.2.1, .ref a :: (st.take (ka_na q.2.1)).reverse, rest) else none
      | _ => none)
    | none => none) else none
  | .invokespecial k => if len = 3 then (match ka_lq ka_C y k with
    | some q => (match st.drop (ka_na q.2.1) with
      | .ref a :: rest => if (q.1 = 2 ∨ q.1 = 12) ∧ ka_r8 rest = true ∧ (ka_sl (.ref a :: (st.take (ka_na q.2.1)).reverse)).length ≤ ka_ml q.2.1 then some (q.2.1, .ref a :: (st.take (ka_na q.2.1)).reverse, rest) else none
      | _ => none)
    | none => none) else none
  | _ => none
def ka_run (sc : aS) : Nat → Nat → Nat → Nat → List Value → List Value → aH → Option (Option Value × aH)
  | 0, _, _, _, _, _, _ => none
  | n + 1, d, y, pc, lv, st, h => match decode (ka_by y) pc with
    | .error _ => none
    | .ok (i, len) => match ka_ret y i len st with
      | some v => some (v, h)
      | none => match ka_cal y i len st h with
        | some (z, vs, rest) => (match d with
          | 0 => none
          | d + 1 => match ka_run sc n d z 0 (ka_ent z vs) [] h with
            | none => none
            | some (v, h2) => ka_run sc n (d + 1) y (pc + 3) lv (v.toList ++ rest) h2)
        | none => match ka_stp sc d y i len pc lv st h with
          | some (pc2, lv2, st2, h2) => ka_run sc n d y pc2 lv2 st2 h2
          | none => none
theorem ka_run_more (sc : aS) : ∀ (n : Nat) (d y pc : Nat) (lv st : List Value) (h : aH) (r : Option Value × aH), ka_run sc n d y pc lv st h = some r → ka_run sc (n + 1) d y pc lv st h = some r := by
  intro n
  induction n with
  | zero => intro d y pc lv st h r hr; cases hr
  | succ n ih =>
    intro d y pc lv st h r hr
    rw [ka_run] at hr ⊢
    cases hd : decode (ka_by y) pc with
    | error e => rw [hd] at hr; cases hr
    | ok il =>
      obtain ⟨i, len⟩ := il
      rw [hd] at hr
      simp only at hr ⊢
      cases hret : ka_ret y i len st with
      | some v => rw [hret] at hr; exact hr
      | none =>
        rw [hret] at hr
        simp only at hr ⊢
        cases hcal : ka_cal y i len st h with
        | some q =>
          obtain ⟨z, vs, rest⟩ := q
          rw [hcal] at hr
          simp only at hr ⊢
          cases d with
          | zero => cases hr
          | succ d =>
            simp only at hr ⊢
            cases hz : ka_run sc n d z 0 (ka_ent z vs) [] h with
            | none => rw [hz] at hr; cases hr
            | some w =>
              rw [hz] at hr
              rw [ih _ _ _ _ _ _ _ hz]
              exact ih _ _ _ _ _ _ _ hr
        | none =>
          rw [hcal] at hr
          simp only at hr ⊢
          cases hs : ka_stp sc d y i len pc lv st h with
          | none => rw [hs] at hr; cases hr
          | some f =>
            obtain ⟨pc2, lv2, st2, h2⟩ := f
            rw [hs] at hr
            exact ih _ _ _ _ _ _ _ hr
theorem ka_run_le (sc : aS) {n k d y pc : Nat} {lv st : List Value} {h : aH} {r : Option Value × aH} (hr : ka_run sc n d y pc lv st h = some r) (hk : n ≤ k) : ka_run sc k d y pc lv st h = some r := by
  induction hk with
  | refl => exact hr
  | step _ ih => exact ka_run_more sc _ _ _ _ _ _ _ _ ih
/-- what a frame comes to -/
noncomputable def ka_ex (sc : aS) (d y pc : Nat) (lv st : List Value) (h : aH) : Option (Option Value × aH) := @dite _ (∃ r n, ka_run sc n d y pc lv st h = some r) (Classical.propDecidable _) (fun hx => some hx.choose) (fun _ => none)
theorem ka_ex_iff {sc : aS} {d y pc : Nat} {lv st : List Value} {h : aH} {r : Option Value × aH} : ka_ex sc d y pc lv st h = some r ↔ ∃ n, ka_run sc n d y pc lv st h = some r := by
  unfold ka_ex
  constructor
  · intro e
    split at e
    · rename_i hx
      cases e
      exact hx.choose_spec
    · cases e
  · rintro ⟨n, hn⟩
    have hx : ∃ r n, ka_run sc n d y pc lv st h = some r := ⟨r, n, hn⟩
    rw [dif_pos hx]
    obtain ⟨k, hk⟩ := hx.choose_spec
    have h1 := ka_run_le sc hn (Nat.le_max_left n k)
    have h2 := ka_run_le sc hk (Nat.le_max_right n k)
    rw [h1] at h2
    exact h2.symm
theorem ka_ex_go {sc : aS} {d y pc : Nat} {lv st : List Value} {h : aH} {cc : ByteArray} {i : Instr} {len : Nat} {f : aF} (hb : ka_by y = cc) (hd : decode cc pc = .ok (i, len)) (h1 : ka_ret y i len st = none) (h2 : ka_cal y i len st h = none) (h3 : ka_stp sc d y i len pc lv st h = some f) : ka_ex sc d y pc lv st h = ka_ex sc d y f.1 f.2.1 f.2.2.1 f.2.2.2 := by
  subst hb
  obtain ⟨pc2, lv2, st2, hh2⟩ := f
  apply Option.ext
  intro r
  rw [ka_ex_iff, ka_ex_iff]
  constructor
  · rintro ⟨n, hn⟩
    cases n with
    | zero => cases hn
    | succ n =>
      rw [ka_run, hd] at hn
      simp only [h1, h2, h3] at hn
      exact ⟨n, hn⟩
  · rintro ⟨n, hn⟩
    refine ⟨n + 1, ?_⟩
    rw [ka_run, hd]
    simp only [h1, h2, h3]
    exact hn
theorem ka_ex_ret {sc : aS} {d y pc : Nat} {lv st : List Value} {h : aH} {cc : ByteArray} {i : Instr} {len : Nat} {v : Option Value} (hb : ka_by y = cc) (hd : decode cc pc = .ok (i, len)) (h1 : ka_ret y i len st = some v) : ka_ex sc d y pc lv st h = some (v, h) := by
  subst hb
  rw [ka_ex_iff]
  refine ⟨1, ?_⟩
  rw [ka_run, hd]
  simp only [h1]
theorem ka_ex_call {sc : aS} {d y pc : Nat} {lv st : List Value} {h : aH} {cc : ByteArray} {i : Instr} {len z : Nat} {vs rest : List Value} (hb : ka_by y = cc) (hd : decode cc pc = .ok (i, len)) (h1 : ka_ret y i len st = none) (h2 : ka_cal y i len st h = some (z, vs, rest)) : ka_ex sc (d + 1) y pc lv st h = (ka_ex sc d z 0 (ka_ent z vs) [] h).bind (fun w => ka_ex sc (d + 1) y (pc + 3) lv (w.1.toList ++ rest) w.2) := by
  subst hb
  apply Option.ext
  intro r
  rw [ka_ex_iff]
  constructor
  · rintro ⟨n, hn⟩
    cases n with
    | zero => cases hn
    | succ n =>
      rw [ka_run, hd] at hn
      simp only [h1, h2] at hn
      cases hz : ka_run sc n d z 0 (ka_ent z vs) [] h with
      | none => rw [hz] at hn; cases hn
      | some w =>
        rw [hz] at hn
        have e1 : ka_ex sc d z 0 (ka_ent z vs) [] h = some w := ka_ex_iff.mpr ⟨n, hz⟩
        rw [e1]
        exact ka_ex_iff.mpr ⟨n, hn⟩
  · intro hr
    cases e1 : ka_ex sc d z 0 (ka_ent z vs) [] h with
    | none => rw [e1] at hr; cases hr
    | some w =>
      rw [e1] at hr
      obtain ⟨n, hn⟩ := ka_ex_iff.mp e1
      obtain ⟨k, hk⟩ := ka_ex_iff.mp (show ka_ex sc (d + 1) y (pc + 3) lv (w.1.toList ++ rest) w.2 = some r from hr)
      refine ⟨max n k + 1, ?_⟩
      rw [ka_run, hd]
      simp only [h1, h2, ka_run_le sc hn (Nat.le_max_left n k)]
      exact ka_run_le sc hk (Nat.le_max_right n k)
