/-! the words of the tables behind the numbers -/
def ka_T : List Jvm.Cond := lw_tbl.filter goodWord
theorem ka_T_of {w : Jvm.Cond} {i : Nat} (h : lw_tbl[i]? = some w) (g : goodWord w = true) : w ∈ ka_T := List.mem_filter.mpr ⟨List.mem_of_getElem? h, g⟩
theorem ka_T_good : GoodIn ka_T ka_T := fun _ h => ⟨h, good_of_word (List.mem_filter.mp h).2⟩
theorem ka_T_in {w : Jvm.Cond} (h : w ∈ ka_T) : w ∈ lw_tbl := (List.mem_filter.mp h).1
def ka_cnk (k : Nat) : String := (ka_on[k / 65536]?).getD ""
def ka_cn (y : Nat) : String := (ka_on[ka_ow y]?).getD ""
def ka_fd (ci k : Nat) : String × String × String := if ci = 100 then (if k = 0 then ("java/lang/String", "value", "[B") else ("java/lang/String", "coder", "B")) else ((ka_FT ci k).1, (ka_FT ci k).2.1, (ka_FT ci k).2.2.1)
def ka_Fw (e : Nat × Nat × Nat × Nat) : Jvm.Cond := .fieldLink (ka_cnk e.1) (e.1 % 65536) (ka_fd e.2.1 e.2.2.1).1 (ka_fd e.2.1 e.2.2.1).2.1 (ka_fd e.2.1 e.2.2.1).2.2
theorem ka_F_all : ka_F.all (fun e => decide (lw_tbl[e.2.2.2]? = some (ka_Fw e)) && decide (e.2.1 = 100 ∧ e.2.2.1 < 2 ∨ e.2.1 < 9 ∧ e.2.2.1 < ka_FN e.2.1 ∧ (ka_FT e.2.1 e.2.2.1).1 = (ka_on[e.2.1]?).getD "")) = true := by decide +kernel
def ka_Lw (e : Nat × Int32 × Nat) : Jvm.Cond := .constant (ka_cnk e.1) (e.1 % 65536) e.2.1
theorem ka_L_all : ka_L.all (fun e => decide (lw_tbl[e.2.2]? = some (ka_Lw e))) = true := by decide +kernel
def ka_L2w (e : Nat × Int64 × Nat) : Jvm.Cond := .constantLong (ka_cnk e.1) (e.1 % 65536) e.2.1
theorem ka_L2_all : ka_L2.all (fun e => decide (lw_tbl[e.2.2]? = some (ka_L2w e))) = true := by decide +kernel
def ka_Nw (e : Nat × Nat × Nat) : Jvm.Cond := .classLink (ka_cnk e.1) (e.1 % 65536) ((ka_on[e.2.1]?).getD "")
theorem ka_N_all : ka_N.all (fun e => decide (lw_tbl[e.2.2]? = some (ka_Nw e)) && decide (e.2.1 < 9)) = true := by decide +kernel
/-- making an object of class ci -/
def ka_ip : List (Nat × Nat) := [(110, 64), (221, 65), (256, 66), (303, 68), (86, 62), (94, 63), (278, 67), (78, 61), (899, 69)]
theorem ka_ip_all : (List.range 9).all (fun ci => decide (lw_tbl[(ka_ip.getD ci (0, 0)).1]? = some (.instantiable ((ka_on[ci]?).getD "") (ka_FN ci))) && decide (lw_tbl[(ka_ip.getD ci (0, 0)).2]? = some (.initialized ((ka_on[ci]?).getD "")))) = true := by decide +kernel
def ka_Gw (e : Nat × Value × Nat × Nat × String × String × String) : Jvm.Cond := if e.2.2.1 = 1 then .fieldLinkNest (ka_cnk e.1) (e.1 % 65536) e.2.2.2.2.1 e.2.2.2.2.2.1 e.2.2.2.2.2.2 "KnifeDoors" else .fieldLink (ka_cnk e.1) (e.1 % 65536) e.2.2.2.2.1 e.2.2.2.2.2.1 e.2.2.2.2.2.2
theorem ka_G_all : ka_G.all (fun e => decide (lw_tbl[e.2.2.2.1]? = some (ka_Gw e))) = true := by decide +kernel
/-- calls: the link, static or instance, selects, initialized -/
def ka_Cl (e : Nat × Nat × Nat × Nat × Nat × Nat × Nat) : Jvm.Cond := if 10 ≤ e.2.1 then .methodLinkNest (ka_cnk e.1) (e.1 % 65536) (ka_nm e.2.2.1) "KnifeDoors" else .methodLink (ka_cnk e.1) (e.1 % 65536) (ka_nm e.2.2.1)
def ka_Cok (e : Nat × Nat × Nat × Nat × Nat × Nat × Nat) : Bool :=
  if e.2.1 = 3 then decide (lw_tbl[e.2.2.2.1]? = some (.methodLink (ka_cnk e.1) (e.1 % 65536) Lib.objectInit))
  else if e.2.1 = 4 then decide (lw_tbl[e.2.2.2.1]? = some (.methodLink (ka_cnk e.1) (e.1 % 65536) Lib.Math.max.name))
  else if e.2.1 = 5 then decide (lw_tbl[e.2.2.2.1]? = some (.methodLink (ka_cnk e.1) (e.1 % 65536) Lib.Math.min.name))
  else if e.2.1 = 6 then decide (lw_tbl[e.2.2.2.1]? = some (.methodLink (ka_cnk e.1) (e.1 % 65536) arraycopyName))
  else decide (e.2.2.1 < 211) && decide (lw_tbl[e.2.2.2.1]? = some (ka_Cl e)) && decide (lw_tbl[e.2.2.2.2.2.2]? = some (.initialized (ka_nm e.2.2.1).cls)) &&
    (if e.2.1 = 0 ∨ e.2.1 = 10 then decide (lw_tbl[e.2.2.2.2.1]? = some (.static (ka_nm e.2.2.1)))
     else if e.2.1 = 1 then decide (lw_tbl[e.2.2.2.2.1]? = some (.instanceMethod (ka_nm e.2.2.1))) && decide (lw_tbl[e.2.2.2.2.2.1]? = some (.selects (ka_nm e.2.2.1).cls (ka_nm e.2.2.1) (ka_nm e.2.2.1)))
     else decide (e.2.1 = 2 ∨ e.2.1 = 12) && decide (lw_tbl[e.2.2.2.2.1]? = some (.instanceMethod (ka_nm e.2.2.1))) && decide ((ka_nm e.2.2.1).name = "<init>") && decide (ka_rt e.2.2.1 = none))
theorem ka_C_all : ka_C.all ka_Cok = true := by decide +kernel
/-- methods: the code, the class's name, the number of arguments -/
def ka_Mok (y : Nat) : Bool := decide (lw_tbl[((ka_M[y]?).map (fun q => q.2.2.2.2.2.2)).getD 0]? = some (.code (ka_nm y) (ka_by y) (ka_ml y) (ka_rt y))) && decide ((ka_nm y).cls = ka_cn y ∧ ka_ow y < 12 ∧ ka_ml y ≤ 20) && plainName (ka_nm y).cls && decide ((ka_nm y).cls ≠ "java/lang/invoke/MethodHandle" ∧ (ka_nm y).cls ≠ "java/lang/invoke/VarHandle" ∧ (parseMethodDescriptor (ka_nm y).desc).map (fun q => q.parameters.length) = some (ka_na y))
theorem ka_M_0 : (List.range' 0 12).all ka_Mok = true := by decide +kernel
theorem ka_M_12 : (List.range' 12 12).all ka_Mok = true := by decide +kernel
theorem ka_M_24 : (List.range' 24 12).all ka_Mok = true := by decide +kernel
theorem ka_M_36 : (List.range' 36 12).all ka_Mok = true := by decide +kernel
theorem ka_M_48 : (List.range' 48 12).all ka_Mok = true := by decide +kernel
theorem ka_M_60 : (List.range' 60 12).all ka_Mok = true := by decide +kernel
theorem ka_M_72 : (List.range' 72 12).all ka_Mok = true := by decide +kernel
theorem ka_M_84 : (List.range' 84 12).all ka_Mok = true := by decide +kernel
theorem ka_M_96 : (List.range' 96 12).all ka_Mok = true := by decide +kernel
theorem ka_M_108 : (List.range' 108 12).all ka_Mok = true := by decide +kernel
theorem ka_M_120 : (List.range' 120 12).all ka_Mok = true := by decide +kernel
theorem ka_M_132 : (List.range' 132 12).all ka_Mok = true := by decide +kernel
theorem ka_M_144 : (List.range' 144 12).all ka_Mok = true := by decide +kernel
theorem ka_M_156 : (List.range' 156 12).all ka_Mok = true := by decide +kernel
theorem ka_M_168 : (List.range' 168 12).all ka_Mok = true := by decide +kernel
theorem ka_M_180 : (List.range' 180 12).all ka_Mok = true := by decide +kernel
theorem ka_M_192 : (List.range' 192 12).all ka_Mok = true := by decide +kernel
theorem ka_M_204 : (List.range' 204 7).all ka_Mok = true := by decide +kernel
theorem ka_M_all {y : Nat} (hy : y < 211) : ka_Mok y = true := by
  rcases Nat.lt_or_ge y 12 with q | q
  · exact List.all_eq_true.mp ka_M_0 y (List.mem_range'.mpr ⟨y - 0, by omega, by omega⟩)
  rcases Nat.lt_or_ge y 24 with q | q
  · exact List.all_eq_true.mp ka_M_12 y (List.mem_range'.mpr ⟨y - 12, by omega, by omega⟩)
  rcases Nat.lt_or_ge y 36 with q | q
  · exact List.all_eq_true.mp ka_M_24 y (List.mem_range'.mpr ⟨y - 24, by omega, by omega⟩)
  rcases Nat.lt_or_ge y 48 with q | q
  · exact List.all_eq_true.mp ka_M_36 y (List.mem_range'.mpr ⟨y - 36, by omega, by omega⟩)
  rcases Nat.lt_or_ge y 60 with q | q
  · exact List.all_eq_true.mp ka_M_48 y (List.mem_range'.mpr ⟨y - 48, by omega, by omega⟩)
  rcases Nat.lt_or_ge y 72 with q | q
  · exact List.all_eq_true.mp ka_M_60 y (List.mem_range'.mpr ⟨y - 60, by omega, by omega⟩)
  rcases Nat.lt_or_ge y 84 with q | q
  · exact List.all_eq_true.mp ka_M_72 y (List.mem_range'.mpr ⟨y - 72, by omega, by omega⟩)
  rcases Nat.lt_or_ge y 96 with q | q
  · exact List.all_eq_true.mp ka_M_84 y (List.mem_range'.mpr ⟨y - 84, by omega, by omega⟩)
  rcases Nat.lt_or_ge y 108 with q | q
  · exact List.all_eq_true.mp ka_M_96 y (List.mem_range'.mpr ⟨y - 96, by omega, by omega⟩)
  rcases Nat.lt_or_ge y 120 with q | q
  · exact List.all_eq_true.mp ka_M_108 y (List.mem_range'.mpr ⟨y - 108, by omega, by omega⟩)
  rcases Nat.lt_or_ge y 132 with q | q
  · exact List.all_eq_true.mp ka_M_120 y (List.mem_range'.mpr ⟨y - 120, by omega, by omega⟩)
  rcases Nat.lt_or_ge y 144 with q | q
  · exact List.all_eq_true.mp ka_M_132 y (List.mem_range'.mpr ⟨y - 132, by omega, by omega⟩)
  rcases Nat.lt_or_ge y 156 with q | q
  · exact List.all_eq_true.mp ka_M_144 y (List.mem_range'.mpr ⟨y - 144, by omega, by omega⟩)
  rcases Nat.lt_or_ge y 168 with q | q
  · exact List.all_eq_true.mp ka_M_156 y (List.mem_range'.mpr ⟨y - 156, by omega, by omega⟩)
  rcases Nat.lt_or_ge y 180 with q | q
  · exact List.all_eq_true.mp ka_M_168 y (List.mem_range'.mpr ⟨y - 168, by omega, by omega⟩)
  rcases Nat.lt_or_ge y 192 with q | q
  · exact List.all_eq_true.mp ka_M_180 y (List.mem_range'.mpr ⟨y - 180, by omega, by omega⟩)
  rcases Nat.lt_or_ge y 204 with q | q
  · exact List.all_eq_true.mp ka_M_192 y (List.mem_range'.mpr ⟨y - 192, by omega, by omega⟩)
  exact List.all_eq_true.mp ka_M_204 y (List.mem_range'.mpr ⟨y - 204, by omega, by omega⟩)
/-- fields of class ci: the words of their layout -/
def ka_lp : List (List Nat) := [[140, 142, 144, 146, 148, 150, 152, 154, 156], [237, 239, 241, 243, 245, 247, 249], [268, 270, 272, 274], [314, 316, 318], [187, 189, 191, 193, 195, 197, 199, 201, 203, 205, 207, 209, 211, 213, 215, 217], [102, 104, 106], [290, 292, 294, 296, 298], [331, 333, 335, 337, 339, 341, 343, 345, 347, 349], [927, 929, 931, 933, 935, 937, 939, 941, 943, 945, 947, 949, 951, 953, 955, 957, 959, 961, 963, 965, 967, 969, 971]]
theorem ka_lp_all : (List.range 9).all (fun ci => decide ((u_ws ((ka_on[ci]?).getD "") (ka_FT ci) (ka_FN ci)).map some = (ka_lp.getD ci []).map (fun i => lw_tbl[i]?)) && (u_ws ((ka_on[ci]?).getD "") (ka_FT ci) (ka_FN ci)).all goodWord) = true := by decide +kernel
theorem ka_W1 : lw_tbl[83]? = some (.instanceMethod Lib.objectInit) ∧ lw_tbl[84]? = some (.code Lib.objectInit ⟨#[0xb1]⟩ 1 none) ∧ lw_tbl[70]? = some (.initialized "java/lang/Math") ∧ lw_tbl[76]? = some (.initialized "java/lang/System") ∧ lw_tbl[417]? = some (.static Lib.Math.min.name) ∧ lw_tbl[418]? = some (.code Lib.Math.min.name Lib.Math.min.code 2 (some .int)) ∧ lw_tbl[420]? = some (.static Lib.Math.max.name) ∧ lw_tbl[421]? = some (.code Lib.Math.max.name Lib.Math.max.code 2 (some .int)) ∧ lw_tbl[652]? = some (.static arraycopyName) ∧ lw_tbl[653]? = some (.native arraycopyName) ∧ lw_tbl[109]? = some (.arrayClass .int) ∧ lw_tbl[92]? = some (.arrayOver (.object "KnifeDoors$Knife")) ∧ lw_tbl[302]? = some (.arrayOver (.object "KnifeDoors$Sheet")) := by decide +kernel
