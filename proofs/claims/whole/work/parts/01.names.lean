-- ===== PART A: goes FIRST, ahead of the names: the tables' words, and 'selects' of the private methods out of them =====
/-- a private method of a class that the tables say can be made, by its rows of tables_1 -/
def lw_okq (q : MethodName × Nat) : Prop := (q.1.cls ≠ "java/lang/invoke/MethodHandle" ∧ q.1.cls ≠ "java/lang/invoke/VarHandle") ∧ Cond.instantiable q.1.cls q.2 ∈ tables_1 ∧ Cond.privateMethod q.1 ∈ tables_1 ∧ Cond.instanceMethod q.1 ∈ tables_1
theorem lw_p0 : lw_okq (⟨"KnifeDoors", "error", "(I)I"⟩, 10) := ⟨⟨by decide +kernel, by decide +kernel⟩, List.mem_of_getElem? (i := 18) (by decide +kernel), List.mem_of_getElem? (i := 303) (by decide +kernel), List.mem_of_getElem? (i := 304) (by decide +kernel)⟩
theorem lw_p1 : lw_okq (⟨"KnifeDoors", "isKnife", "(I)Z"⟩, 10) := ⟨⟨by decide +kernel, by decide +kernel⟩, List.mem_of_getElem? (i := 18) (by decide +kernel), List.mem_of_getElem? (i := 328) (by decide +kernel), List.mem_of_getElem? (i := 329) (by decide +kernel)⟩
theorem lw_p2 : lw_okq (⟨"KnifeDoors$Knife", "settle", "()V"⟩, 9) := ⟨⟨by decide +kernel, by decide +kernel⟩, List.mem_of_getElem? (i := 50) (by decide +kernel), List.mem_of_getElem? (i := 424) (by decide +kernel), List.mem_of_getElem? (i := 425) (by decide +kernel)⟩
theorem lw_p3 : lw_okq (⟨"KnifeDoors$Reader", "takeOperand", "(I)Z"⟩, 7) := ⟨⟨by decide +kernel, by decide +kernel⟩, List.mem_of_getElem? (i := 161) (by decide +kernel), List.mem_of_getElem? (i := 462) (by decide +kernel), List.mem_of_getElem? (i := 463) (by decide +kernel)⟩
theorem lw_p4 : lw_okq (⟨"KnifeDoors$Reader", "push", "(I)V"⟩, 7) := ⟨⟨by decide +kernel, by decide +kernel⟩, List.mem_of_getElem? (i := 161) (by decide +kernel), List.mem_of_getElem? (i := 466) (by decide +kernel), List.mem_of_getElem? (i := 467) (by decide +kernel)⟩
theorem lw_p5 : lw_okq (⟨"KnifeDoors$Reader", "takeBehindOperand", "(I)Z"⟩, 7) := ⟨⟨by decide +kernel, by decide +kernel⟩, List.mem_of_getElem? (i := 161) (by decide +kernel), List.mem_of_getElem? (i := 559) (by decide +kernel), List.mem_of_getElem? (i := 560) (by decide +kernel)⟩
theorem lw_p6 : lw_okq (⟨"KnifeDoors$Reader", "takeDigit", "(I)Z"⟩, 7) := ⟨⟨by decide +kernel, by decide +kernel⟩, List.mem_of_getElem? (i := 161) (by decide +kernel), List.mem_of_getElem? (i := 563) (by decide +kernel), List.mem_of_getElem? (i := 564) (by decide +kernel)⟩
theorem lw_p7 : lw_okq (⟨"KnifeDoors$Reader", "takeClosing", "()Z"⟩, 7) := ⟨⟨by decide +kernel, by decide +kernel⟩, List.mem_of_getElem? (i := 161) (by decide +kernel), List.mem_of_getElem? (i := 572) (by decide +kernel), List.mem_of_getElem? (i := 573) (by decide +kernel)⟩
theorem lw_p8 : lw_okq (⟨"KnifeDoors$Reader", "settle", "(I)V"⟩, 7) := ⟨⟨by decide +kernel, by decide +kernel⟩, List.mem_of_getElem? (i := 161) (by decide +kernel), List.mem_of_getElem? (i := 576) (by decide +kernel), List.mem_of_getElem? (i := 577) (by decide +kernel)⟩
theorem lw_p9 : lw_okq (⟨"KnifeDoors$Reader", "rankOfPending", "()I"⟩, 7) := ⟨⟨by decide +kernel, by decide +kernel⟩, List.mem_of_getElem? (i := 161) (by decide +kernel), List.mem_of_getElem? (i := 580) (by decide +kernel), List.mem_of_getElem? (i := 581) (by decide +kernel)⟩
theorem lw_p10 : lw_okq (⟨"KnifeDoors$Street", "grindByRecipe", "(LKnifeDoors$Knife;)V"⟩, 16) := ⟨⟨by decide +kernel, by decide +kernel⟩, List.mem_of_getElem? (i := 26) (by decide +kernel), List.mem_of_getElem? (i := 617) (by decide +kernel), List.mem_of_getElem? (i := 618) (by decide +kernel)⟩
theorem lw_p11 : lw_okq (⟨"KnifeDoors", "passOf", "(IZ)I"⟩, 10) := ⟨⟨by decide +kernel, by decide +kernel⟩, List.mem_of_getElem? (i := 18) (by decide +kernel), List.mem_of_getElem? (i := 628) (by decide +kernel), List.mem_of_getElem? (i := 629) (by decide +kernel)⟩
theorem lw_p12 : lw_okq (⟨"KnifeDoors$Street", "useAll", "(Z)V"⟩, 16) := ⟨⟨by decide +kernel, by decide +kernel⟩, List.mem_of_getElem? (i := 26) (by decide +kernel), List.mem_of_getElem? (i := 637) (by decide +kernel), List.mem_of_getElem? (i := 638) (by decide +kernel)⟩
theorem lw_p13 : lw_okq (⟨"KnifeDoors$Street", "draw", "()I"⟩, 16) := ⟨⟨by decide +kernel, by decide +kernel⟩, List.mem_of_getElem? (i := 26) (by decide +kernel), List.mem_of_getElem? (i := 641) (by decide +kernel), List.mem_of_getElem? (i := 642) (by decide +kernel)⟩
theorem lw_p14 : lw_okq (⟨"KnifeDoors", "lookAhead", "(I)V"⟩, 10) := ⟨⟨by decide +kernel, by decide +kernel⟩, List.mem_of_getElem? (i := 18) (by decide +kernel), List.mem_of_getElem? (i := 658) (by decide +kernel), List.mem_of_getElem? (i := 659) (by decide +kernel)⟩
theorem lw_p15 : lw_okq (⟨"KnifeDoors", "bestFor", "(II)I"⟩, 10) := ⟨⟨by decide +kernel, by decide +kernel⟩, List.mem_of_getElem? (i := 18) (by decide +kernel), List.mem_of_getElem? (i := 680) (by decide +kernel), List.mem_of_getElem? (i := 681) (by decide +kernel)⟩
def lw_privs_1 : List (MethodName × Nat) := [(⟨"KnifeDoors", "error", "(I)I"⟩, 10), (⟨"KnifeDoors", "isKnife", "(I)Z"⟩, 10), (⟨"KnifeDoors$Knife", "settle", "()V"⟩, 9), (⟨"KnifeDoors$Reader", "takeOperand", "(I)Z"⟩, 7), (⟨"KnifeDoors$Reader", "push", "(I)V"⟩, 7), (⟨"KnifeDoors$Reader", "takeBehindOperand", "(I)Z"⟩, 7), (⟨"KnifeDoors$Reader", "takeDigit", "(I)Z"⟩, 7), (⟨"KnifeDoors$Reader", "takeClosing", "()Z"⟩, 7), (⟨"KnifeDoors$Reader", "settle", "(I)V"⟩, 7), (⟨"KnifeDoors$Reader", "rankOfPending", "()I"⟩, 7), (⟨"KnifeDoors$Street", "grindByRecipe", "(LKnifeDoors$Knife;)V"⟩, 16), (⟨"KnifeDoors", "passOf", "(IZ)I"⟩, 10), (⟨"KnifeDoors$Street", "useAll", "(Z)V"⟩, 16), (⟨"KnifeDoors$Street", "draw", "()I"⟩, 16), (⟨"KnifeDoors", "lookAhead", "(I)V"⟩, 10), (⟨"KnifeDoors", "bestFor", "(II)I"⟩, 10)]
theorem lw_r1 : ∀ q ∈ lw_privs_1, lw_okq q := List.forall_mem_cons.mpr ⟨lw_p0, List.forall_mem_cons.mpr ⟨lw_p1, List.forall_mem_cons.mpr ⟨lw_p2, List.forall_mem_cons.mpr ⟨lw_p3, List.forall_mem_cons.mpr ⟨lw_p4, List.forall_mem_cons.mpr ⟨lw_p5, List.forall_mem_cons.mpr ⟨lw_p6, List.forall_mem_cons.mpr ⟨lw_p7, List.forall_mem_cons.mpr ⟨lw_p8, List.forall_mem_cons.mpr ⟨lw_p9, List.forall_mem_cons.mpr ⟨lw_p10, List.forall_mem_cons.mpr ⟨lw_p11, List.forall_mem_cons.mpr ⟨lw_p12, List.forall_mem_cons.mpr ⟨lw_p13, List.forall_mem_cons.mpr ⟨lw_p14, List.forall_mem_cons.mpr ⟨lw_p15, fun _ h => absurd h List.not_mem_nil⟩⟩⟩⟩⟩⟩⟩⟩⟩⟩⟩⟩⟩⟩⟩⟩
theorem lw_p16 : lw_okq (⟨"KnifeDoors", "leastSteel", "(LKnifeDoors$Knife;I)I"⟩, 10) := ⟨⟨by decide +kernel, by decide +kernel⟩, List.mem_of_getElem? (i := 18) (by decide +kernel), List.mem_of_getElem? (i := 696) (by decide +kernel), List.mem_of_getElem? (i := 697) (by decide +kernel)⟩
theorem lw_p17 : lw_okq (⟨"KnifeDoors", "waysFrom", "(LKnifeDoors$Knife;II)I"⟩, 10) := ⟨⟨by decide +kernel, by decide +kernel⟩, List.mem_of_getElem? (i := 18) (by decide +kernel), List.mem_of_getElem? (i := 733) (by decide +kernel), List.mem_of_getElem? (i := 734) (by decide +kernel)⟩
theorem lw_p18 : lw_okq (⟨"KnifeDoors$Voice", "bodyOf", "(I)I"⟩, 5) := ⟨⟨by decide +kernel, by decide +kernel⟩, List.mem_of_getElem? (i := 218) (by decide +kernel), List.mem_of_getElem? (i := 749) (by decide +kernel), List.mem_of_getElem? (i := 750) (by decide +kernel)⟩
theorem lw_p19 : lw_okq (⟨"KnifeDoors$Voice", "body", "(III)I"⟩, 5) := ⟨⟨by decide +kernel, by decide +kernel⟩, List.mem_of_getElem? (i := 218) (by decide +kernel), List.mem_of_getElem? (i := 756) (by decide +kernel), List.mem_of_getElem? (i := 757) (by decide +kernel)⟩
theorem lw_p20 : lw_okq (⟨"KnifeDoors$Voice", "begin", "(I)V"⟩, 5) := ⟨⟨by decide +kernel, by decide +kernel⟩, List.mem_of_getElem? (i := 218) (by decide +kernel), List.mem_of_getElem? (i := 760) (by decide +kernel), List.mem_of_getElem? (i := 761) (by decide +kernel)⟩
theorem lw_p21 : lw_okq (⟨"KnifeDoorsModel", "finds", "(I)I"⟩, 23) := ⟨⟨by decide +kernel, by decide +kernel⟩, List.mem_of_getElem? (i := 839) (by decide +kernel), List.mem_of_getElem? (i := 923) (by decide +kernel), List.mem_of_getElem? (i := 924) (by decide +kernel)⟩
theorem lw_p22 : lw_okq (⟨"KnifeDoorsModel", "reads", "(III)V"⟩, 23) := ⟨⟨by decide +kernel, by decide +kernel⟩, List.mem_of_getElem? (i := 839) (by decide +kernel), List.mem_of_getElem? (i := 933) (by decide +kernel), List.mem_of_getElem? (i := 934) (by decide +kernel)⟩
theorem lw_p23 : lw_okq (⟨"KnifeDoorsModel", "either", "()V"⟩, 23) := ⟨⟨by decide +kernel, by decide +kernel⟩, List.mem_of_getElem? (i := 839) (by decide +kernel), List.mem_of_getElem? (i := 937) (by decide +kernel), List.mem_of_getElem? (i := 938) (by decide +kernel)⟩
theorem lw_p24 : lw_okq (⟨"KnifeDoorsModel", "both", "()V"⟩, 23) := ⟨⟨by decide +kernel, by decide +kernel⟩, List.mem_of_getElem? (i := 839) (by decide +kernel), List.mem_of_getElem? (i := 941) (by decide +kernel), List.mem_of_getElem? (i := 942) (by decide +kernel)⟩
theorem lw_p25 : lw_okq (⟨"KnifeDoorsModel", "compared", "()V"⟩, 23) := ⟨⟨by decide +kernel, by decide +kernel⟩, List.mem_of_getElem? (i := 839) (by decide +kernel), List.mem_of_getElem? (i := 945) (by decide +kernel), List.mem_of_getElem? (i := 946) (by decide +kernel)⟩
theorem lw_p26 : lw_okq (⟨"KnifeDoorsModel", "sum", "()V"⟩, 23) := ⟨⟨by decide +kernel, by decide +kernel⟩, List.mem_of_getElem? (i := 839) (by decide +kernel), List.mem_of_getElem? (i := 949) (by decide +kernel), List.mem_of_getElem? (i := 950) (by decide +kernel)⟩
theorem lw_p27 : lw_okq (⟨"KnifeDoorsModel", "product", "()V"⟩, 23) := ⟨⟨by decide +kernel, by decide +kernel⟩, List.mem_of_getElem? (i := 839) (by decide +kernel), List.mem_of_getElem? (i := 953) (by decide +kernel), List.mem_of_getElem? (i := 954) (by decide +kernel)⟩
theorem lw_p28 : lw_okq (⟨"KnifeDoorsModel", "unit", "()V"⟩, 23) := ⟨⟨by decide +kernel, by decide +kernel⟩, List.mem_of_getElem? (i := 839) (by decide +kernel), List.mem_of_getElem? (i := 957) (by decide +kernel), List.mem_of_getElem? (i := 958) (by decide +kernel)⟩
theorem lw_p29 : lw_okq (⟨"KnifeDoorsModel", "here", "()I"⟩, 23) := ⟨⟨by decide +kernel, by decide +kernel⟩, List.mem_of_getElem? (i := 839) (by decide +kernel), List.mem_of_getElem? (i := 961) (by decide +kernel), List.mem_of_getElem? (i := 962) (by decide +kernel)⟩
theorem lw_p30 : lw_okq (⟨"KnifeDoorsModel", "opens", "(I)V"⟩, 23) := ⟨⟨by decide +kernel, by decide +kernel⟩, List.mem_of_getElem? (i := 839) (by decide +kernel), List.mem_of_getElem? (i := 965) (by decide +kernel), List.mem_of_getElem? (i := 966) (by decide +kernel)⟩
theorem lw_p31 : lw_okq (⟨"KnifeDoorsModel", "wrong", "()V"⟩, 23) := ⟨⟨by decide +kernel, by decide +kernel⟩, List.mem_of_getElem? (i := 839) (by decide +kernel), List.mem_of_getElem? (i := 969) (by decide +kernel), List.mem_of_getElem? (i := 970) (by decide +kernel)⟩
def lw_privs_2 : List (MethodName × Nat) := [(⟨"KnifeDoors", "leastSteel", "(LKnifeDoors$Knife;I)I"⟩, 10), (⟨"KnifeDoors", "waysFrom", "(LKnifeDoors$Knife;II)I"⟩, 10), (⟨"KnifeDoors$Voice", "bodyOf", "(I)I"⟩, 5), (⟨"KnifeDoors$Voice", "body", "(III)I"⟩, 5), (⟨"KnifeDoors$Voice", "begin", "(I)V"⟩, 5), (⟨"KnifeDoorsModel", "finds", "(I)I"⟩, 23), (⟨"KnifeDoorsModel", "reads", "(III)V"⟩, 23), (⟨"KnifeDoorsModel", "either", "()V"⟩, 23), (⟨"KnifeDoorsModel", "both", "()V"⟩, 23), (⟨"KnifeDoorsModel", "compared", "()V"⟩, 23), (⟨"KnifeDoorsModel", "sum", "()V"⟩, 23), (⟨"KnifeDoorsModel", "product", "()V"⟩, 23), (⟨"KnifeDoorsModel", "unit", "()V"⟩, 23), (⟨"KnifeDoorsModel", "here", "()I"⟩, 23), (⟨"KnifeDoorsModel", "opens", "(I)V"⟩, 23), (⟨"KnifeDoorsModel", "wrong", "()V"⟩, 23)]
theorem lw_r2 : ∀ q ∈ lw_privs_2, lw_okq q := List.forall_mem_cons.mpr ⟨lw_p16, List.forall_mem_cons.mpr ⟨lw_p17, List.forall_mem_cons.mpr ⟨lw_p18, List.forall_mem_cons.mpr ⟨lw_p19, List.forall_mem_cons.mpr ⟨lw_p20, List.forall_mem_cons.mpr ⟨lw_p21, List.forall_mem_cons.mpr ⟨lw_p22, List.forall_mem_cons.mpr ⟨lw_p23, List.forall_mem_cons.mpr ⟨lw_p24, List.forall_mem_cons.mpr ⟨lw_p25, List.forall_mem_cons.mpr ⟨lw_p26, List.forall_mem_cons.mpr ⟨lw_p27, List.forall_mem_cons.mpr ⟨lw_p28, List.forall_mem_cons.mpr ⟨lw_p29, List.forall_mem_cons.mpr ⟨lw_p30, List.forall_mem_cons.mpr ⟨lw_p31, fun _ h => absurd h List.not_mem_nil⟩⟩⟩⟩⟩⟩⟩⟩⟩⟩⟩⟩⟩⟩⟩⟩
theorem lw_p32 : lw_okq (⟨"KnifeDoorsModel", "lay", "(I)V"⟩, 23) := ⟨⟨by decide +kernel, by decide +kernel⟩, List.mem_of_getElem? (i := 839) (by decide +kernel), List.mem_of_getElem? (i := 973) (by decide +kernel), List.mem_of_getElem? (i := 974) (by decide +kernel)⟩
theorem lw_p33 : lw_okq (⟨"KnifeDoorsModel", "takes", "(I)Z"⟩, 23) := ⟨⟨by decide +kernel, by decide +kernel⟩, List.mem_of_getElem? (i := 839) (by decide +kernel), List.mem_of_getElem? (i := 977) (by decide +kernel), List.mem_of_getElem? (i := 978) (by decide +kernel)⟩
theorem lw_p34 : lw_okq (⟨"KnifeDoorsModel", "nameOf", "(I)I"⟩, 23) := ⟨⟨by decide +kernel, by decide +kernel⟩, List.mem_of_getElem? (i := 839) (by decide +kernel), List.mem_of_getElem? (i := 981) (by decide +kernel), List.mem_of_getElem? (i := 982) (by decide +kernel)⟩
theorem lw_p35 : lw_okq (⟨"KnifeDoorsModel", "gives", "(IIIII)I"⟩, 23) := ⟨⟨by decide +kernel, by decide +kernel⟩, List.mem_of_getElem? (i := 839) (by decide +kernel), List.mem_of_getElem? (i := 991) (by decide +kernel), List.mem_of_getElem? (i := 992) (by decide +kernel)⟩
theorem lw_p36 : lw_okq (⟨"KnifeDoorsModel", "worked", "(II)I"⟩, 23) := ⟨⟨by decide +kernel, by decide +kernel⟩, List.mem_of_getElem? (i := 839) (by decide +kernel), List.mem_of_getElem? (i := 995) (by decide +kernel), List.mem_of_getElem? (i := 996) (by decide +kernel)⟩
theorem lw_p37 : lw_okq (⟨"KnifeDoorsModel", "comes", "(III)I"⟩, 23) := ⟨⟨by decide +kernel, by decide +kernel⟩, List.mem_of_getElem? (i := 839) (by decide +kernel), List.mem_of_getElem? (i := 1015) (by decide +kernel), List.mem_of_getElem? (i := 1016) (by decide +kernel)⟩
theorem lw_p38 : lw_okq (⟨"KnifeDoorsModel", "becomes", "(III)V"⟩, 23) := ⟨⟨by decide +kernel, by decide +kernel⟩, List.mem_of_getElem? (i := 839) (by decide +kernel), List.mem_of_getElem? (i := 1019) (by decide +kernel), List.mem_of_getElem? (i := 1020) (by decide +kernel)⟩
theorem lw_p39 : lw_okq (⟨"KnifeDoorsModel", "isKnife", "(I)Z"⟩, 23) := ⟨⟨by decide +kernel, by decide +kernel⟩, List.mem_of_getElem? (i := 839) (by decide +kernel), List.mem_of_getElem? (i := 1027) (by decide +kernel), List.mem_of_getElem? (i := 1028) (by decide +kernel)⟩
theorem lw_p40 : lw_okq (⟨"KnifeDoorsModel", "isAs", "(II)I"⟩, 23) := ⟨⟨by decide +kernel, by decide +kernel⟩, List.mem_of_getElem? (i := 839) (by decide +kernel), List.mem_of_getElem? (i := 1032) (by decide +kernel), List.mem_of_getElem? (i := 1033) (by decide +kernel)⟩
theorem lw_p41 : lw_okq (⟨"KnifeDoorsModel", "of", "(II)I"⟩, 23) := ⟨⟨by decide +kernel, by decide +kernel⟩, List.mem_of_getElem? (i := 839) (by decide +kernel), List.mem_of_getElem? (i := 1036) (by decide +kernel), List.mem_of_getElem? (i := 1037) (by decide +kernel)⟩
theorem lw_p42 : lw_okq (⟨"KnifeDoorsModel", "dullsOf", "(I)I"⟩, 23) := ⟨⟨by decide +kernel, by decide +kernel⟩, List.mem_of_getElem? (i := 839) (by decide +kernel), List.mem_of_getElem? (i := 1040) (by decide +kernel), List.mem_of_getElem? (i := 1041) (by decide +kernel)⟩
theorem lw_p43 : lw_okq (⟨"KnifeDoorsModel", "turns", "(II)V"⟩, 23) := ⟨⟨by decide +kernel, by decide +kernel⟩, List.mem_of_getElem? (i := 839) (by decide +kernel), List.mem_of_getElem? (i := 1076) (by decide +kernel), List.mem_of_getElem? (i := 1077) (by decide +kernel)⟩
theorem lw_p44 : lw_okq (⟨"KnifeDoorsModel", "visits", "()I"⟩, 23) := ⟨⟨by decide +kernel, by decide +kernel⟩, List.mem_of_getElem? (i := 839) (by decide +kernel), List.mem_of_getElem? (i := 1097) (by decide +kernel), List.mem_of_getElem? (i := 1098) (by decide +kernel)⟩
theorem lw_p45 : lw_okq (⟨"KnifeDoorsModel", "grinds", "(I)V"⟩, 23) := ⟨⟨by decide +kernel, by decide +kernel⟩, List.mem_of_getElem? (i := 839) (by decide +kernel), List.mem_of_getElem? (i := 1101) (by decide +kernel), List.mem_of_getElem? (i := 1102) (by decide +kernel)⟩
theorem lw_p46 : lw_okq (⟨"KnifeDoorsModel", "goes", "(IZ)I"⟩, 23) := ⟨⟨by decide +kernel, by decide +kernel⟩, List.mem_of_getElem? (i := 839) (by decide +kernel), List.mem_of_getElem? (i := 1110) (by decide +kernel), List.mem_of_getElem? (i := 1111) (by decide +kernel)⟩
theorem lw_p47 : lw_okq (⟨"KnifeDoorsModel", "goesBy", "(Z)V"⟩, 23) := ⟨⟨by decide +kernel, by decide +kernel⟩, List.mem_of_getElem? (i := 839) (by decide +kernel), List.mem_of_getElem? (i := 1115) (by decide +kernel), List.mem_of_getElem? (i := 1116) (by decide +kernel)⟩
def lw_privs_3 : List (MethodName × Nat) := [(⟨"KnifeDoorsModel", "lay", "(I)V"⟩, 23), (⟨"KnifeDoorsModel", "takes", "(I)Z"⟩, 23), (⟨"KnifeDoorsModel", "nameOf", "(I)I"⟩, 23), (⟨"KnifeDoorsModel", "gives", "(IIIII)I"⟩, 23), (⟨"KnifeDoorsModel", "worked", "(II)I"⟩, 23), (⟨"KnifeDoorsModel", "comes", "(III)I"⟩, 23), (⟨"KnifeDoorsModel", "becomes", "(III)V"⟩, 23), (⟨"KnifeDoorsModel", "isKnife", "(I)Z"⟩, 23), (⟨"KnifeDoorsModel", "isAs", "(II)I"⟩, 23), (⟨"KnifeDoorsModel", "of", "(II)I"⟩, 23), (⟨"KnifeDoorsModel", "dullsOf", "(I)I"⟩, 23), (⟨"KnifeDoorsModel", "turns", "(II)V"⟩, 23), (⟨"KnifeDoorsModel", "visits", "()I"⟩, 23), (⟨"KnifeDoorsModel", "grinds", "(I)V"⟩, 23), (⟨"KnifeDoorsModel", "goes", "(IZ)I"⟩, 23), (⟨"KnifeDoorsModel", "goesBy", "(Z)V"⟩, 23)]
theorem lw_r3 : ∀ q ∈ lw_privs_3, lw_okq q := List.forall_mem_cons.mpr ⟨lw_p32, List.forall_mem_cons.mpr ⟨lw_p33, List.forall_mem_cons.mpr ⟨lw_p34, List.forall_mem_cons.mpr ⟨lw_p35, List.forall_mem_cons.mpr ⟨lw_p36, List.forall_mem_cons.mpr ⟨lw_p37, List.forall_mem_cons.mpr ⟨lw_p38, List.forall_mem_cons.mpr ⟨lw_p39, List.forall_mem_cons.mpr ⟨lw_p40, List.forall_mem_cons.mpr ⟨lw_p41, List.forall_mem_cons.mpr ⟨lw_p42, List.forall_mem_cons.mpr ⟨lw_p43, List.forall_mem_cons.mpr ⟨lw_p44, List.forall_mem_cons.mpr ⟨lw_p45, List.forall_mem_cons.mpr ⟨lw_p46, List.forall_mem_cons.mpr ⟨lw_p47, fun _ h => absurd h List.not_mem_nil⟩⟩⟩⟩⟩⟩⟩⟩⟩⟩⟩⟩⟩⟩⟩⟩
theorem lw_p48 : lw_okq (⟨"KnifeDoorsModel", "drawn", "()I"⟩, 23) := ⟨⟨by decide +kernel, by decide +kernel⟩, List.mem_of_getElem? (i := 839) (by decide +kernel), List.mem_of_getElem? (i := 1119) (by decide +kernel), List.mem_of_getElem? (i := 1120) (by decide +kernel)⟩
theorem lw_p49 : lw_okq (⟨"KnifeDoorsModel", "goesOn", "(I)V"⟩, 23) := ⟨⟨by decide +kernel, by decide +kernel⟩, List.mem_of_getElem? (i := 839) (by decide +kernel), List.mem_of_getElem? (i := 1135) (by decide +kernel), List.mem_of_getElem? (i := 1136) (by decide +kernel)⟩
theorem lw_p50 : lw_okq (⟨"KnifeDoorsModel", "purseBy", "(III)I"⟩, 23) := ⟨⟨by decide +kernel, by decide +kernel⟩, List.mem_of_getElem? (i := 839) (by decide +kernel), List.mem_of_getElem? (i := 1143) (by decide +kernel), List.mem_of_getElem? (i := 1144) (by decide +kernel)⟩
theorem lw_p51 : lw_okq (⟨"KnifeDoorsModel", "bestBy", "(IIII)I"⟩, 23) := ⟨⟨by decide +kernel, by decide +kernel⟩, List.mem_of_getElem? (i := 839) (by decide +kernel), List.mem_of_getElem? (i := 1151) (by decide +kernel), List.mem_of_getElem? (i := 1152) (by decide +kernel)⟩
theorem lw_p52 : lw_okq (⟨"KnifeDoorsModel", "grindsBy", "(II)V"⟩, 23) := ⟨⟨by decide +kernel, by decide +kernel⟩, List.mem_of_getElem? (i := 839) (by decide +kernel), List.mem_of_getElem? (i := 1168) (by decide +kernel), List.mem_of_getElem? (i := 1169) (by decide +kernel)⟩
theorem lw_p53 : lw_okq (⟨"KnifeDoorsModel", "own", "()I"⟩, 23) := ⟨⟨by decide +kernel, by decide +kernel⟩, List.mem_of_getElem? (i := 839) (by decide +kernel), List.mem_of_getElem? (i := 1195) (by decide +kernel), List.mem_of_getElem? (i := 1196) (by decide +kernel)⟩
theorem lw_p54 : lw_okq (⟨"KnifeDoorsModel", "cut", "(II)I"⟩, 23) := ⟨⟨by decide +kernel, by decide +kernel⟩, List.mem_of_getElem? (i := 839) (by decide +kernel), List.mem_of_getElem? (i := 1199) (by decide +kernel), List.mem_of_getElem? (i := 1200) (by decide +kernel)⟩
theorem lw_p55 : lw_okq (⟨"KnifeDoorsModel", "ran", "(I)V"⟩, 23) := ⟨⟨by decide +kernel, by decide +kernel⟩, List.mem_of_getElem? (i := 839) (by decide +kernel), List.mem_of_getElem? (i := 1203) (by decide +kernel), List.mem_of_getElem? (i := 1204) (by decide +kernel)⟩
theorem lw_p56 : lw_okq (⟨"KnifeDoorsModel", "rings", "(II)I"⟩, 23) := ⟨⟨by decide +kernel, by decide +kernel⟩, List.mem_of_getElem? (i := 839) (by decide +kernel), List.mem_of_getElem? (i := 1207) (by decide +kernel), List.mem_of_getElem? (i := 1208) (by decide +kernel)⟩
theorem lw_p57 : lw_okq (⟨"KnifeDoorsModel", "grind", "(II)I"⟩, 23) := ⟨⟨by decide +kernel, by decide +kernel⟩, List.mem_of_getElem? (i := 839) (by decide +kernel), List.mem_of_getElem? (i := 1211) (by decide +kernel), List.mem_of_getElem? (i := 1212) (by decide +kernel)⟩
theorem lw_p58 : lw_okq (⟨"KnifeDoorsModel", "tells", "(II)I"⟩, 23) := ⟨⟨by decide +kernel, by decide +kernel⟩, List.mem_of_getElem? (i := 839) (by decide +kernel), List.mem_of_getElem? (i := 1215) (by decide +kernel), List.mem_of_getElem? (i := 1216) (by decide +kernel)⟩
theorem lw_p59 : lw_okq (⟨"KnifeDoorsModel", "sumOf", "(I)I"⟩, 23) := ⟨⟨by decide +kernel, by decide +kernel⟩, List.mem_of_getElem? (i := 839) (by decide +kernel), List.mem_of_getElem? (i := 1262) (by decide +kernel), List.mem_of_getElem? (i := 1263) (by decide +kernel)⟩
def lw_privs_4 : List (MethodName × Nat) := [(⟨"KnifeDoorsModel", "drawn", "()I"⟩, 23), (⟨"KnifeDoorsModel", "goesOn", "(I)V"⟩, 23), (⟨"KnifeDoorsModel", "purseBy", "(III)I"⟩, 23), (⟨"KnifeDoorsModel", "bestBy", "(IIII)I"⟩, 23), (⟨"KnifeDoorsModel", "grindsBy", "(II)V"⟩, 23), (⟨"KnifeDoorsModel", "own", "()I"⟩, 23), (⟨"KnifeDoorsModel", "cut", "(II)I"⟩, 23), (⟨"KnifeDoorsModel", "ran", "(I)V"⟩, 23), (⟨"KnifeDoorsModel", "rings", "(II)I"⟩, 23), (⟨"KnifeDoorsModel", "grind", "(II)I"⟩, 23), (⟨"KnifeDoorsModel", "tells", "(II)I"⟩, 23), (⟨"KnifeDoorsModel", "sumOf", "(I)I"⟩, 23)]
theorem lw_r4 : ∀ q ∈ lw_privs_4, lw_okq q := List.forall_mem_cons.mpr ⟨lw_p48, List.forall_mem_cons.mpr ⟨lw_p49, List.forall_mem_cons.mpr ⟨lw_p50, List.forall_mem_cons.mpr ⟨lw_p51, List.forall_mem_cons.mpr ⟨lw_p52, List.forall_mem_cons.mpr ⟨lw_p53, List.forall_mem_cons.mpr ⟨lw_p54, List.forall_mem_cons.mpr ⟨lw_p55, List.forall_mem_cons.mpr ⟨lw_p56, List.forall_mem_cons.mpr ⟨lw_p57, List.forall_mem_cons.mpr ⟨lw_p58, List.forall_mem_cons.mpr ⟨lw_p59, fun _ h => absurd h List.not_mem_nil⟩⟩⟩⟩⟩⟩⟩⟩⟩⟩⟩⟩
def lw_privs : List (MethodName × Nat) := lw_privs_1 ++ (lw_privs_2 ++ (lw_privs_3 ++ (lw_privs_4)))
def lw_tbl : List Cond := k2_sels lw_privs ++ tables_1
theorem lw_privs_ok : ∀ q ∈ lw_privs, lw_okq q := by
  show ∀ q ∈ lw_privs_1 ++ (lw_privs_2 ++ (lw_privs_3 ++ (lw_privs_4))), lw_okq q
  exact List.forall_mem_append.mpr ⟨lw_r1, List.forall_mem_append.mpr ⟨lw_r2, List.forall_mem_append.mpr ⟨lw_r3, lw_r4⟩⟩⟩
def RX0 : String := "KnifeDoors$Knife"
def TX0 : u_T := fun k => match k with
  | 0 => ("KnifeDoors$Knife", "kind", "I", false)
  | 1 => ("KnifeDoors$Knife", "m", "I", false)
  | 2 => ("KnifeDoors$Knife", "house", "I", false)
  | 3 => ("KnifeDoors$Knife", "sharp", "I", false)
  | 4 => ("KnifeDoors$Knife", "steel", "I", false)
  | 5 => ("KnifeDoors$Knife", "heat", "I", false)
  | 6 => ("KnifeDoors$Knife", "cuts", "I", false)
  | 7 => ("KnifeDoors$Knife", "use", "I", false)
  | _ => ("KnifeDoors$Knife", "ground", "I", false)
def tyX0 : Nat → FieldType := fun k => match k with
  | 0 => .int
  | 1 => .int
  | 2 => .int
  | 3 => .int
  | 4 => .int
  | 5 => .int
  | 6 => .int
  | 7 => .int
  | _ => .int
theorem nmX0 : ∀ a, a < 9 → ∀ b, b < 9 → a ≠ b → (TX0 a).2.1 ≠ (TX0 b).2.1 := by decide +kernel
theorem tyX0_ok : ∀ k, k < 9 → parseFieldDescriptor (TX0 k).2.2.1 = some (tyX0 k) := by decide +kernel
abbrev cX0_init : ByteArray := prog_2_method_1_code
def yX0_init : MethodName := ⟨RX0, "<init>", "()V"⟩
abbrev cX0_begin : ByteArray := prog_2_method_2_code
def yX0_begin : MethodName := ⟨RX0, "begin", "(III)V"⟩
abbrev cX0_setEdge : ByteArray := prog_2_method_3_code
def yX0_setEdge : MethodName := ⟨RX0, "setEdge", "(I)V"⟩
abbrev cX0_copyFrom : ByteArray := prog_2_method_4_code
def yX0_copyFrom : MethodName := ⟨RX0, "copyFrom", "(LKnifeDoors$Knife;)V"⟩
abbrev cX0_part : ByteArray := prog_2_method_5_code
def yX0_part : MethodName := ⟨RX0, "part", "(I)I"⟩
abbrev cX0_setPart : ByteArray := prog_2_method_6_code
def yX0_setPart : MethodName := ⟨RX0, "setPart", "(II)V"⟩
abbrev cX0_edgeDulls : ByteArray := prog_2_method_7_code
def yX0_edgeDulls : MethodName := ⟨RX0, "edgeDulls", "()I"⟩
abbrev cX0_gainsOn : ByteArray := prog_2_method_8_code
def yX0_gainsOn : MethodName := ⟨RX0, "gainsOn", "(I)I"⟩
abbrev cX0_grind : ByteArray := prog_2_method_9_code
def yX0_grind : MethodName := ⟨RX0, "grind", "(III)V"⟩
abbrev cX0_rub : ByteArray := prog_2_method_10_code
def yX0_rub : MethodName := ⟨RX0, "rub", "(II)V"⟩
abbrev cX0_settle : ByteArray := prog_2_method_11_code
def yX0_settle : MethodName := ⟨RX0, "settle", "()V"⟩
def RX1 : String := "KnifeDoors$Reader"
def TX1 : u_T := fun k => match k with
  | 0 => ("KnifeDoors$Reader", "text", "LKnifeDoors$Text;", true)
  | 1 => ("KnifeDoors$Reader", "names", "Ljava/lang/String;", false)
  | 2 => ("KnifeDoors$Reader", "pending", "[I", true)
  | 3 => ("KnifeDoors$Reader", "pends", "I", false)
  | 4 => ("KnifeDoors$Reader", "open", "I", false)
  | 5 => ("KnifeDoors$Reader", "wantsOperand", "Z", false)
  | _ => ("KnifeDoors$Reader", "digitsLeft", "I", false)
def tyX1 : Nat → FieldType := fun k => match k with
  | 0 => .object "KnifeDoors$Text"
  | 1 => .object "java/lang/String"
  | 2 => .array .int
  | 3 => .int
  | 4 => .int
  | 5 => .boolean
  | _ => .int
theorem nmX1 : ∀ a, a < 7 → ∀ b, b < 7 → a ≠ b → (TX1 a).2.1 ≠ (TX1 b).2.1 := by decide +kernel
theorem tyX1_ok : ∀ k, k < 7 → parseFieldDescriptor (TX1 k).2.2.1 = some (tyX1 k) := by decide +kernel
abbrev cX1_init : ByteArray := prog_3_method_1_code
def yX1_init : MethodName := ⟨RX1, "<init>", "()V"⟩
abbrev cX1_read : ByteArray := prog_3_method_2_code
def yX1_read : MethodName := ⟨RX1, "read", "([IILjava/lang/String;)I"⟩
abbrev cX1_takeOperand : ByteArray := prog_3_method_3_code
def yX1_takeOperand : MethodName := ⟨RX1, "takeOperand", "(I)Z"⟩
abbrev cX1_takeBehindOperand : ByteArray := prog_3_method_4_code
def yX1_takeBehindOperand : MethodName := ⟨RX1, "takeBehindOperand", "(I)Z"⟩
abbrev cX1_takeDigit : ByteArray := prog_3_method_5_code
def yX1_takeDigit : MethodName := ⟨RX1, "takeDigit", "(I)Z"⟩
abbrev cX1_takeClosing : ByteArray := prog_3_method_6_code
def yX1_takeClosing : MethodName := ⟨RX1, "takeClosing", "()Z"⟩
abbrev cX1_settle : ByteArray := prog_3_method_7_code
def yX1_settle : MethodName := ⟨RX1, "settle", "(I)V"⟩
abbrev cX1_push : ByteArray := prog_3_method_8_code
def yX1_push : MethodName := ⟨RX1, "push", "(I)V"⟩
abbrev cX1_rankOfPending : ByteArray := prog_3_method_9_code
def yX1_rankOfPending : MethodName := ⟨RX1, "rankOfPending", "()I"⟩
abbrev cX1_rankOf : ByteArray := prog_3_method_10_code
def yX1_rankOf : MethodName := ⟨RX1, "rankOf", "(I)I"⟩
abbrev cX1_isDigit : ByteArray := prog_3_method_11_code
def yX1_isDigit : MethodName := ⟨RX1, "isDigit", "(I)Z"⟩
def RX2 : String := "KnifeDoors$Recipes"
def TX2 : u_T := fun k => match k with
  | 0 => ("KnifeDoors$Recipes", "row", "[I", true)
  | 1 => ("KnifeDoors$Recipes", "chosen", "[I", true)
  | 2 => ("KnifeDoors$Recipes", "behind", "[LKnifeDoors$Knife;", true)
  | _ => ("KnifeDoors$Recipes", "water", "I", false)
def tyX2 : Nat → FieldType := fun k => match k with
  | 0 => .array .int
  | 1 => .array .int
  | 2 => .array (.object "KnifeDoors$Knife")
  | _ => .int
theorem nmX2 : ∀ a, a < 4 → ∀ b, b < 4 → a ≠ b → (TX2 a).2.1 ≠ (TX2 b).2.1 := by decide +kernel
theorem tyX2_ok : ∀ k, k < 4 → parseFieldDescriptor (TX2 k).2.2.1 = some (tyX2 k) := by decide +kernel
abbrev cX2_init : ByteArray := prog_4_method_1_code
def yX2_init : MethodName := ⟨RX2, "<init>", "()V"⟩
abbrev cX2_start : ByteArray := prog_4_method_2_code
def yX2_start : MethodName := ⟨RX2, "start", "(LKnifeDoors$Knife;I)V"⟩
abbrev cX2_goOn : ByteArray := prog_4_method_3_code
def yX2_goOn : MethodName := ⟨RX2, "goOn", "()V"⟩
abbrev cX2_ground : ByteArray := prog_4_method_4_code
def yX2_ground : MethodName := ⟨RX2, "ground", "()LKnifeDoors$Knife;"⟩
abbrev cX2_turns : ByteArray := prog_4_method_5_code
def yX2_turns : MethodName := ⟨RX2, "turns", "()I"⟩
abbrev cX2_choose : ByteArray := prog_4_method_6_code
def yX2_choose : MethodName := ⟨RX2, "choose", "()V"⟩
def RX3 : String := "KnifeDoors$Sheet"
def TX3 : u_T := fun k => match k with
  | 0 => ("KnifeDoors$Sheet", "bits", "I", false)
  | 1 => ("KnifeDoors$Sheet", "size", "I", false)
  | _ => ("KnifeDoors$Sheet", "numbers", "[I", true)
def tyX3 : Nat → FieldType := fun k => match k with
  | 0 => .int
  | 1 => .int
  | _ => .array .int
theorem nmX3 : ∀ a, a < 3 → ∀ b, b < 3 → a ≠ b → (TX3 a).2.1 ≠ (TX3 b).2.1 := by decide +kernel
theorem tyX3_ok : ∀ k, k < 3 → parseFieldDescriptor (TX3 k).2.2.1 = some (tyX3 k) := by decide +kernel
abbrev cX3_init : ByteArray := prog_5_method_1_code
def yX3_init : MethodName := ⟨RX3, "<init>", "()V"⟩
abbrev cX3_isMissing : ByteArray := prog_5_method_2_code
def yX3_isMissing : MethodName := ⟨RX3, "isMissing", "()Z"⟩
abbrev cX3_make : ByteArray := prog_5_method_3_code
def yX3_make : MethodName := ⟨RX3, "make", "(II)V"⟩
abbrev cX3_write : ByteArray := prog_5_method_4_code
def yX3_write : MethodName := ⟨RX3, "write", "(II)V"⟩
abbrev cX3_has : ByteArray := prog_5_method_5_code
def yX3_has : MethodName := ⟨RX3, "has", "(II)Z"⟩
def RX4 : String := "KnifeDoors$Street"
def TX4 : u_T := fun k => match k with
  | 0 => ("KnifeDoors$Street", "owned", "[LKnifeDoors$Knife;", true)
  | 1 => ("KnifeDoors$Street", "size", "I", false)
  | 2 => ("KnifeDoors$Street", "day", "I", false)
  | 3 => ("KnifeDoors$Street", "purse", "I", false)
  | 4 => ("KnifeDoors$Street", "water", "I", false)
  | 5 => ("KnifeDoors$Street", "price", "I", false)
  | 6 => ("KnifeDoors$Street", "weeks", "I", false)
  | 7 => ("KnifeDoors$Street", "recipe", "[I", true)
  | 8 => ("KnifeDoors$Street", "wears", "LKnifeDoors$Text;", true)
  | 9 => ("KnifeDoors$Street", "brings", "LKnifeDoors$Text;", true)
  | 10 => ("KnifeDoors$Street", "tape", "[I", true)
  | 11 => ("KnifeDoors$Street", "taped", "I", false)
  | 12 => ("KnifeDoors$Street", "numbers", "[I", true)
  | 13 => ("KnifeDoors$Street", "waiting", "I", false)
  | 14 => ("KnifeDoors$Street", "z", "I", false)
  | _ => ("KnifeDoors$Street", "broughtFrom", "[I", true)
def tyX4 : Nat → FieldType := fun k => match k with
  | 0 => .array (.object "KnifeDoors$Knife")
  | 1 => .int
  | 2 => .int
  | 3 => .int
  | 4 => .int
  | 5 => .int
  | 6 => .int
  | 7 => .array .int
  | 8 => .object "KnifeDoors$Text"
  | 9 => .object "KnifeDoors$Text"
  | 10 => .array .int
  | 11 => .int
  | 12 => .array .int
  | 13 => .int
  | 14 => .int
  | _ => .array .int
theorem nmX4 : ∀ a, a < 16 → ∀ b, b < 16 → a ≠ b → (TX4 a).2.1 ≠ (TX4 b).2.1 := by decide +kernel
theorem tyX4_ok : ∀ k, k < 16 → parseFieldDescriptor (TX4 k).2.2.1 = some (tyX4 k) := by decide +kernel
abbrev cX4_init : ByteArray := prog_6_method_1_code
def yX4_init : MethodName := ⟨RX4, "<init>", "()V"⟩
abbrev cX4_copyFrom : ByteArray := prog_6_method_2_code
def yX4_copyFrom : MethodName := ⟨RX4, "copyFrom", "(LKnifeDoors$Street;)V"⟩
abbrev cX4_isFull : ByteArray := prog_6_method_3_code
def yX4_isFull : MethodName := ⟨RX4, "isFull", "()Z"⟩
abbrev cX4_addKnife : ByteArray := prog_6_method_4_code
def yX4_addKnife : MethodName := ⟨RX4, "addKnife", "(III)I"⟩
abbrev cX4_partOf : ByteArray := prog_6_method_5_code
def yX4_partOf : MethodName := ⟨RX4, "partOf", "(LKnifeDoors$Knife;I)I"⟩
abbrev cX4_exchange : ByteArray := prog_6_method_6_code
def yX4_exchange : MethodName := ⟨RX4, "exchange", "(II)I"⟩
abbrev cX4_wearsGives : ByteArray := prog_6_method_7_code
def yX4_wearsGives : MethodName := ⟨RX4, "wearsGives", "(IIII)I"⟩
abbrev cX4_bringsGives : ByteArray := prog_6_method_8_code
def yX4_bringsGives : MethodName := ⟨RX4, "bringsGives", "(IIII)I"⟩
abbrev cX4_dullsOf : ByteArray := prog_6_method_9_code
def yX4_dullsOf : MethodName := ⟨RX4, "dullsOf", "(LKnifeDoors$Knife;)I"⟩
abbrev cX4_ring : ByteArray := prog_6_method_10_code
def yX4_ring : MethodName := ⟨RX4, "ring", "()I"⟩
abbrev cX4_grindByRecipe : ByteArray := prog_6_method_11_code
def yX4_grindByRecipe : MethodName := ⟨RX4, "grindByRecipe", "(LKnifeDoors$Knife;)V"⟩
abbrev cX4_pass : ByteArray := prog_6_method_12_code
def yX4_pass : MethodName := ⟨RX4, "pass", "(IZ)V"⟩
abbrev cX4_useAll : ByteArray := prog_6_method_13_code
def yX4_useAll : MethodName := ⟨RX4, "useAll", "(Z)V"⟩
abbrev cX4_draw : ByteArray := prog_6_method_14_code
def yX4_draw : MethodName := ⟨RX4, "draw", "()I"⟩
abbrev cX4_steelOfAll : ByteArray := prog_6_method_15_code
def yX4_steelOfAll : MethodName := ⟨RX4, "steelOfAll", "()I"⟩
abbrev cX4_groundOfAll : ByteArray := prog_6_method_16_code
def yX4_groundOfAll : MethodName := ⟨RX4, "groundOfAll", "()I"⟩
def RX5 : String := "KnifeDoors$Text"
def TX5 : u_T := fun k => match k with
  | 0 => ("KnifeDoors$Text", "steps", "[I", true)
  | 1 => ("KnifeDoors$Text", "size", "I", false)
  | _ => ("KnifeDoors$Text", "stack", "[I", true)
def tyX5 : Nat → FieldType := fun k => match k with
  | 0 => .array .int
  | 1 => .int
  | _ => .array .int
theorem nmX5 : ∀ a, a < 3 → ∀ b, b < 3 → a ≠ b → (TX5 a).2.1 ≠ (TX5 b).2.1 := by decide +kernel
theorem tyX5_ok : ∀ k, k < 3 → parseFieldDescriptor (TX5 k).2.2.1 = some (tyX5 k) := by decide +kernel
abbrev cX5_init : ByteArray := prog_7_method_1_code
def yX5_init : MethodName := ⟨RX5, "<init>", "()V"⟩
abbrev cX5_isMissing : ByteArray := prog_7_method_2_code
def yX5_isMissing : MethodName := ⟨RX5, "isMissing", "()Z"⟩
abbrev cX5_clear : ByteArray := prog_7_method_3_code
def yX5_clear : MethodName := ⟨RX5, "clear", "()V"⟩
abbrev cX5_copyFrom : ByteArray := prog_7_method_4_code
def yX5_copyFrom : MethodName := ⟨RX5, "copyFrom", "(LKnifeDoors$Text;)V"⟩
abbrev cX5_add : ByteArray := prog_7_method_5_code
def yX5_add : MethodName := ⟨RX5, "add", "(I)V"⟩
abbrev cX5_addDigit : ByteArray := prog_7_method_6_code
def yX5_addDigit : MethodName := ⟨RX5, "addDigit", "(I)V"⟩
abbrev cX5_workOut : ByteArray := prog_7_method_7_code
def yX5_workOut : MethodName := ⟨RX5, "workOut", "(IIII)I"⟩
abbrev cX5_named : ByteArray := prog_7_method_8_code
def yX5_named : MethodName := ⟨RX5, "named", "(IIIII)I"⟩
abbrev cX5_combined : ByteArray := prog_7_method_9_code
def yX5_combined : MethodName := ⟨RX5, "combined", "(III)I"⟩
def RX6 : String := "KnifeDoors$Voice"
def TX6 : u_T := fun k => match k with
  | 0 => ("KnifeDoors$Voice", "bodies", "[I", true)
  | 1 => ("KnifeDoors$Voice", "traced", "I", false)
  | 2 => ("KnifeDoors$Voice", "kind", "I", false)
  | 3 => ("KnifeDoors$Voice", "m", "I", false)
  | _ => ("KnifeDoors$Voice", "name", "I", false)
def tyX6 : Nat → FieldType := fun k => match k with
  | 0 => .array .int
  | 1 => .int
  | 2 => .int
  | 3 => .int
  | _ => .int
theorem nmX6 : ∀ a, a < 5 → ∀ b, b < 5 → a ≠ b → (TX6 a).2.1 ≠ (TX6 b).2.1 := by decide +kernel
theorem tyX6_ok : ∀ k, k < 5 → parseFieldDescriptor (TX6 k).2.2.1 = some (tyX6 k) := by decide +kernel
abbrev cX6_init : ByteArray := prog_8_method_1_code
def yX6_init : MethodName := ⟨RX6, "<init>", "()V"⟩
abbrev cX6_speak : ByteArray := prog_8_method_2_code
def yX6_speak : MethodName := ⟨RX6, "speak", "(ILKnifeDoors$Knife;II)I"⟩
abbrev cX6_bodyOf : ByteArray := prog_8_method_3_code
def yX6_bodyOf : MethodName := ⟨RX6, "bodyOf", "(I)I"⟩
abbrev cX6_body : ByteArray := prog_8_method_4_code
def yX6_body : MethodName := ⟨RX6, "body", "(III)I"⟩
abbrev cX6_begin : ByteArray := prog_8_method_5_code
def yX6_begin : MethodName := ⟨RX6, "begin", "(I)V"⟩
def RX7 : String := "KnifeDoors"
def TX7 : u_T := fun k => match k with
  | 0 => ("KnifeDoors", "now", "LKnifeDoors$Street;", true)
  | 1 => ("KnifeDoors", "ahead", "LKnifeDoors$Street;", true)
  | 2 => ("KnifeDoors", "kept", "LKnifeDoors$Street;", true)
  | 3 => ("KnifeDoors", "images", "I", false)
  | 4 => ("KnifeDoors", "reader", "LKnifeDoors$Reader;", true)
  | 5 => ("KnifeDoors", "trial", "LKnifeDoors$Knife;", true)
  | 6 => ("KnifeDoors", "recipes", "LKnifeDoors$Recipes;", true)
  | 7 => ("KnifeDoors", "speaker", "LKnifeDoors$Voice;", true)
  | 8 => ("KnifeDoors", "sheets", "[LKnifeDoors$Sheet;", true)
  | _ => ("KnifeDoors", "errors", "[I", true)
def tyX7 : Nat → FieldType := fun k => match k with
  | 0 => .object "KnifeDoors$Street"
  | 1 => .object "KnifeDoors$Street"
  | 2 => .object "KnifeDoors$Street"
  | 3 => .int
  | 4 => .object "KnifeDoors$Reader"
  | 5 => .object "KnifeDoors$Knife"
  | 6 => .object "KnifeDoors$Recipes"
  | 7 => .object "KnifeDoors$Voice"
  | 8 => .array (.object "KnifeDoors$Sheet")
  | _ => .array .int
theorem nmX7 : ∀ a, a < 10 → ∀ b, b < 10 → a ≠ b → (TX7 a).2.1 ≠ (TX7 b).2.1 := by decide +kernel
theorem tyX7_ok : ∀ k, k < 10 → parseFieldDescriptor (TX7 k).2.2.1 = some (tyX7 k) := by decide +kernel
abbrev cX7_init : ByteArray := prog_1_method_1_code
def yX7_init : MethodName := ⟨RX7, "<init>", "()V"⟩
abbrev cX7_knife : ByteArray := prog_1_method_2_code
def yX7_knife : MethodName := ⟨RX7, "knife", "(III)I"⟩
abbrev cX7_ofKnife : ByteArray := prog_1_method_3_code
def yX7_ofKnife : MethodName := ⟨RX7, "ofKnife", "(II)I"⟩
abbrev cX7_change : ByteArray := prog_1_method_4_code
def yX7_change : MethodName := ⟨RX7, "change", "(III)I"⟩
abbrev cX7_become : ByteArray := prog_1_method_5_code
def yX7_become : MethodName := ⟨RX7, "become", "(II)I"⟩
abbrev cX7_as : ByteArray := prog_1_method_6_code
def yX7_as : MethodName := ⟨RX7, "as", "(II)I"⟩
abbrev cX7_gains : ByteArray := prog_1_method_7_code
def yX7_gains : MethodName := ⟨RX7, "gains", "(II)I"⟩
abbrev cX7_turn : ByteArray := prog_1_method_8_code
def yX7_turn : MethodName := ⟨RX7, "turn", "(III)I"⟩
abbrev cX7_set : ByteArray := prog_1_method_9_code
def yX7_set : MethodName := ⟨RX7, "set", "(II)I"⟩
abbrev cX7_feed : ByteArray := prog_1_method_10_code
def yX7_feed : MethodName := ⟨RX7, "feed", "(JI)I"⟩
abbrev cX7_text : ByteArray := prog_1_method_11_code
def yX7_text : MethodName := ⟨RX7, "text", "(I)I"⟩
abbrev cX7_law : ByteArray := prog_1_method_12_code
def yX7_law : MethodName := ⟨RX7, "law", "(IIIII)I"⟩
abbrev cX7_visit : ByteArray := prog_1_method_13_code
def yX7_visit : MethodName := ⟨RX7, "visit", "()I"⟩
abbrev cX7_days : ByteArray := prog_1_method_14_code
def yX7_days : MethodName := ⟨RX7, "days", "(I)I"⟩
abbrev cX7_loose : ByteArray := prog_1_method_15_code
def yX7_loose : MethodName := ⟨RX7, "loose", "(I)I"⟩
abbrev cX7_then : ByteArray := prog_1_method_16_code
def yX7_then : MethodName := ⟨RX7, "then", "(III)I"⟩
abbrev cX7_thenPurse : ByteArray := prog_1_method_17_code
def yX7_thenPurse : MethodName := ⟨RX7, "thenPurse", "(I)I"⟩
abbrev cX7_often : ByteArray := prog_1_method_18_code
def yX7_often : MethodName := ⟨RX7, "often", "(I)I"⟩
abbrev cX7_dear : ByteArray := prog_1_method_19_code
def yX7_dear : MethodName := ⟨RX7, "dear", "(I)I"⟩
abbrev cX7_still : ByteArray := prog_1_method_20_code
def yX7_still : MethodName := ⟨RX7, "still", "(II)I"⟩
abbrev cX7_least : ByteArray := prog_1_method_21_code
def yX7_least : MethodName := ⟨RX7, "least", "(III)I"⟩
abbrev cX7_line : ByteArray := prog_1_method_22_code
def yX7_line : MethodName := ⟨RX7, "line", "(II)I"⟩
abbrev cX7_hand : ByteArray := prog_1_method_23_code
def yX7_hand : MethodName := ⟨RX7, "hand", "(IIII)I"⟩
abbrev cX7_seed : ByteArray := prog_1_method_24_code
def yX7_seed : MethodName := ⟨RX7, "seed", "(I)I"⟩
abbrev cX7_voice : ByteArray := prog_1_method_25_code
def yX7_voice : MethodName := ⟨RX7, "voice", "(III)I"⟩
abbrev cX7_trace : ByteArray := prog_1_method_26_code
def yX7_trace : MethodName := ⟨RX7, "trace", "(I)I"⟩
abbrev cX7_sheet : ByteArray := prog_1_method_27_code
def yX7_sheet : MethodName := ⟨RX7, "sheet", "(III)I"⟩
abbrev cX7_put : ByteArray := prog_1_method_28_code
def yX7_put : MethodName := ⟨RX7, "put", "(III)I"⟩
abbrev cX7_move : ByteArray := prog_1_method_29_code
def yX7_move : MethodName := ⟨RX7, "move", "(IIIII)I"⟩
abbrev cX7_knives : ByteArray := prog_1_method_30_code
def yX7_knives : MethodName := ⟨RX7, "knives", "(I)I"⟩
abbrev cX7_image : ByteArray := prog_1_method_31_code
def yX7_image : MethodName := ⟨RX7, "image", "()I"⟩
abbrev cX7_restore : ByteArray := prog_1_method_32_code
def yX7_restore : MethodName := ⟨RX7, "restore", "()I"⟩
abbrev cX7_tell : ByteArray := prog_1_method_33_code
def yX7_tell : MethodName := ⟨RX7, "tell", "(I)I"⟩
abbrev cX7_check : ByteArray := prog_1_method_34_code
def yX7_check : MethodName := ⟨RX7, "check", "(I)I"⟩
abbrev cX7_count : ByteArray := prog_1_method_35_code
def yX7_count : MethodName := ⟨RX7, "count", "(I)I"⟩
abbrev cX7_told : ByteArray := prog_1_method_36_code
def yX7_told : MethodName := ⟨RX7, "told", "(I)I"⟩
abbrev cX7_error : ByteArray := prog_1_method_37_code
def yX7_error : MethodName := ⟨RX7, "error", "(I)I"⟩
abbrev cX7_isKnife : ByteArray := prog_1_method_38_code
def yX7_isKnife : MethodName := ⟨RX7, "isKnife", "(I)Z"⟩
abbrev cX7_passOf : ByteArray := prog_1_method_39_code
def yX7_passOf : MethodName := ⟨RX7, "passOf", "(IZ)I"⟩
abbrev cX7_lookAhead : ByteArray := prog_1_method_40_code
def yX7_lookAhead : MethodName := ⟨RX7, "lookAhead", "(I)V"⟩
abbrev cX7_bestFor : ByteArray := prog_1_method_41_code
def yX7_bestFor : MethodName := ⟨RX7, "bestFor", "(II)I"⟩
abbrev cX7_leastSteel : ByteArray := prog_1_method_42_code
def yX7_leastSteel : MethodName := ⟨RX7, "leastSteel", "(LKnifeDoors$Knife;I)I"⟩
abbrev cX7_waysFrom : ByteArray := prog_1_method_43_code
def yX7_waysFrom : MethodName := ⟨RX7, "waysFrom", "(LKnifeDoors$Knife;II)I"⟩
abbrev cX7_isWithin : ByteArray := prog_1_method_44_code
def yX7_isWithin : MethodName := ⟨RX7, "isWithin", "(III)Z"⟩
abbrev cX7_held : ByteArray := prog_1_method_45_code
def yX7_held : MethodName := ⟨RX7, "held", "(III)I"⟩
abbrev cX7_isNewKnife : ByteArray := prog_1_method_46_code
def yX7_isNewKnife : MethodName := ⟨RX7, "isNewKnife", "(III)Z"⟩
abbrev cX7_isStone : ByteArray := prog_1_method_47_code
def yX7_isStone : MethodName := ⟨RX7, "isStone", "(I)Z"⟩
abbrev cX7_isUse : ByteArray := prog_1_method_48_code
def yX7_isUse : MethodName := ⟨RX7, "isUse", "(I)Z"⟩
abbrev cX7_isAhead : ByteArray := prog_1_method_49_code
def yX7_isAhead : MethodName := ⟨RX7, "isAhead", "(I)Z"⟩
abbrev cX7_isSheet : ByteArray := prog_1_method_50_code
def yX7_isSheet : MethodName := ⟨RX7, "isSheet", "(I)Z"⟩
abbrev cX7_isBits : ByteArray := prog_1_method_51_code
def yX7_isBits : MethodName := ⟨RX7, "isBits", "(I)Z"⟩
abbrev cX7_isOfKind : ByteArray := prog_1_method_52_code
def yX7_isOfKind : MethodName := ⟨RX7, "isOfKind", "(II)Z"⟩
def RX8 : String := "KnifeDoorsModel"
def TX8 : u_T := fun k => match k with
  | 0 => ("KnifeDoorsModel", "d", "[I", true)
  | 1 => ("KnifeDoorsModel", "e", "[I", true)
  | 2 => ("KnifeDoorsModel", "kept", "[I", true)
  | 3 => ("KnifeDoorsModel", "images", "I", false)
  | 4 => ("KnifeDoorsModel", "found", "[I", true)
  | 5 => ("KnifeDoorsModel", "base", "I", false)
  | 6 => ("KnifeDoorsModel", "at", "I", false)
  | 7 => ("KnifeDoorsModel", "size", "I", false)
  | 8 => ("KnifeDoorsModel", "fault", "I", false)
  | 9 => ("KnifeDoorsModel", "opened", "I", false)
  | 10 => ("KnifeDoorsModel", "isBring", "Z", false)
  | 11 => ("KnifeDoorsModel", "names", "[I", true)
  | 12 => ("KnifeDoorsModel", "code", "[I", true)
  | 13 => ("KnifeDoorsModel", "coded", "I", false)
  | 14 => ("KnifeDoorsModel", "pile", "[I", true)
  | 15 => ("KnifeDoorsModel", "broughtIn", "[I", true)
  | 16 => ("KnifeDoorsModel", "traced", "[I", true)
  | 17 => ("KnifeDoorsModel", "traceMany", "I", false)
  | 18 => ("KnifeDoorsModel", "who", "I", false)
  | 19 => ("KnifeDoorsModel", "bitsOf", "[I", true)
  | 20 => ("KnifeDoorsModel", "sizeOf", "[I", true)
  | 21 => ("KnifeDoorsModel", "number", "[I", true)
  | _ => ("KnifeDoorsModel", "lifted", "[I", true)
def tyX8 : Nat → FieldType := fun k => match k with
  | 0 => .array .int
  | 1 => .array .int
  | 2 => .array .int
  | 3 => .int
  | 4 => .array .int
  | 5 => .int
  | 6 => .int
  | 7 => .int
  | 8 => .int
  | 9 => .int
  | 10 => .boolean
  | 11 => .array .int
  | 12 => .array .int
  | 13 => .int
  | 14 => .array .int
  | 15 => .array .int
  | 16 => .array .int
  | 17 => .int
  | 18 => .int
  | 19 => .array .int
  | 20 => .array .int
  | 21 => .array .int
  | _ => .array .int
theorem nmX8 : ∀ a, a < 23 → ∀ b, b < 23 → a ≠ b → (TX8 a).2.1 ≠ (TX8 b).2.1 := by decide +kernel
theorem tyX8_ok : ∀ k, k < 23 → parseFieldDescriptor (TX8 k).2.2.1 = some (tyX8 k) := by decide +kernel
abbrev cX8_init : ByteArray := prog_10_method_1_code
def yX8_init : MethodName := ⟨RX8, "<init>", "()V"⟩
abbrev cX8_finds : ByteArray := prog_10_method_3_code
def yX8_finds : MethodName := ⟨RX8, "finds", "(I)I"⟩
abbrev cX8_in : ByteArray := prog_10_method_4_code
def yX8_in : MethodName := ⟨RX8, "in", "(JJJ)Z"⟩
abbrev cX8_held : ByteArray := prog_10_method_5_code
def yX8_held : MethodName := ⟨RX8, "held", "(III)I"⟩
abbrev cX8_lesser : ByteArray := prog_10_method_6_code
def yX8_lesser : MethodName := ⟨RX8, "lesser", "(II)I"⟩
abbrev cX8_copies : ByteArray := prog_10_method_7_code
def yX8_copies : MethodName := ⟨RX8, "copies", "([I[I)V"⟩
abbrev cX8_isKnife : ByteArray := prog_10_method_8_code
def yX8_isKnife : MethodName := ⟨RX8, "isKnife", "(I)Z"⟩
abbrev cX8_of : ByteArray := prog_10_method_9_code
def yX8_of : MethodName := ⟨RX8, "of", "(II)I"⟩
abbrev cX8_becomes : ByteArray := prog_10_method_10_code
def yX8_becomes : MethodName := ⟨RX8, "becomes", "(III)V"⟩
abbrev cX8_here : ByteArray := prog_10_method_11_code
def yX8_here : MethodName := ⟨RX8, "here", "()I"⟩
abbrev cX8_wrong : ByteArray := prog_10_method_12_code
def yX8_wrong : MethodName := ⟨RX8, "wrong", "()V"⟩
abbrev cX8_takes : ByteArray := prog_10_method_13_code
def yX8_takes : MethodName := ⟨RX8, "takes", "(I)Z"⟩
abbrev cX8_nameOf : ByteArray := prog_10_method_14_code
def yX8_nameOf : MethodName := ⟨RX8, "nameOf", "(I)I"⟩
abbrev cX8_lay : ByteArray := prog_10_method_15_code
def yX8_lay : MethodName := ⟨RX8, "lay", "(I)V"⟩
abbrev cX8_either : ByteArray := prog_10_method_16_code
def yX8_either : MethodName := ⟨RX8, "either", "()V"⟩
abbrev cX8_both : ByteArray := prog_10_method_17_code
def yX8_both : MethodName := ⟨RX8, "both", "()V"⟩
abbrev cX8_compared : ByteArray := prog_10_method_18_code
def yX8_compared : MethodName := ⟨RX8, "compared", "()V"⟩
abbrev cX8_sum : ByteArray := prog_10_method_19_code
def yX8_sum : MethodName := ⟨RX8, "sum", "()V"⟩
abbrev cX8_product : ByteArray := prog_10_method_20_code
def yX8_product : MethodName := ⟨RX8, "product", "()V"⟩
abbrev cX8_opens : ByteArray := prog_10_method_21_code
def yX8_opens : MethodName := ⟨RX8, "opens", "(I)V"⟩
abbrev cX8_unit : ByteArray := prog_10_method_22_code
def yX8_unit : MethodName := ⟨RX8, "unit", "()V"⟩
abbrev cX8_reads : ByteArray := prog_10_method_23_code
def yX8_reads : MethodName := ⟨RX8, "reads", "(III)V"⟩
abbrev cX8_done : ByteArray := prog_10_method_24_code
def yX8_done : MethodName := ⟨RX8, "done", "(III)I"⟩
abbrev cX8_worked : ByteArray := prog_10_method_25_code
def yX8_worked : MethodName := ⟨RX8, "worked", "(II)I"⟩
abbrev cX8_feed : ByteArray := prog_10_method_26_code
def yX8_feed : MethodName := ⟨RX8, "feed", "(JI)I"⟩
abbrev cX8_text : ByteArray := prog_10_method_27_code
def yX8_text : MethodName := ⟨RX8, "text", "(I)I"⟩
abbrev cX8_gives : ByteArray := prog_10_method_28_code
def yX8_gives : MethodName := ⟨RX8, "gives", "(IIIII)I"⟩
abbrev cX8_law : ByteArray := prog_10_method_29_code
def yX8_law : MethodName := ⟨RX8, "law", "(IIIII)I"⟩
abbrev cX8_isTold : ByteArray := prog_10_method_30_code
def yX8_isTold : MethodName := ⟨RX8, "isTold", "(III)Z"⟩
abbrev cX8_comes : ByteArray := prog_10_method_31_code
def yX8_comes : MethodName := ⟨RX8, "comes", "(III)I"⟩
abbrev cX8_knife : ByteArray := prog_10_method_32_code
def yX8_knife : MethodName := ⟨RX8, "knife", "(III)I"⟩
abbrev cX8_dullsOf : ByteArray := prog_10_method_33_code
def yX8_dullsOf : MethodName := ⟨RX8, "dullsOf", "(I)I"⟩
abbrev cX8_gainsOf : ByteArray := prog_10_method_34_code
def yX8_gainsOf : MethodName := ⟨RX8, "gainsOf", "(II)I"⟩
abbrev cX8_topOf : ByteArray := prog_10_method_35_code
def yX8_topOf : MethodName := ⟨RX8, "topOf", "(I)I"⟩
abbrev cX8_turns : ByteArray := prog_10_method_36_code
def yX8_turns : MethodName := ⟨RX8, "turns", "(II)V"⟩
abbrev cX8_isAs : ByteArray := prog_10_method_37_code
def yX8_isAs : MethodName := ⟨RX8, "isAs", "(II)I"⟩
abbrev cX8_ofKnife : ByteArray := prog_10_method_38_code
def yX8_ofKnife : MethodName := ⟨RX8, "ofKnife", "(II)I"⟩
abbrev cX8_mostOf : ByteArray := prog_10_method_39_code
def yX8_mostOf : MethodName := ⟨RX8, "mostOf", "(I)I"⟩
abbrev cX8_change : ByteArray := prog_10_method_40_code
def yX8_change : MethodName := ⟨RX8, "change", "(III)I"⟩
abbrev cX8_become : ByteArray := prog_10_method_41_code
def yX8_become : MethodName := ⟨RX8, "become", "(II)I"⟩
abbrev cX8_above : ByteArray := prog_10_method_42_code
def yX8_above : MethodName := ⟨RX8, "above", "(I)I"⟩
abbrev cX8_as : ByteArray := prog_10_method_43_code
def yX8_as : MethodName := ⟨RX8, "as", "(II)I"⟩
abbrev cX8_gains : ByteArray := prog_10_method_44_code
def yX8_gains : MethodName := ⟨RX8, "gains", "(II)I"⟩
abbrev cX8_turn : ByteArray := prog_10_method_45_code
def yX8_turn : MethodName := ⟨RX8, "turn", "(III)I"⟩
abbrev cX8_set : ByteArray := prog_10_method_46_code
def yX8_set : MethodName := ⟨RX8, "set", "(II)I"⟩
abbrev cX8_grinds : ByteArray := prog_10_method_47_code
def yX8_grinds : MethodName := ⟨RX8, "grinds", "(I)V"⟩
abbrev cX8_visits : ByteArray := prog_10_method_48_code
def yX8_visits : MethodName := ⟨RX8, "visits", "()I"⟩
abbrev cX8_visit : ByteArray := prog_10_method_49_code
def yX8_visit : MethodName := ⟨RX8, "visit", "()I"⟩
abbrev cX8_drawn : ByteArray := prog_10_method_50_code
def yX8_drawn : MethodName := ⟨RX8, "drawn", "()I"⟩
abbrev cX8_goesBy : ByteArray := prog_10_method_51_code
def yX8_goesBy : MethodName := ⟨RX8, "goesBy", "(Z)V"⟩
abbrev cX8_goesOn : ByteArray := prog_10_method_52_code
def yX8_goesOn : MethodName := ⟨RX8, "goesOn", "(I)V"⟩
abbrev cX8_goes : ByteArray := prog_10_method_53_code
def yX8_goes : MethodName := ⟨RX8, "goes", "(IZ)I"⟩
abbrev cX8_days : ByteArray := prog_10_method_54_code
def yX8_days : MethodName := ⟨RX8, "days", "(I)I"⟩
abbrev cX8_loose : ByteArray := prog_10_method_55_code
def yX8_loose : MethodName := ⟨RX8, "loose", "(I)I"⟩
abbrev cX8_then : ByteArray := prog_10_method_56_code
def yX8_then : MethodName := ⟨RX8, "then", "(III)I"⟩
abbrev cX8_purseBy : ByteArray := prog_10_method_57_code
def yX8_purseBy : MethodName := ⟨RX8, "purseBy", "(III)I"⟩
abbrev cX8_thenPurse : ByteArray := prog_10_method_58_code
def yX8_thenPurse : MethodName := ⟨RX8, "thenPurse", "(I)I"⟩
abbrev cX8_bestBy : ByteArray := prog_10_method_59_code
def yX8_bestBy : MethodName := ⟨RX8, "bestBy", "(IIII)I"⟩
abbrev cX8_often : ByteArray := prog_10_method_60_code
def yX8_often : MethodName := ⟨RX8, "often", "(I)I"⟩
abbrev cX8_dear : ByteArray := prog_10_method_61_code
def yX8_dear : MethodName := ⟨RX8, "dear", "(I)I"⟩
abbrev cX8_still : ByteArray := prog_10_method_62_code
def yX8_still : MethodName := ⟨RX8, "still", "(II)I"⟩
abbrev cX8_turnsOn : ByteArray := prog_10_method_63_code
def yX8_turnsOn : MethodName := ⟨RX8, "turnsOn", "(II)I"⟩
abbrev cX8_grindsBy : ByteArray := prog_10_method_64_code
def yX8_grindsBy : MethodName := ⟨RX8, "grindsBy", "(II)V"⟩
abbrev cX8_allTurns : ByteArray := prog_10_method_65_code
def yX8_allTurns : MethodName := ⟨RX8, "allTurns", "(I)I"⟩
abbrev cX8_least : ByteArray := prog_10_method_66_code
def yX8_least : MethodName := ⟨RX8, "least", "(III)I"⟩
abbrev cX8_line : ByteArray := prog_10_method_67_code
def yX8_line : MethodName := ⟨RX8, "line", "(II)I"⟩
abbrev cX8_hand : ByteArray := prog_10_method_68_code
def yX8_hand : MethodName := ⟨RX8, "hand", "(IIII)I"⟩
abbrev cX8_seed : ByteArray := prog_10_method_69_code
def yX8_seed : MethodName := ⟨RX8, "seed", "(I)I"⟩
abbrev cX8_ran : ByteArray := prog_10_method_70_code
def yX8_ran : MethodName := ⟨RX8, "ran", "(I)V"⟩
abbrev cX8_own : ByteArray := prog_10_method_71_code
def yX8_own : MethodName := ⟨RX8, "own", "()I"⟩
abbrev cX8_cut : ByteArray := prog_10_method_72_code
def yX8_cut : MethodName := ⟨RX8, "cut", "(II)I"⟩
abbrev cX8_rings : ByteArray := prog_10_method_73_code
def yX8_rings : MethodName := ⟨RX8, "rings", "(II)I"⟩
abbrev cX8_grind : ByteArray := prog_10_method_74_code
def yX8_grind : MethodName := ⟨RX8, "grind", "(II)I"⟩
abbrev cX8_tells : ByteArray := prog_10_method_75_code
def yX8_tells : MethodName := ⟨RX8, "tells", "(II)I"⟩
abbrev cX8_voice : ByteArray := prog_10_method_76_code
def yX8_voice : MethodName := ⟨RX8, "voice", "(III)I"⟩
abbrev cX8_trace : ByteArray := prog_10_method_77_code
def yX8_trace : MethodName := ⟨RX8, "trace", "(I)I"⟩
abbrev cX8_isSheet : ByteArray := prog_10_method_78_code
def yX8_isSheet : MethodName := ⟨RX8, "isSheet", "(I)Z"⟩
abbrev cX8_sheet : ByteArray := prog_10_method_79_code
def yX8_sheet : MethodName := ⟨RX8, "sheet", "(III)I"⟩
abbrev cX8_put : ByteArray := prog_10_method_80_code
def yX8_put : MethodName := ⟨RX8, "put", "(III)I"⟩
abbrev cX8_move : ByteArray := prog_10_method_81_code
def yX8_move : MethodName := ⟨RX8, "move", "(IIIII)I"⟩
abbrev cX8_knives : ByteArray := prog_10_method_82_code
def yX8_knives : MethodName := ⟨RX8, "knives", "(I)I"⟩
abbrev cX8_image : ByteArray := prog_10_method_83_code
def yX8_image : MethodName := ⟨RX8, "image", "()I"⟩
abbrev cX8_restore : ByteArray := prog_10_method_84_code
def yX8_restore : MethodName := ⟨RX8, "restore", "()I"⟩
abbrev cX8_tell : ByteArray := prog_10_method_85_code
def yX8_tell : MethodName := ⟨RX8, "tell", "(I)I"⟩
abbrev cX8_check : ByteArray := prog_10_method_86_code
def yX8_check : MethodName := ⟨RX8, "check", "(I)I"⟩
abbrev cX8_sumOf : ByteArray := prog_10_method_87_code
def yX8_sumOf : MethodName := ⟨RX8, "sumOf", "(I)I"⟩
abbrev cX8_count : ByteArray := prog_10_method_88_code
def yX8_count : MethodName := ⟨RX8, "count", "(I)I"⟩
abbrev cX8_told : ByteArray := prog_10_method_89_code
def yX8_told : MethodName := ⟨RX8, "told", "(I)I"⟩
def RJ11 : String := "java/lang/Character"
def TJ11 : u_T := fun k => match k with
  | _ => ("", "", "", false)
def tyJ11 : Nat → FieldType := fun k => match k with
  | _ => .int
abbrev cJ11_isValidCodePoint_9a6ad : ByteArray := prog_11_method_11_code
def yJ11_isValidCodePoint_9a6ad : MethodName := ⟨RJ11, "isValidCodePoint", "(I)Z"⟩
abbrev cJ11_highSurrogate_5068e : ByteArray := prog_11_method_28_code
def yJ11_highSurrogate_5068e : MethodName := ⟨RJ11, "highSurrogate", "(I)C"⟩
abbrev cJ11_lowSurrogate_5068e : ByteArray := prog_11_method_29_code
def yJ11_lowSurrogate_5068e : MethodName := ⟨RJ11, "lowSurrogate", "(I)C"⟩
def RJ9 : String := "java/lang/Math"
def TJ9 : u_T := fun k => match k with
  | _ => ("", "", "", false)
def tyJ9 : Nat → FieldType := fun k => match k with
  | _ => .int
abbrev cJ9_max_7cf53 : ByteArray := prog_12_method_65_code
def yJ9_max_7cf53 : MethodName := ⟨RJ9, "max", "(II)I"⟩
abbrev cJ9_min_7cf53 : ByteArray := prog_12_method_69_code
def yJ9_min_7cf53 : MethodName := ⟨RJ9, "min", "(II)I"⟩
def RJ0 : String := "java/lang/String"
def TJ0 : u_T := fun k => match k with
  | _ => ("", "", "", false)
def tyJ0 : Nat → FieldType := fun k => match k with
  | _ => .int
abbrev cJ0_length_8abf5 : ByteArray := prog_13_method_54_code
def yJ0_length_8abf5 : MethodName := ⟨RJ0, "length", "()I"⟩
abbrev cJ0_indexOf_0f7a4 : ByteArray := prog_13_method_79_code
def yJ0_indexOf_0f7a4 : MethodName := ⟨RJ0, "indexOf", "(I)I"⟩
abbrev cJ0_indexOf_7cf53 : ByteArray := prog_13_method_80_code
def yJ0_indexOf_7cf53 : MethodName := ⟨RJ0, "indexOf", "(II)I"⟩
abbrev cJ0_coder_7d493 : ByteArray := prog_13_method_152_code
def yJ0_coder_7d493 : MethodName := ⟨RJ0, "coder", "()B"⟩
abbrev cJ0_isLatin1_aae02 : ByteArray := prog_13_method_154_code
def yJ0_isLatin1_aae02 : MethodName := ⟨RJ0, "isLatin1", "()Z"⟩
abbrev cJ0_checkBoundsBeginEnd_23922 : ByteArray := prog_13_method_158_code
def yJ0_checkBoundsBeginEnd_23922 : MethodName := ⟨RJ0, "checkBoundsBeginEnd", "(III)V"⟩
def RJ1 : String := "java/lang/StringLatin1"
def TJ1 : u_T := fun k => match k with
  | _ => ("", "", "", false)
def tyJ1 : Nat → FieldType := fun k => match k with
  | _ => .int
abbrev cJ1_canEncode_9a6ad : ByteArray := prog_14_method_4_code
def yJ1_canEncode_9a6ad : MethodName := ⟨RJ1, "canEncode", "(I)Z"⟩
abbrev cJ1_indexOf_4cfef : ByteArray := prog_14_method_22_code
def yJ1_indexOf_4cfef : MethodName := ⟨RJ1, "indexOf", "([BIII)I"⟩
abbrev cJ1_indexOfChar_4cfef : ByteArray := prog_14_method_23_code
def yJ1_indexOfChar_4cfef : MethodName := ⟨RJ1, "indexOfChar", "([BIII)I"⟩
def RJ2 : String := "java/lang/StringUTF16"
def TJ2 : u_T := fun k => match k with
  | _ => ("", "", "", false)
def tyJ2 : Nat → FieldType := fun k => match k with
  | _ => .int
abbrev cJ2_getChar_3b067 : ByteArray := prog_15_method_5_code
def yJ2_getChar_3b067 : MethodName := ⟨RJ2, "getChar", "([BI)C"⟩
abbrev cJ2_length_9d52b : ByteArray := prog_15_method_6_code
def yJ2_length_9d52b : MethodName := ⟨RJ2, "length", "([B)I"⟩
abbrev cJ2_indexOf_4cfef : ByteArray := prog_15_method_40_code
def yJ2_indexOf_4cfef : MethodName := ⟨RJ2, "indexOf", "([BIII)I"⟩
abbrev cJ2_indexOfChar_4cfef : ByteArray := prog_15_method_47_code
def yJ2_indexOfChar_4cfef : MethodName := ⟨RJ2, "indexOfChar", "([BIII)I"⟩
abbrev cJ2_indexOfCharUnsafe_4cfef : ByteArray := prog_15_method_48_code
def yJ2_indexOfCharUnsafe_4cfef : MethodName := ⟨RJ2, "indexOfCharUnsafe", "([BIII)I"⟩
abbrev cJ2_indexOfSupplementary_4cfef : ByteArray := prog_15_method_49_code
def yJ2_indexOfSupplementary_4cfef : MethodName := ⟨RJ2, "indexOfSupplementary", "([BIII)I"⟩
abbrev cJ2_checkBoundsBeginEnd_d044e : ByteArray := prog_15_method_93_code
def yJ2_checkBoundsBeginEnd_d044e : MethodName := ⟨RJ2, "checkBoundsBeginEnd", "(II[B)V"⟩
def RJ10 : String := "java/lang/System"
def TJ10 : u_T := fun k => match k with
  | _ => ("", "", "", false)
def tyJ10 : Nat → FieldType := fun k => match k with
  | _ => .int
def RJ3 : String := "jdk/internal/util/Preconditions"
def TJ3 : u_T := fun k => match k with
  | _ => ("", "", "", false)
def tyJ3 : Nat → FieldType := fun k => match k with
  | _ => .int
abbrev cJ3_checkFromToIndex_8c36e : ByteArray := prog_17_method_12_code
def yJ3_checkFromToIndex_8c36e : MethodName := ⟨RJ3, "checkFromToIndex", "(IIILjava/util/function/BiFunction;)I"⟩
def RL : String := "KnifeDoorsLaw"
abbrev cL_law : ByteArray := code
def yL_law : MethodName := ⟨RL, "law", "([I)Z"⟩
abbrev vwCl : List vw_C := [(RX0, TX0, 9), (RX1, TX1, 7), (RX2, TX2, 4), (RX3, TX3, 3), (RX4, TX4, 16), (RX5, TX5, 3), (RX6, TX6, 5), (RX7, TX7, 10), (RX8, TX8, 23)]
