section
-- ===== PART A: goes FIRST, ahead of the names: the tables' words, and 'selects' of the private methods out of them =====
/-- a private method of a class that the tables say can be made, by its rows of tables_1 -/
def lw_okq (q : MethodName × Nat) : Prop := (q.1.cls ≠ "java/lang/invoke/MethodHandle" ∧ q.1.cls ≠ "java/lang/invoke/VarHandle") ∧ Cond.instantiable q.1.cls q.2 ∈ tables_1 ∧ Cond.privateMethod q.1 ∈ tables_1 ∧ Cond.instanceMethod q.1 ∈ tables_1
theorem lw_p0 : lw_okq (⟨"HuntersIntroduced$Reader", "scan", "()V"⟩, 11) := ⟨⟨by decide +kernel, by decide +kernel⟩, List.mem_of_getElem? (i := 90) (by decide +kernel), List.mem_of_getElem? (i := 254) (by decide +kernel), List.mem_of_getElem? (i := 255) (by decide +kernel)⟩
theorem lw_p1 : lw_okq (⟨"HuntersIntroduced$Reader", "endFrom", "(I)I"⟩, 11) := ⟨⟨by decide +kernel, by decide +kernel⟩, List.mem_of_getElem? (i := 90) (by decide +kernel), List.mem_of_getElem? (i := 258) (by decide +kernel), List.mem_of_getElem? (i := 259) (by decide +kernel)⟩
theorem lw_p2 : lw_okq (⟨"HuntersIntroduced$Reader", "tokenOf", "(II)I"⟩, 11) := ⟨⟨by decide +kernel, by decide +kernel⟩, List.mem_of_getElem? (i := 90) (by decide +kernel), List.mem_of_getElem? (i := 265) (by decide +kernel), List.mem_of_getElem? (i := 266) (by decide +kernel)⟩
theorem lw_p3 : lw_okq (⟨"HuntersIntroduced$Reader", "wordFrom", "(II)I"⟩, 11) := ⟨⟨by decide +kernel, by decide +kernel⟩, List.mem_of_getElem? (i := 90) (by decide +kernel), List.mem_of_getElem? (i := 269) (by decide +kernel), List.mem_of_getElem? (i := 270) (by decide +kernel)⟩
theorem lw_p4 : lw_okq (⟨"HuntersIntroduced$Reader", "stands", "(Ljava/lang/String;II)Z"⟩, 11) := ⟨⟨by decide +kernel, by decide +kernel⟩, List.mem_of_getElem? (i := 90) (by decide +kernel), List.mem_of_getElem? (i := 274) (by decide +kernel), List.mem_of_getElem? (i := 275) (by decide +kernel)⟩
theorem lw_p5 : lw_okq (⟨"HuntersIntroduced$Reader", "numberFrom", "(II)I"⟩, 11) := ⟨⟨by decide +kernel, by decide +kernel⟩, List.mem_of_getElem? (i := 90) (by decide +kernel), List.mem_of_getElem? (i := 291) (by decide +kernel), List.mem_of_getElem? (i := 292) (by decide +kernel)⟩
theorem lw_p6 : lw_okq (⟨"HuntersIntroduced$Reader", "expect", "(I)V"⟩, 11) := ⟨⟨by decide +kernel, by decide +kernel⟩, List.mem_of_getElem? (i := 90) (by decide +kernel), List.mem_of_getElem? (i := 298) (by decide +kernel), List.mem_of_getElem? (i := 299) (by decide +kernel)⟩
theorem lw_p7 : lw_okq (⟨"HuntersIntroduced$Reader", "advance", "()V"⟩, 11) := ⟨⟨by decide +kernel, by decide +kernel⟩, List.mem_of_getElem? (i := 90) (by decide +kernel), List.mem_of_getElem? (i := 302) (by decide +kernel), List.mem_of_getElem? (i := 303) (by decide +kernel)⟩
theorem lw_p8 : lw_okq (⟨"HuntersIntroduced$Reader", "fail", "()V"⟩, 11) := ⟨⟨by decide +kernel, by decide +kernel⟩, List.mem_of_getElem? (i := 90) (by decide +kernel), List.mem_of_getElem? (i := 306) (by decide +kernel), List.mem_of_getElem? (i := 307) (by decide +kernel)⟩
theorem lw_p9 : lw_okq (⟨"HuntersIntroduced$Reader", "join", "(II)V"⟩, 11) := ⟨⟨by decide +kernel, by decide +kernel⟩, List.mem_of_getElem? (i := 90) (by decide +kernel), List.mem_of_getElem? (i := 310) (by decide +kernel), List.mem_of_getElem? (i := 311) (by decide +kernel)⟩
theorem lw_p10 : lw_okq (⟨"HuntersIntroduced$Reader", "one", "(I)V"⟩, 11) := ⟨⟨by decide +kernel, by decide +kernel⟩, List.mem_of_getElem? (i := 90) (by decide +kernel), List.mem_of_getElem? (i := 314) (by decide +kernel), List.mem_of_getElem? (i := 315) (by decide +kernel)⟩
theorem lw_p11 : lw_okq (⟨"HuntersIntroduced$Reader", "emit", "(I)V"⟩, 11) := ⟨⟨by decide +kernel, by decide +kernel⟩, List.mem_of_getElem? (i := 90) (by decide +kernel), List.mem_of_getElem? (i := 318) (by decide +kernel), List.mem_of_getElem? (i := 319) (by decide +kernel)⟩
theorem lw_p12 : lw_okq (⟨"HuntersIntroduced$Reader", "opens", "(I)Z"⟩, 11) := ⟨⟨by decide +kernel, by decide +kernel⟩, List.mem_of_getElem? (i := 90) (by decide +kernel), List.mem_of_getElem? (i := 322) (by decide +kernel), List.mem_of_getElem? (i := 323) (by decide +kernel)⟩
theorem lw_p13 : lw_okq (⟨"HuntersIntroduced", "isHunter", "(I)Z"⟩, 9) := ⟨⟨by decide +kernel, by decide +kernel⟩, List.mem_of_getElem? (i := 18) (by decide +kernel), List.mem_of_getElem? (i := 448) (by decide +kernel), List.mem_of_getElem? (i := 449) (by decide +kernel)⟩
theorem lw_p14 : lw_okq (⟨"HuntersIntroduced$Ways", "isWilling", "(I)Z"⟩, 2) := ⟨⟨by decide +kernel, by decide +kernel⟩, List.mem_of_getElem? (i := 153) (by decide +kernel), List.mem_of_getElem? (i := 516) (by decide +kernel), List.mem_of_getElem? (i := 517) (by decide +kernel)⟩
theorem lw_p15 : lw_okq (⟨"HuntersIntroduced$Ways", "nearer", "(LHuntersIntroduced$Forest;I)I"⟩, 2) := ⟨⟨by decide +kernel, by decide +kernel⟩, List.mem_of_getElem? (i := 153) (by decide +kernel), List.mem_of_getElem? (i := 573) (by decide +kernel), List.mem_of_getElem? (i := 574) (by decide +kernel)⟩
def lw_privs_1 : List (MethodName × Nat) := [(⟨"HuntersIntroduced$Reader", "scan", "()V"⟩, 11), (⟨"HuntersIntroduced$Reader", "endFrom", "(I)I"⟩, 11), (⟨"HuntersIntroduced$Reader", "tokenOf", "(II)I"⟩, 11), (⟨"HuntersIntroduced$Reader", "wordFrom", "(II)I"⟩, 11), (⟨"HuntersIntroduced$Reader", "stands", "(Ljava/lang/String;II)Z"⟩, 11), (⟨"HuntersIntroduced$Reader", "numberFrom", "(II)I"⟩, 11), (⟨"HuntersIntroduced$Reader", "expect", "(I)V"⟩, 11), (⟨"HuntersIntroduced$Reader", "advance", "()V"⟩, 11), (⟨"HuntersIntroduced$Reader", "fail", "()V"⟩, 11), (⟨"HuntersIntroduced$Reader", "join", "(II)V"⟩, 11), (⟨"HuntersIntroduced$Reader", "one", "(I)V"⟩, 11), (⟨"HuntersIntroduced$Reader", "emit", "(I)V"⟩, 11), (⟨"HuntersIntroduced$Reader", "opens", "(I)Z"⟩, 11), (⟨"HuntersIntroduced", "isHunter", "(I)Z"⟩, 9), (⟨"HuntersIntroduced$Ways", "isWilling", "(I)Z"⟩, 2), (⟨"HuntersIntroduced$Ways", "nearer", "(LHuntersIntroduced$Forest;I)I"⟩, 2)]
theorem lw_r1 : ∀ q ∈ lw_privs_1, lw_okq q := List.forall_mem_cons.mpr ⟨lw_p0, List.forall_mem_cons.mpr ⟨lw_p1, List.forall_mem_cons.mpr ⟨lw_p2, List.forall_mem_cons.mpr ⟨lw_p3, List.forall_mem_cons.mpr ⟨lw_p4, List.forall_mem_cons.mpr ⟨lw_p5, List.forall_mem_cons.mpr ⟨lw_p6, List.forall_mem_cons.mpr ⟨lw_p7, List.forall_mem_cons.mpr ⟨lw_p8, List.forall_mem_cons.mpr ⟨lw_p9, List.forall_mem_cons.mpr ⟨lw_p10, List.forall_mem_cons.mpr ⟨lw_p11, List.forall_mem_cons.mpr ⟨lw_p12, List.forall_mem_cons.mpr ⟨lw_p13, List.forall_mem_cons.mpr ⟨lw_p14, List.forall_mem_cons.mpr ⟨lw_p15, fun _ h => absurd h List.not_mem_nil⟩⟩⟩⟩⟩⟩⟩⟩⟩⟩⟩⟩⟩⟩⟩⟩
theorem lw_p16 : lw_okq (⟨"HuntersIntroduced", "shotRefusal", "(II)I"⟩, 9) := ⟨⟨by decide +kernel, by decide +kernel⟩, List.mem_of_getElem? (i := 18) (by decide +kernel), List.mem_of_getElem? (i := 582) (by decide +kernel), List.mem_of_getElem? (i := 583) (by decide +kernel)⟩
theorem lw_p17 : lw_okq (⟨"HuntersIntroduced", "seasonRefusal", "(I)I"⟩, 9) := ⟨⟨by decide +kernel, by decide +kernel⟩, List.mem_of_getElem? (i := 18) (by decide +kernel), List.mem_of_getElem? (i := 611) (by decide +kernel), List.mem_of_getElem? (i := 612) (by decide +kernel)⟩
theorem lw_p18 : lw_okq (⟨"HuntersIntroduced", "shootAll", "(LHuntersIntroduced$Forest;LHuntersIntroduced$Sheet;II)I"⟩, 9) := ⟨⟨by decide +kernel, by decide +kernel⟩, List.mem_of_getElem? (i := 18) (by decide +kernel), List.mem_of_getElem? (i := 632) (by decide +kernel), List.mem_of_getElem? (i := 633) (by decide +kernel)⟩
theorem lw_p19 : lw_okq (⟨"HuntersIntroduced", "judgeRefusal", "(III)I"⟩, 9) := ⟨⟨by decide +kernel, by decide +kernel⟩, List.mem_of_getElem? (i := 18) (by decide +kernel), List.mem_of_getElem? (i := 671) (by decide +kernel), List.mem_of_getElem? (i := 672) (by decide +kernel)⟩
theorem lw_p20 : lw_okq (⟨"HuntersIntroduced", "tellingRefusal", "(II)I"⟩, 9) := ⟨⟨by decide +kernel, by decide +kernel⟩, List.mem_of_getElem? (i := 18) (by decide +kernel), List.mem_of_getElem? (i := 675) (by decide +kernel), List.mem_of_getElem? (i := 676) (by decide +kernel)⟩
theorem lw_p21 : lw_okq (⟨"HuntersIntroduced", "firstOtherwise", "(LHuntersIntroduced$Sheet;LHuntersIntroduced$Sheet;I)I"⟩, 9) := ⟨⟨by decide +kernel, by decide +kernel⟩, List.mem_of_getElem? (i := 18) (by decide +kernel), List.mem_of_getElem? (i := 679) (by decide +kernel), List.mem_of_getElem? (i := 680) (by decide +kernel)⟩
theorem lw_p22 : lw_okq (⟨"HuntersIntroduced", "shootByLots", "(II)I"⟩, 9) := ⟨⟨by decide +kernel, by decide +kernel⟩, List.mem_of_getElem? (i := 18) (by decide +kernel), List.mem_of_getElem? (i := 720) (by decide +kernel), List.mem_of_getElem? (i := 721) (by decide +kernel)⟩
theorem lw_p23 : lw_okq (⟨"HuntersIntroducedModel", "next", "()V"⟩, 36) := ⟨⟨by decide +kernel, by decide +kernel⟩, List.mem_of_getElem? (i := 773) (by decide +kernel), List.mem_of_getElem? (i := 783) (by decide +kernel), List.mem_of_getElem? (i := 784) (by decide +kernel)⟩
theorem lw_p24 : lw_okq (⟨"HuntersIntroducedModel", "wordFrom", "(II)I"⟩, 36) := ⟨⟨by decide +kernel, by decide +kernel⟩, List.mem_of_getElem? (i := 773) (by decide +kernel), List.mem_of_getElem? (i := 790) (by decide +kernel), List.mem_of_getElem? (i := 791) (by decide +kernel)⟩
theorem lw_p25 : lw_okq (⟨"HuntersIntroducedModel", "eRead", "()Z"⟩, 36) := ⟨⟨by decide +kernel, by decide +kernel⟩, List.mem_of_getElem? (i := 773) (by decide +kernel), List.mem_of_getElem? (i := 794) (by decide +kernel), List.mem_of_getElem? (i := 795) (by decide +kernel)⟩
theorem lw_p26 : lw_okq (⟨"HuntersIntroducedModel", "puts", "(I)V"⟩, 36) := ⟨⟨by decide +kernel, by decide +kernel⟩, List.mem_of_getElem? (i := 773) (by decide +kernel), List.mem_of_getElem? (i := 799) (by decide +kernel), List.mem_of_getElem? (i := 800) (by decide +kernel)⟩
theorem lw_p27 : lw_okq (⟨"HuntersIntroducedModel", "unwinds", "(I)V"⟩, 36) := ⟨⟨by decide +kernel, by decide +kernel⟩, List.mem_of_getElem? (i := 773) (by decide +kernel), List.mem_of_getElem? (i := 803) (by decide +kernel), List.mem_of_getElem? (i := 804) (by decide +kernel)⟩
theorem lw_p28 : lw_okq (⟨"HuntersIntroducedModel", "opensOne", "(I)Z"⟩, 36) := ⟨⟨by decide +kernel, by decide +kernel⟩, List.mem_of_getElem? (i := 773) (by decide +kernel), List.mem_of_getElem? (i := 810) (by decide +kernel), List.mem_of_getElem? (i := 811) (by decide +kernel)⟩
theorem lw_p29 : lw_okq (⟨"HuntersIntroducedModel", "holds", "(I)V"⟩, 36) := ⟨⟨by decide +kernel, by decide +kernel⟩, List.mem_of_getElem? (i := 773) (by decide +kernel), List.mem_of_getElem? (i := 814) (by decide +kernel), List.mem_of_getElem? (i := 815) (by decide +kernel)⟩
theorem lw_p30 : lw_okq (⟨"HuntersIntroducedModel", "signOf", "()I"⟩, 36) := ⟨⟨by decide +kernel, by decide +kernel⟩, List.mem_of_getElem? (i := 773) (by decide +kernel), List.mem_of_getElem? (i := 818) (by decide +kernel), List.mem_of_getElem? (i := 819) (by decide +kernel)⟩
theorem lw_p31 : lw_okq (⟨"HuntersIntroducedModel", "between", "(I)Z"⟩, 36) := ⟨⟨by decide +kernel, by decide +kernel⟩, List.mem_of_getElem? (i := 773) (by decide +kernel), List.mem_of_getElem? (i := 822) (by decide +kernel), List.mem_of_getElem? (i := 823) (by decide +kernel)⟩
def lw_privs_2 : List (MethodName × Nat) := [(⟨"HuntersIntroduced", "shotRefusal", "(II)I"⟩, 9), (⟨"HuntersIntroduced", "seasonRefusal", "(I)I"⟩, 9), (⟨"HuntersIntroduced", "shootAll", "(LHuntersIntroduced$Forest;LHuntersIntroduced$Sheet;II)I"⟩, 9), (⟨"HuntersIntroduced", "judgeRefusal", "(III)I"⟩, 9), (⟨"HuntersIntroduced", "tellingRefusal", "(II)I"⟩, 9), (⟨"HuntersIntroduced", "firstOtherwise", "(LHuntersIntroduced$Sheet;LHuntersIntroduced$Sheet;I)I"⟩, 9), (⟨"HuntersIntroduced", "shootByLots", "(II)I"⟩, 9), (⟨"HuntersIntroducedModel", "next", "()V"⟩, 36), (⟨"HuntersIntroducedModel", "wordFrom", "(II)I"⟩, 36), (⟨"HuntersIntroducedModel", "eRead", "()Z"⟩, 36), (⟨"HuntersIntroducedModel", "puts", "(I)V"⟩, 36), (⟨"HuntersIntroducedModel", "unwinds", "(I)V"⟩, 36), (⟨"HuntersIntroducedModel", "opensOne", "(I)Z"⟩, 36), (⟨"HuntersIntroducedModel", "holds", "(I)V"⟩, 36), (⟨"HuntersIntroducedModel", "signOf", "()I"⟩, 36), (⟨"HuntersIntroducedModel", "between", "(I)Z"⟩, 36)]
theorem lw_r2 : ∀ q ∈ lw_privs_2, lw_okq q := List.forall_mem_cons.mpr ⟨lw_p16, List.forall_mem_cons.mpr ⟨lw_p17, List.forall_mem_cons.mpr ⟨lw_p18, List.forall_mem_cons.mpr ⟨lw_p19, List.forall_mem_cons.mpr ⟨lw_p20, List.forall_mem_cons.mpr ⟨lw_p21, List.forall_mem_cons.mpr ⟨lw_p22, List.forall_mem_cons.mpr ⟨lw_p23, List.forall_mem_cons.mpr ⟨lw_p24, List.forall_mem_cons.mpr ⟨lw_p25, List.forall_mem_cons.mpr ⟨lw_p26, List.forall_mem_cons.mpr ⟨lw_p27, List.forall_mem_cons.mpr ⟨lw_p28, List.forall_mem_cons.mpr ⟨lw_p29, List.forall_mem_cons.mpr ⟨lw_p30, List.forall_mem_cons.mpr ⟨lw_p31, fun _ h => absurd h List.not_mem_nil⟩⟩⟩⟩⟩⟩⟩⟩⟩⟩⟩⟩⟩⟩⟩⟩
theorem lw_p32 : lw_okq (⟨"HuntersIntroducedModel", "forestHeld", "(II)I"⟩, 36) := ⟨⟨by decide +kernel, by decide +kernel⟩, List.mem_of_getElem? (i := 773) (by decide +kernel), List.mem_of_getElem? (i := 949) (by decide +kernel), List.mem_of_getElem? (i := 950) (by decide +kernel)⟩
theorem lw_p33 : lw_okq (⟨"HuntersIntroducedModel", "cardsWith", "(I)I"⟩, 36) := ⟨⟨by decide +kernel, by decide +kernel⟩, List.mem_of_getElem? (i := 773) (by decide +kernel), List.mem_of_getElem? (i := 957) (by decide +kernel), List.mem_of_getElem? (i := 958) (by decide +kernel)⟩
theorem lw_p34 : lw_okq (⟨"HuntersIntroducedModel", "isCard", "(II)Z"⟩, 36) := ⟨⟨by decide +kernel, by decide +kernel⟩, List.mem_of_getElem? (i := 773) (by decide +kernel), List.mem_of_getElem? (i := 961) (by decide +kernel), List.mem_of_getElem? (i := 962) (by decide +kernel)⟩
theorem lw_p35 : lw_okq (⟨"HuntersIntroducedModel", "isOne", "(I)Z"⟩, 36) := ⟨⟨by decide +kernel, by decide +kernel⟩, List.mem_of_getElem? (i := 773) (by decide +kernel), List.mem_of_getElem? (i := 981) (by decide +kernel), List.mem_of_getElem? (i := 982) (by decide +kernel)⟩
theorem lw_p36 : lw_okq (⟨"HuntersIntroducedModel", "asksOf", "(III)I"⟩, 36) := ⟨⟨by decide +kernel, by decide +kernel⟩, List.mem_of_getElem? (i := 773) (by decide +kernel), List.mem_of_getElem? (i := 985) (by decide +kernel), List.mem_of_getElem? (i := 986) (by decide +kernel)⟩
theorem lw_p37 : lw_okq (⟨"HuntersIntroducedModel", "says", "(I)I"⟩, 36) := ⟨⟨by decide +kernel, by decide +kernel⟩, List.mem_of_getElem? (i := 773) (by decide +kernel), List.mem_of_getElem? (i := 989) (by decide +kernel), List.mem_of_getElem? (i := 990) (by decide +kernel)⟩
theorem lw_p38 : lw_okq (⟨"HuntersIntroducedModel", "areTwo", "(II)Z"⟩, 36) := ⟨⟨by decide +kernel, by decide +kernel⟩, List.mem_of_getElem? (i := 773) (by decide +kernel), List.mem_of_getElem? (i := 1007) (by decide +kernel), List.mem_of_getElem? (i := 1008) (by decide +kernel)⟩
theorem lw_p39 : lw_okq (⟨"HuntersIntroducedModel", "haveMet", "(II)Z"⟩, 36) := ⟨⟨by decide +kernel, by decide +kernel⟩, List.mem_of_getElem? (i := 773) (by decide +kernel), List.mem_of_getElem? (i := 1011) (by decide +kernel), List.mem_of_getElem? (i := 1012) (by decide +kernel)⟩
theorem lw_p40 : lw_okq (⟨"HuntersIntroducedModel", "meets", "(III)V"⟩, 36) := ⟨⟨by decide +kernel, by decide +kernel⟩, List.mem_of_getElem? (i := 773) (by decide +kernel), List.mem_of_getElem? (i := 1015) (by decide +kernel), List.mem_of_getElem? (i := 1016) (by decide +kernel)⟩
theorem lw_p41 : lw_okq (⟨"HuntersIntroducedModel", "hitsOf", "(II)I"⟩, 36) := ⟨⟨by decide +kernel, by decide +kernel⟩, List.mem_of_getElem? (i := 773) (by decide +kernel), List.mem_of_getElem? (i := 1027) (by decide +kernel), List.mem_of_getElem? (i := 1028) (by decide +kernel)⟩
theorem lw_p42 : lw_okq (⟨"HuntersIntroducedModel", "doesWill", "(I)Z"⟩, 36) := ⟨⟨by decide +kernel, by decide +kernel⟩, List.mem_of_getElem? (i := 773) (by decide +kernel), List.mem_of_getElem? (i := 1035) (by decide +kernel), List.mem_of_getElem? (i := 1036) (by decide +kernel)⟩
theorem lw_p43 : lw_okq (⟨"HuntersIntroducedModel", "gainsOf", "(I)I"⟩, 36) := ⟨⟨by decide +kernel, by decide +kernel⟩, List.mem_of_getElem? (i := 773) (by decide +kernel), List.mem_of_getElem? (i := 1039) (by decide +kernel), List.mem_of_getElem? (i := 1040) (by decide +kernel)⟩
theorem lw_p44 : lw_okq (⟨"HuntersIntroducedModel", "sponsored", "(I)I"⟩, 36) := ⟨⟨by decide +kernel, by decide +kernel⟩, List.mem_of_getElem? (i := 773) (by decide +kernel), List.mem_of_getElem? (i := 1043) (by decide +kernel), List.mem_of_getElem? (i := 1044) (by decide +kernel)⟩
theorem lw_p45 : lw_okq (⟨"HuntersIntroducedModel", "tellsWilling", "()V"⟩, 36) := ⟨⟨by decide +kernel, by decide +kernel⟩, List.mem_of_getElem? (i := 773) (by decide +kernel), List.mem_of_getElem? (i := 1047) (by decide +kernel), List.mem_of_getElem? (i := 1048) (by decide +kernel)⟩
theorem lw_p46 : lw_okq (⟨"HuntersIntroducedModel", "tellsFar", "(I)V"⟩, 36) := ⟨⟨by decide +kernel, by decide +kernel⟩, List.mem_of_getElem? (i := 773) (by decide +kernel), List.mem_of_getElem? (i := 1051) (by decide +kernel), List.mem_of_getElem? (i := 1052) (by decide +kernel)⟩
theorem lw_p47 : lw_okq (⟨"HuntersIntroducedModel", "sponsorBy", "(II)I"⟩, 36) := ⟨⟨by decide +kernel, by decide +kernel⟩, List.mem_of_getElem? (i := 773) (by decide +kernel), List.mem_of_getElem? (i := 1055) (by decide +kernel), List.mem_of_getElem? (i := 1056) (by decide +kernel)⟩
def lw_privs_3 : List (MethodName × Nat) := [(⟨"HuntersIntroducedModel", "forestHeld", "(II)I"⟩, 36), (⟨"HuntersIntroducedModel", "cardsWith", "(I)I"⟩, 36), (⟨"HuntersIntroducedModel", "isCard", "(II)Z"⟩, 36), (⟨"HuntersIntroducedModel", "isOne", "(I)Z"⟩, 36), (⟨"HuntersIntroducedModel", "asksOf", "(III)I"⟩, 36), (⟨"HuntersIntroducedModel", "says", "(I)I"⟩, 36), (⟨"HuntersIntroducedModel", "areTwo", "(II)Z"⟩, 36), (⟨"HuntersIntroducedModel", "haveMet", "(II)Z"⟩, 36), (⟨"HuntersIntroducedModel", "meets", "(III)V"⟩, 36), (⟨"HuntersIntroducedModel", "hitsOf", "(II)I"⟩, 36), (⟨"HuntersIntroducedModel", "doesWill", "(I)Z"⟩, 36), (⟨"HuntersIntroducedModel", "gainsOf", "(I)I"⟩, 36), (⟨"HuntersIntroducedModel", "sponsored", "(I)I"⟩, 36), (⟨"HuntersIntroducedModel", "tellsWilling", "()V"⟩, 36), (⟨"HuntersIntroducedModel", "tellsFar", "(I)V"⟩, 36), (⟨"HuntersIntroducedModel", "sponsorBy", "(II)I"⟩, 36)]
theorem lw_r3 : ∀ q ∈ lw_privs_3, lw_okq q := List.forall_mem_cons.mpr ⟨lw_p32, List.forall_mem_cons.mpr ⟨lw_p33, List.forall_mem_cons.mpr ⟨lw_p34, List.forall_mem_cons.mpr ⟨lw_p35, List.forall_mem_cons.mpr ⟨lw_p36, List.forall_mem_cons.mpr ⟨lw_p37, List.forall_mem_cons.mpr ⟨lw_p38, List.forall_mem_cons.mpr ⟨lw_p39, List.forall_mem_cons.mpr ⟨lw_p40, List.forall_mem_cons.mpr ⟨lw_p41, List.forall_mem_cons.mpr ⟨lw_p42, List.forall_mem_cons.mpr ⟨lw_p43, List.forall_mem_cons.mpr ⟨lw_p44, List.forall_mem_cons.mpr ⟨lw_p45, List.forall_mem_cons.mpr ⟨lw_p46, List.forall_mem_cons.mpr ⟨lw_p47, fun _ h => absurd h List.not_mem_nil⟩⟩⟩⟩⟩⟩⟩⟩⟩⟩⟩⟩⟩⟩⟩⟩
theorem lw_p48 : lw_okq (⟨"HuntersIntroducedModel", "isAlive", "(I)Z"⟩, 36) := ⟨⟨by decide +kernel, by decide +kernel⟩, List.mem_of_getElem? (i := 773) (by decide +kernel), List.mem_of_getElem? (i := 1059) (by decide +kernel), List.mem_of_getElem? (i := 1060) (by decide +kernel)⟩
theorem lw_p49 : lw_okq (⟨"HuntersIntroducedModel", "gainsBy", "(I)I"⟩, 36) := ⟨⟨by decide +kernel, by decide +kernel⟩, List.mem_of_getElem? (i := 773) (by decide +kernel), List.mem_of_getElem? (i := 1067) (by decide +kernel), List.mem_of_getElem? (i := 1068) (by decide +kernel)⟩
theorem lw_p50 : lw_okq (⟨"HuntersIntroducedModel", "digitsTo", "(I)I"⟩, 36) := ⟨⟨by decide +kernel, by decide +kernel⟩, List.mem_of_getElem? (i := 773) (by decide +kernel), List.mem_of_getElem? (i := 1083) (by decide +kernel), List.mem_of_getElem? (i := 1084) (by decide +kernel)⟩
theorem lw_p51 : lw_okq (⟨"HuntersIntroducedModel", "shotOf", "(II)I"⟩, 36) := ⟨⟨by decide +kernel, by decide +kernel⟩, List.mem_of_getElem? (i := 773) (by decide +kernel), List.mem_of_getElem? (i := 1091) (by decide +kernel), List.mem_of_getElem? (i := 1092) (by decide +kernel)⟩
theorem lw_p52 : lw_okq (⟨"HuntersIntroducedModel", "aimOf", "(II)I"⟩, 36) := ⟨⟨by decide +kernel, by decide +kernel⟩, List.mem_of_getElem? (i := 773) (by decide +kernel), List.mem_of_getElem? (i := 1095) (by decide +kernel), List.mem_of_getElem? (i := 1096) (by decide +kernel)⟩
theorem lw_p53 : lw_okq (⟨"HuntersIntroducedModel", "oneWrong", "(II)I"⟩, 36) := ⟨⟨by decide +kernel, by decide +kernel⟩, List.mem_of_getElem? (i := 773) (by decide +kernel), List.mem_of_getElem? (i := 1107) (by decide +kernel), List.mem_of_getElem? (i := 1108) (by decide +kernel)⟩
theorem lw_p54 : lw_okq (⟨"HuntersIntroducedModel", "seasonWrong", "(I)I"⟩, 36) := ⟨⟨by decide +kernel, by decide +kernel⟩, List.mem_of_getElem? (i := 773) (by decide +kernel), List.mem_of_getElem? (i := 1111) (by decide +kernel), List.mem_of_getElem? (i := 1112) (by decide +kernel)⟩
theorem lw_p55 : lw_okq (⟨"HuntersIntroducedModel", "keeps", "()V"⟩, 36) := ⟨⟨by decide +kernel, by decide +kernel⟩, List.mem_of_getElem? (i := 773) (by decide +kernel), List.mem_of_getElem? (i := 1115) (by decide +kernel), List.mem_of_getElem? (i := 1116) (by decide +kernel)⟩
theorem lw_p56 : lw_okq (⟨"HuntersIntroducedModel", "goes", "(II)V"⟩, 36) := ⟨⟨by decide +kernel, by decide +kernel⟩, List.mem_of_getElem? (i := 773) (by decide +kernel), List.mem_of_getElem? (i := 1119) (by decide +kernel), List.mem_of_getElem? (i := 1120) (by decide +kernel)⟩
theorem lw_p57 : lw_okq (⟨"HuntersIntroducedModel", "lays", "()V"⟩, 36) := ⟨⟨by decide +kernel, by decide +kernel⟩, List.mem_of_getElem? (i := 773) (by decide +kernel), List.mem_of_getElem? (i := 1123) (by decide +kernel), List.mem_of_getElem? (i := 1124) (by decide +kernel)⟩
theorem lw_p58 : lw_okq (⟨"HuntersIntroducedModel", "sponsoredAll", "()I"⟩, 36) := ⟨⟨by decide +kernel, by decide +kernel⟩, List.mem_of_getElem? (i := 773) (by decide +kernel), List.mem_of_getElem? (i := 1135) (by decide +kernel), List.mem_of_getElem? (i := 1136) (by decide +kernel)⟩
theorem lw_p59 : lw_okq (⟨"HuntersIntroducedModel", "toldWrong", "(III)I"⟩, 36) := ⟨⟨by decide +kernel, by decide +kernel⟩, List.mem_of_getElem? (i := 773) (by decide +kernel), List.mem_of_getElem? (i := 1159) (by decide +kernel), List.mem_of_getElem? (i := 1160) (by decide +kernel)⟩
theorem lw_p60 : lw_okq (⟨"HuntersIntroducedModel", "twoWrong", "(II)I"⟩, 36) := ⟨⟨by decide +kernel, by decide +kernel⟩, List.mem_of_getElem? (i := 773) (by decide +kernel), List.mem_of_getElem? (i := 1163) (by decide +kernel), List.mem_of_getElem? (i := 1164) (by decide +kernel)⟩
theorem lw_p61 : lw_okq (⟨"HuntersIntroducedModel", "unlike", "(III)I"⟩, 36) := ⟨⟨by decide +kernel, by decide +kernel⟩, List.mem_of_getElem? (i := 773) (by decide +kernel), List.mem_of_getElem? (i := 1167) (by decide +kernel), List.mem_of_getElem? (i := 1168) (by decide +kernel)⟩
theorem lw_p62 : lw_okq (⟨"HuntersIntroducedModel", "lotSeasons", "(II)I"⟩, 36) := ⟨⟨by decide +kernel, by decide +kernel⟩, List.mem_of_getElem? (i := 773) (by decide +kernel), List.mem_of_getElem? (i := 1200) (by decide +kernel), List.mem_of_getElem? (i := 1201) (by decide +kernel)⟩
def lw_privs_4 : List (MethodName × Nat) := [(⟨"HuntersIntroducedModel", "isAlive", "(I)Z"⟩, 36), (⟨"HuntersIntroducedModel", "gainsBy", "(I)I"⟩, 36), (⟨"HuntersIntroducedModel", "digitsTo", "(I)I"⟩, 36), (⟨"HuntersIntroducedModel", "shotOf", "(II)I"⟩, 36), (⟨"HuntersIntroducedModel", "aimOf", "(II)I"⟩, 36), (⟨"HuntersIntroducedModel", "oneWrong", "(II)I"⟩, 36), (⟨"HuntersIntroducedModel", "seasonWrong", "(I)I"⟩, 36), (⟨"HuntersIntroducedModel", "keeps", "()V"⟩, 36), (⟨"HuntersIntroducedModel", "goes", "(II)V"⟩, 36), (⟨"HuntersIntroducedModel", "lays", "()V"⟩, 36), (⟨"HuntersIntroducedModel", "sponsoredAll", "()I"⟩, 36), (⟨"HuntersIntroducedModel", "toldWrong", "(III)I"⟩, 36), (⟨"HuntersIntroducedModel", "twoWrong", "(II)I"⟩, 36), (⟨"HuntersIntroducedModel", "unlike", "(III)I"⟩, 36), (⟨"HuntersIntroducedModel", "lotSeasons", "(II)I"⟩, 36)]
theorem lw_r4 : ∀ q ∈ lw_privs_4, lw_okq q := List.forall_mem_cons.mpr ⟨lw_p48, List.forall_mem_cons.mpr ⟨lw_p49, List.forall_mem_cons.mpr ⟨lw_p50, List.forall_mem_cons.mpr ⟨lw_p51, List.forall_mem_cons.mpr ⟨lw_p52, List.forall_mem_cons.mpr ⟨lw_p53, List.forall_mem_cons.mpr ⟨lw_p54, List.forall_mem_cons.mpr ⟨lw_p55, List.forall_mem_cons.mpr ⟨lw_p56, List.forall_mem_cons.mpr ⟨lw_p57, List.forall_mem_cons.mpr ⟨lw_p58, List.forall_mem_cons.mpr ⟨lw_p59, List.forall_mem_cons.mpr ⟨lw_p60, List.forall_mem_cons.mpr ⟨lw_p61, List.forall_mem_cons.mpr ⟨lw_p62, fun _ h => absurd h List.not_mem_nil⟩⟩⟩⟩⟩⟩⟩⟩⟩⟩⟩⟩⟩⟩⟩
def lw_privs : List (MethodName × Nat) := lw_privs_1 ++ (lw_privs_2 ++ (lw_privs_3 ++ (lw_privs_4)))
def lw_tbl : List Cond := k2_sels lw_privs ++ tables_1
theorem lw_privs_ok : ∀ q ∈ lw_privs, lw_okq q := by
  show ∀ q ∈ lw_privs_1 ++ (lw_privs_2 ++ (lw_privs_3 ++ (lw_privs_4))), lw_okq q
  exact List.forall_mem_append.mpr ⟨lw_r1, List.forall_mem_append.mpr ⟨lw_r2, List.forall_mem_append.mpr ⟨lw_r3, lw_r4⟩⟩⟩
end
section
def RX0 : String := "HuntersIntroduced$Forest"
def TX0 : u_T := fun k => match k with
  | 0 => ("HuntersIntroduced$Forest", "shy", "[I", true)
  | 1 => ("HuntersIntroduced$Forest", "alive", "I", false)
  | 2 => ("HuntersIntroduced$Forest", "day", "I", false)
  | 3 => ("HuntersIntroduced$Forest", "law", "I", false)
  | 4 => ("HuntersIntroduced$Forest", "hunters", "I", false)
  | 5 => ("HuntersIntroduced$Forest", "kind", "[I", true)
  | 6 => ("HuntersIntroduced$Forest", "more", "[I", true)
  | 7 => ("HuntersIntroduced$Forest", "honour", "[I", true)
  | 8 => ("HuntersIntroduced$Forest", "met", "[I", true)
  | 9 => ("HuntersIntroduced$Forest", "cards", "[I", true)
  | _ => ("HuntersIntroduced$Forest", "by", "[I", true)
def tyX0 : Nat → FieldType := fun k => match k with
  | 0 => .array .int
  | 1 => .int
  | 2 => .int
  | 3 => .int
  | 4 => .int
  | 5 => .array .int
  | 6 => .array .int
  | 7 => .array .int
  | 8 => .array .int
  | 9 => .array .int
  | _ => .array .int
abbrev wsX00 : List Cond := u_ws RX0 TX0 11
theorem nmX0 : ∀ a, a < 11 → ∀ b, b < 11 → a ≠ b → (TX0 a).2.1 ≠ (TX0 b).2.1 := by decide +kernel
theorem tyX0_ok : ∀ k, k < 11 → parseFieldDescriptor (TX0 k).2.2.1 = some (tyX0 k) := by decide +kernel
abbrev cX0_init : ByteArray := prog_2_method_1_code
def yX0_init : MethodName := ⟨RX0, "<init>", "()V"⟩
abbrev cX0_become : ByteArray := prog_2_method_2_code
def yX0_become : MethodName := ⟨RX0, "become", "(LHuntersIntroduced$Forest;)V"⟩
abbrev cX0_add : ByteArray := prog_2_method_3_code
def yX0_add : MethodName := ⟨RX0, "add", "(IIII)I"⟩
abbrev cX0_isAlive : ByteArray := prog_2_method_4_code
def yX0_isAlive : MethodName := ⟨RX0, "isAlive", "(I)Z"⟩
abbrev cX0_setAlive : ByteArray := prog_2_method_5_code
def yX0_setAlive : MethodName := ⟨RX0, "setAlive", "(IZ)V"⟩
abbrev cX0_hasCard : ByteArray := prog_2_method_6_code
def yX0_hasCard : MethodName := ⟨RX0, "hasCard", "(II)Z"⟩
abbrev cX0_turnCard : ByteArray := prog_2_method_7_code
def yX0_turnCard : MethodName := ⟨RX0, "turnCard", "(II)V"⟩
abbrev cX0_haveMet : ByteArray := prog_2_method_8_code
def yX0_haveMet : MethodName := ⟨RX0, "haveMet", "(II)Z"⟩
abbrev cX0_setMet : ByteArray := prog_2_method_9_code
def yX0_setMet : MethodName := ⟨RX0, "setMet", "(IIZ)V"⟩
abbrev cX0_holders : ByteArray := prog_2_method_10_code
def yX0_holders : MethodName := ⟨RX0, "holders", "(I)I"⟩
abbrev cX0_honourByHit : ByteArray := prog_2_method_11_code
def yX0_honourByHit : MethodName := ⟨RX0, "honourByHit", "(II)I"⟩
def RX1 : String := "HuntersIntroduced$Lots"
def TX1 : u_T := fun k => match k with
  | _ => ("HuntersIntroduced$Lots", "last", "J", false)
def tyX1 : Nat → FieldType := fun k => match k with
  | _ => .long
abbrev wsX10 : List Cond := u_ws RX1 TX1 1
theorem nmX1 : ∀ a, a < 1 → ∀ b, b < 1 → a ≠ b → (TX1 a).2.1 ≠ (TX1 b).2.1 := by decide +kernel
theorem tyX1_ok : ∀ k, k < 1 → parseFieldDescriptor (TX1 k).2.2.1 = some (tyX1 k) := by decide +kernel
abbrev cX1_init : ByteArray := prog_3_method_1_code
def yX1_init : MethodName := ⟨RX1, "<init>", "()V"⟩
abbrev cX1_begin : ByteArray := prog_3_method_2_code
def yX1_begin : MethodName := ⟨RX1, "begin", "(I)V"⟩
abbrev cX1_next : ByteArray := prog_3_method_3_code
def yX1_next : MethodName := ⟨RX1, "next", "(I)I"⟩
def RX2 : String := "HuntersIntroduced$Reader"
def TX2 : u_T := fun k => match k with
  | 0 => ("HuntersIntroduced$Reader", "tape", "[I", true)
  | 1 => ("HuntersIntroduced$Reader", "size", "I", false)
  | 2 => ("HuntersIntroduced$Reader", "tokens", "[I", true)
  | 3 => ("HuntersIntroduced$Reader", "places", "[I", true)
  | 4 => ("HuntersIntroduced$Reader", "count", "I", false)
  | 5 => ("HuntersIntroduced$Reader", "at", "I", false)
  | 6 => ("HuntersIntroduced$Reader", "token", "I", false)
  | 7 => ("HuntersIntroduced$Reader", "fault", "I", false)
  | 8 => ("HuntersIntroduced$Reader", "code", "[I", true)
  | 9 => ("HuntersIntroduced$Reader", "length", "I", false)
  | _ => ("HuntersIntroduced$Reader", "starts", "[I", true)
def tyX2 : Nat → FieldType := fun k => match k with
  | 0 => .array .int
  | 1 => .int
  | 2 => .array .int
  | 3 => .array .int
  | 4 => .int
  | 5 => .int
  | 6 => .int
  | 7 => .int
  | 8 => .array .int
  | 9 => .int
  | _ => .array .int
abbrev wsX20 : List Cond := u_ws RX2 TX2 11
theorem nmX2 : ∀ a, a < 11 → ∀ b, b < 11 → a ≠ b → (TX2 a).2.1 ≠ (TX2 b).2.1 := by decide +kernel
theorem tyX2_ok : ∀ k, k < 11 → parseFieldDescriptor (TX2 k).2.2.1 = some (tyX2 k) := by decide +kernel
abbrev cX2_init : ByteArray := prog_4_method_1_code
def yX2_init : MethodName := ⟨RX2, "<init>", "()V"⟩
abbrev cX2_add : ByteArray := prog_4_method_2_code
def yX2_add : MethodName := ⟨RX2, "add", "(I)V"⟩
abbrev cX2_clear : ByteArray := prog_4_method_3_code
def yX2_clear : MethodName := ⟨RX2, "clear", "()V"⟩
abbrev cX2_read : ByteArray := prog_4_method_4_code
def yX2_read : MethodName := ⟨RX2, "read", "()I"⟩
abbrev cX2_asText : ByteArray := prog_4_method_5_code
def yX2_asText : MethodName := ⟨RX2, "asText", "()LHuntersIntroduced$Text;"⟩
abbrev cX2_scan : ByteArray := prog_4_method_6_code
def yX2_scan : MethodName := ⟨RX2, "scan", "()V"⟩
abbrev cX2_endFrom : ByteArray := prog_4_method_7_code
def yX2_endFrom : MethodName := ⟨RX2, "endFrom", "(I)I"⟩
abbrev cX2_sortOf : ByteArray := prog_4_method_8_code
def yX2_sortOf : MethodName := ⟨RX2, "sortOf", "(I)I"⟩
abbrev cX2_tokenOf : ByteArray := prog_4_method_9_code
def yX2_tokenOf : MethodName := ⟨RX2, "tokenOf", "(II)I"⟩
abbrev cX2_isSign : ByteArray := prog_4_method_10_code
def yX2_isSign : MethodName := ⟨RX2, "isSign", "(I)Z"⟩
abbrev cX2_numberFrom : ByteArray := prog_4_method_11_code
def yX2_numberFrom : MethodName := ⟨RX2, "numberFrom", "(II)I"⟩
abbrev cX2_wordFrom : ByteArray := prog_4_method_12_code
def yX2_wordFrom : MethodName := ⟨RX2, "wordFrom", "(II)I"⟩
abbrev cX2_stands : ByteArray := prog_4_method_13_code
def yX2_stands : MethodName := ⟨RX2, "stands", "(Ljava/lang/String;II)Z"⟩
abbrev cX2_advance : ByteArray := prog_4_method_14_code
def yX2_advance : MethodName := ⟨RX2, "advance", "()V"⟩
abbrev cX2_fail : ByteArray := prog_4_method_15_code
def yX2_fail : MethodName := ⟨RX2, "fail", "()V"⟩
abbrev cX2_expect : ByteArray := prog_4_method_16_code
def yX2_expect : MethodName := ⟨RX2, "expect", "(I)V"⟩
abbrev cX2_opens : ByteArray := prog_4_method_17_code
def yX2_opens : MethodName := ⟨RX2, "opens", "(I)Z"⟩
abbrev cX2_emit : ByteArray := prog_4_method_18_code
def yX2_emit : MethodName := ⟨RX2, "emit", "(I)V"⟩
abbrev cX2_rankOf : ByteArray := prog_4_method_19_code
def yX2_rankOf : MethodName := ⟨RX2, "rankOf", "(I)I"⟩
abbrev cX2_join : ByteArray := prog_4_method_20_code
def yX2_join : MethodName := ⟨RX2, "join", "(II)V"⟩
abbrev cX2_one : ByteArray := prog_4_method_21_code
def yX2_one : MethodName := ⟨RX2, "one", "(I)V"⟩
def RX3 : String := "HuntersIntroduced$Rules"
def TX3 : u_T := fun k => match k with
  | 0 => ("HuntersIntroduced$Rules", "all", "[LHuntersIntroduced$Text;", true)
  | 1 => ("HuntersIntroduced$Rules", "texts", "I", false)
  | 2 => ("HuntersIntroduced$Rules", "names", "[I", true)
  | _ => ("HuntersIntroduced$Rules", "stack", "[I", true)
def tyX3 : Nat → FieldType := fun k => match k with
  | 0 => .array (.object "HuntersIntroduced$Text")
  | 1 => .int
  | 2 => .array .int
  | _ => .array .int
abbrev wsX30 : List Cond := u_ws RX3 TX3 4
theorem nmX3 : ∀ a, a < 4 → ∀ b, b < 4 → a ≠ b → (TX3 a).2.1 ≠ (TX3 b).2.1 := by decide +kernel
theorem tyX3_ok : ∀ k, k < 4 → parseFieldDescriptor (TX3 k).2.2.1 = some (tyX3 k) := by decide +kernel
abbrev cX3_init : ByteArray := prog_5_method_1_code
def yX3_init : MethodName := ⟨RX3, "<init>", "()V"⟩
abbrev cX3_add : ByteArray := prog_5_method_2_code
def yX3_add : MethodName := ⟨RX3, "add", "(LHuntersIntroduced$Text;)I"⟩
abbrev cX3_says : ByteArray := prog_5_method_3_code
def yX3_says : MethodName := ⟨RX3, "says", "(LHuntersIntroduced$Forest;III)I"⟩
abbrev cX3_isOfKind : ByteArray := prog_5_method_4_code
def yX3_isOfKind : MethodName := ⟨RX3, "isOfKind", "(II)Z"⟩
abbrev cX3_isWilling : ByteArray := prog_5_method_5_code
def yX3_isWilling : MethodName := ⟨RX3, "isWilling", "(LHuntersIntroduced$Forest;I)Z"⟩
abbrev cX3_gainOf : ByteArray := prog_5_method_6_code
def yX3_gainOf : MethodName := ⟨RX3, "gainOf", "(LHuntersIntroduced$Forest;I)I"⟩
abbrev cX3_aimOf : ByteArray := prog_5_method_7_code
def yX3_aimOf : MethodName := ⟨RX3, "aimOf", "(LHuntersIntroduced$Forest;II)I"⟩
abbrev cX3_reward : ByteArray := prog_5_method_8_code
def yX3_reward : MethodName := ⟨RX3, "reward", "(LHuntersIntroduced$Forest;I)I"⟩
abbrev cX3_shotNow : ByteArray := prog_5_method_9_code
def yX3_shotNow : MethodName := ⟨RX3, "shotNow", "(LHuntersIntroduced$Forest;II)I"⟩
abbrev cX3_shot : ByteArray := prog_5_method_10_code
def yX3_shot : MethodName := ⟨RX3, "shot", "(LHuntersIntroduced$Forest;II)I"⟩
def RX4 : String := "HuntersIntroduced$Sheet"
def TX4 : u_T := fun k => match k with
  | 0 => ("HuntersIntroduced$Sheet", "sort", "I", false)
  | 1 => ("HuntersIntroduced$Sheet", "size", "I", false)
  | _ => ("HuntersIntroduced$Sheet", "row", "[I", true)
def tyX4 : Nat → FieldType := fun k => match k with
  | 0 => .int
  | 1 => .int
  | _ => .array .int
abbrev wsX40 : List Cond := u_ws RX4 TX4 3
theorem nmX4 : ∀ a, a < 3 → ∀ b, b < 3 → a ≠ b → (TX4 a).2.1 ≠ (TX4 b).2.1 := by decide +kernel
theorem tyX4_ok : ∀ k, k < 3 → parseFieldDescriptor (TX4 k).2.2.1 = some (tyX4 k) := by decide +kernel
abbrev cX4_init : ByteArray := prog_6_method_1_code
def yX4_init : MethodName := ⟨RX4, "<init>", "()V"⟩
abbrev cX4_become : ByteArray := prog_6_method_2_code
def yX4_become : MethodName := ⟨RX4, "become", "(II)V"⟩
abbrev cX4_isMissing : ByteArray := prog_6_method_3_code
def yX4_isMissing : MethodName := ⟨RX4, "isMissing", "()Z"⟩
abbrev cX4_holds : ByteArray := prog_6_method_4_code
def yX4_holds : MethodName := ⟨RX4, "holds", "(II)Z"⟩
abbrev cX4_set : ByteArray := prog_6_method_5_code
def yX4_set : MethodName := ⟨RX4, "set", "(II)V"⟩
abbrev cX4_tellsDeer : ByteArray := prog_6_method_6_code
def yX4_tellsDeer : MethodName := ⟨RX4, "tellsDeer", "()Z"⟩
def RX5 : String := "HuntersIntroduced$Text"
def TX5 : u_T := fun k => match k with
  | 0 => ("HuntersIntroduced$Text", "code", "[I", true)
  | _ => ("HuntersIntroduced$Text", "starts", "[I", true)
def tyX5 : Nat → FieldType := fun k => match k with
  | 0 => .array .int
  | _ => .array .int
abbrev wsX50 : List Cond := u_ws RX5 TX5 2
theorem nmX5 : ∀ a, a < 2 → ∀ b, b < 2 → a ≠ b → (TX5 a).2.1 ≠ (TX5 b).2.1 := by decide +kernel
theorem tyX5_ok : ∀ k, k < 2 → parseFieldDescriptor (TX5 k).2.2.1 = some (tyX5 k) := by decide +kernel
abbrev cX5_init : ByteArray := prog_7_method_1_code
def yX5_init : MethodName := ⟨RX5, "<init>", "([II[I)V"⟩
abbrev cX5_value : ByteArray := prog_7_method_2_code
def yX5_value : MethodName := ⟨RX5, "value", "(I[I[I)I"⟩
def RX6 : String := "HuntersIntroduced$Ways"
def TX6 : u_T := fun k => match k with
  | 0 => ("HuntersIntroduced$Ways", "willing", "I", false)
  | _ => ("HuntersIntroduced$Ways", "far", "[I", true)
def tyX6 : Nat → FieldType := fun k => match k with
  | 0 => .int
  | _ => .array .int
abbrev wsX60 : List Cond := u_ws RX6 TX6 2
theorem nmX6 : ∀ a, a < 2 → ∀ b, b < 2 → a ≠ b → (TX6 a).2.1 ≠ (TX6 b).2.1 := by decide +kernel
theorem tyX6_ok : ∀ k, k < 2 → parseFieldDescriptor (TX6 k).2.2.1 = some (tyX6 k) := by decide +kernel
abbrev cX6_init : ByteArray := prog_8_method_1_code
def yX6_init : MethodName := ⟨RX6, "<init>", "()V"⟩
abbrev cX6_measure : ByteArray := prog_8_method_2_code
def yX6_measure : MethodName := ⟨RX6, "measure", "(LHuntersIntroduced$Rules;LHuntersIntroduced$Forest;I)V"⟩
abbrev cX6_isWilling : ByteArray := prog_8_method_3_code
def yX6_isWilling : MethodName := ⟨RX6, "isWilling", "(I)Z"⟩
abbrev cX6_within : ByteArray := prog_8_method_4_code
def yX6_within : MethodName := ⟨RX6, "within", "(LHuntersIntroduced$Rules;LHuntersIntroduced$Forest;II)I"⟩
abbrev cX6_sponsorOf : ByteArray := prog_8_method_5_code
def yX6_sponsorOf : MethodName := ⟨RX6, "sponsorOf", "(LHuntersIntroduced$Forest;II)I"⟩
abbrev cX6_pathTo : ByteArray := prog_8_method_6_code
def yX6_pathTo : MethodName := ⟨RX6, "pathTo", "(LHuntersIntroduced$Forest;I)I"⟩
abbrev cX6_nearer : ByteArray := prog_8_method_7_code
def yX6_nearer : MethodName := ⟨RX6, "nearer", "(LHuntersIntroduced$Forest;I)I"⟩
abbrev cX6_sponsored : ByteArray := prog_8_method_8_code
def yX6_sponsored : MethodName := ⟨RX6, "sponsored", "(LHuntersIntroduced$Rules;LHuntersIntroduced$Forest;I)I"⟩
abbrev cX6_allSponsored : ByteArray := prog_8_method_9_code
def yX6_allSponsored : MethodName := ⟨RX6, "allSponsored", "(LHuntersIntroduced$Rules;LHuntersIntroduced$Forest;)I"⟩
def RX7 : String := "HuntersIntroduced"
def TX7 : u_T := fun k => match k with
  | 0 => ("HuntersIntroduced", "truth", "LHuntersIntroduced$Forest;", true)
  | 1 => ("HuntersIntroduced", "thought", "LHuntersIntroduced$Forest;", true)
  | 2 => ("HuntersIntroduced", "kept", "LHuntersIntroduced$Forest;", true)
  | 3 => ("HuntersIntroduced", "isKept", "Z", false)
  | 4 => ("HuntersIntroduced", "reader", "LHuntersIntroduced$Reader;", true)
  | 5 => ("HuntersIntroduced", "rules", "LHuntersIntroduced$Rules;", true)
  | 6 => ("HuntersIntroduced", "ways", "LHuntersIntroduced$Ways;", true)
  | 7 => ("HuntersIntroduced", "lots", "LHuntersIntroduced$Lots;", true)
  | _ => ("HuntersIntroduced", "sheets", "[LHuntersIntroduced$Sheet;", true)
def tyX7 : Nat → FieldType := fun k => match k with
  | 0 => .object "HuntersIntroduced$Forest"
  | 1 => .object "HuntersIntroduced$Forest"
  | 2 => .object "HuntersIntroduced$Forest"
  | 3 => .boolean
  | 4 => .object "HuntersIntroduced$Reader"
  | 5 => .object "HuntersIntroduced$Rules"
  | 6 => .object "HuntersIntroduced$Ways"
  | 7 => .object "HuntersIntroduced$Lots"
  | _ => .array (.object "HuntersIntroduced$Sheet")
abbrev wsX70 : List Cond := u_ws RX7 TX7 9
theorem nmX7 : ∀ a, a < 9 → ∀ b, b < 9 → a ≠ b → (TX7 a).2.1 ≠ (TX7 b).2.1 := by decide +kernel
theorem tyX7_ok : ∀ k, k < 9 → parseFieldDescriptor (TX7 k).2.2.1 = some (tyX7 k) := by decide +kernel
abbrev cX7_init : ByteArray := prog_1_method_1_code
def yX7_init : MethodName := ⟨RX7, "<init>", "()V"⟩
abbrev cX7_count : ByteArray := prog_1_method_2_code
def yX7_count : MethodName := ⟨RX7, "count", "(I)I"⟩
abbrev cX7_forest : ByteArray := prog_1_method_3_code
def yX7_forest : MethodName := ⟨RX7, "forest", "(III)I"⟩
abbrev cX7_deer : ByteArray := prog_1_method_4_code
def yX7_deer : MethodName := ⟨RX7, "deer", "(II)I"⟩
abbrev cX7_feed : ByteArray := prog_1_method_5_code
def yX7_feed : MethodName := ⟨RX7, "feed", "(IIIIII)I"⟩
abbrev cX7_text : ByteArray := prog_1_method_6_code
def yX7_text : MethodName := ⟨RX7, "text", "()I"⟩
abbrev cX7_force : ByteArray := prog_1_method_7_code
def yX7_force : MethodName := ⟨RX7, "force", "(I)I"⟩
abbrev cX7_asks : ByteArray := prog_1_method_8_code
def yX7_asks : MethodName := ⟨RX7, "asks", "(III)I"⟩
abbrev cX7_hunter : ByteArray := prog_1_method_9_code
def yX7_hunter : MethodName := ⟨RX7, "hunter", "(III)I"⟩
abbrev cX7_friends : ByteArray := prog_1_method_10_code
def yX7_friends : MethodName := ⟨RX7, "friends", "(III)I"⟩
abbrev cX7_put : ByteArray := prog_1_method_11_code
def yX7_put : MethodName := ⟨RX7, "put", "(III)I"⟩
abbrev cX7_told : ByteArray := prog_1_method_12_code
def yX7_told : MethodName := ⟨RX7, "told", "(II)I"⟩
abbrev cX7_hits : ByteArray := prog_1_method_13_code
def yX7_hits : MethodName := ⟨RX7, "hits", "(II)I"⟩
abbrev cX7_meet : ByteArray := prog_1_method_14_code
def yX7_meet : MethodName := ⟨RX7, "meet", "(III)I"⟩
abbrev cX7_present : ByteArray := prog_1_method_15_code
def yX7_present : MethodName := ⟨RX7, "present", "(III)I"⟩
abbrev cX7_circle : ByteArray := prog_1_method_16_code
def yX7_circle : MethodName := ⟨RX7, "circle", "(II)I"⟩
abbrev cX7_way : ByteArray := prog_1_method_17_code
def yX7_way : MethodName := ⟨RX7, "way", "(III)I"⟩
abbrev cX7_shoot : ByteArray := prog_1_method_18_code
def yX7_shoot : MethodName := ⟨RX7, "shoot", "(II)I"⟩
abbrev cX7_aims : ByteArray := prog_1_method_19_code
def yX7_aims : MethodName := ⟨RX7, "aims", "(II)I"⟩
abbrev cX7_season : ByteArray := prog_1_method_20_code
def yX7_season : MethodName := ⟨RX7, "season", "(III)I"⟩
abbrev cX7_hunt : ByteArray := prog_1_method_21_code
def yX7_hunt : MethodName := ⟨RX7, "hunt", "(II)I"⟩
abbrev cX7_ball : ByteArray := prog_1_method_22_code
def yX7_ball : MethodName := ⟨RX7, "ball", "(I)I"⟩
abbrev cX7_safest : ByteArray := prog_1_method_23_code
def yX7_safest : MethodName := ⟨RX7, "safest", "(I)I"⟩
abbrev cX7_prize : ByteArray := prog_1_method_24_code
def yX7_prize : MethodName := ⟨RX7, "prize", "(II)I"⟩
abbrev cX7_society : ByteArray := prog_1_method_25_code
def yX7_society : MethodName := ⟨RX7, "society", "(I)J"⟩
abbrev cX7_judge : ByteArray := prog_1_method_26_code
def yX7_judge : MethodName := ⟨RX7, "judge", "(III)I"⟩
abbrev cX7_kinds : ByteArray := prog_1_method_27_code
def yX7_kinds : MethodName := ⟨RX7, "kinds", "(IIII)I"⟩
abbrev cX7_turned : ByteArray := prog_1_method_28_code
def yX7_turned : MethodName := ⟨RX7, "turned", "(III)I"⟩
abbrev cX7_honours : ByteArray := prog_1_method_29_code
def yX7_honours : MethodName := ⟨RX7, "honours", "(IIII)I"⟩
abbrev cX7_whose : ByteArray := prog_1_method_30_code
def yX7_whose : MethodName := ⟨RX7, "whose", "(II)I"⟩
abbrev cX7_laws : ByteArray := prog_1_method_31_code
def yX7_laws : MethodName := ⟨RX7, "laws", "(III)I"⟩
abbrev cX7_film : ByteArray := prog_1_method_32_code
def yX7_film : MethodName := ⟨RX7, "film", "(III)I"⟩
abbrev cX7_drawn : ByteArray := prog_1_method_33_code
def yX7_drawn : MethodName := ⟨RX7, "drawn", "(III)I"⟩
abbrev cX7_odds : ByteArray := prog_1_method_34_code
def yX7_odds : MethodName := ⟨RX7, "odds", "(IIII)J"⟩
abbrev cX7_image : ByteArray := prog_1_method_35_code
def yX7_image : MethodName := ⟨RX7, "image", "()I"⟩
abbrev cX7_back : ByteArray := prog_1_method_36_code
def yX7_back : MethodName := ⟨RX7, "back", "()I"⟩
abbrev cX7_sheet : ByteArray := prog_1_method_37_code
def yX7_sheet : MethodName := ⟨RX7, "sheet", "(III)I"⟩
abbrev cX7_cell : ByteArray := prog_1_method_38_code
def yX7_cell : MethodName := ⟨RX7, "cell", "(III)I"⟩
abbrev cX7_copy : ByteArray := prog_1_method_39_code
def yX7_copy : MethodName := ⟨RX7, "copy", "(IIIII)I"⟩
abbrev cX7_huntersBy : ByteArray := prog_1_method_40_code
def yX7_huntersBy : MethodName := ⟨RX7, "huntersBy", "(IIII)I"⟩
abbrev cX7_taken : ByteArray := prog_1_method_41_code
def yX7_taken : MethodName := ⟨RX7, "taken", "(II)I"⟩
abbrev cX7_isWithin : ByteArray := prog_1_method_42_code
def yX7_isWithin : MethodName := ⟨RX7, "isWithin", "(III)Z"⟩
abbrev cX7_isByte : ByteArray := prog_1_method_43_code
def yX7_isByte : MethodName := ⟨RX7, "isByte", "(I)Z"⟩
abbrev cX7_isDeer : ByteArray := prog_1_method_44_code
def yX7_isDeer : MethodName := ⟨RX7, "isDeer", "(I)Z"⟩
abbrev cX7_isSheet : ByteArray := prog_1_method_45_code
def yX7_isSheet : MethodName := ⟨RX7, "isSheet", "(I)Z"⟩
abbrev cX7_isHunter : ByteArray := prog_1_method_46_code
def yX7_isHunter : MethodName := ⟨RX7, "isHunter", "(I)Z"⟩
abbrev cX7_lowestTerms : ByteArray := prog_1_method_47_code
def yX7_lowestTerms : MethodName := ⟨RX7, "lowestTerms", "(JJI)J"⟩
abbrev cX7_shotRefusal : ByteArray := prog_1_method_48_code
def yX7_shotRefusal : MethodName := ⟨RX7, "shotRefusal", "(II)I"⟩
abbrev cX7_seasonRefusal : ByteArray := prog_1_method_49_code
def yX7_seasonRefusal : MethodName := ⟨RX7, "seasonRefusal", "(I)I"⟩
abbrev cX7_tellingRefusal : ByteArray := prog_1_method_50_code
def yX7_tellingRefusal : MethodName := ⟨RX7, "tellingRefusal", "(II)I"⟩
abbrev cX7_judgeRefusal : ByteArray := prog_1_method_51_code
def yX7_judgeRefusal : MethodName := ⟨RX7, "judgeRefusal", "(III)I"⟩
abbrev cX7_shootAll : ByteArray := prog_1_method_52_code
def yX7_shootAll : MethodName := ⟨RX7, "shootAll", "(LHuntersIntroduced$Forest;LHuntersIntroduced$Sheet;II)I"⟩
abbrev cX7_firstOtherwise : ByteArray := prog_1_method_53_code
def yX7_firstOtherwise : MethodName := ⟨RX7, "firstOtherwise", "(LHuntersIntroduced$Sheet;LHuntersIntroduced$Sheet;I)I"⟩
abbrev cX7_shootByLots : ByteArray := prog_1_method_54_code
def yX7_shootByLots : MethodName := ⟨RX7, "shootByLots", "(II)I"⟩
def RX8 : String := "HuntersIntroducedModel"
def TX8 : u_T := fun k => match k with
  | 0 => ("HuntersIntroducedModel", "hunters", "I", false)
  | 1 => ("HuntersIntroducedModel", "kind", "[I", true)
  | 2 => ("HuntersIntroducedModel", "moreOf", "[I", true)
  | 3 => ("HuntersIntroducedModel", "rows", "[I", true)
  | 4 => ("HuntersIntroducedModel", "shy", "[I", true)
  | 5 => ("HuntersIntroducedModel", "alive", "I", false)
  | 6 => ("HuntersIntroducedModel", "days", "I", false)
  | 7 => ("HuntersIntroducedModel", "tape", "[I", true)
  | 8 => ("HuntersIntroducedModel", "taped", "I", false)
  | 9 => ("HuntersIntroducedModel", "codes", "[I", true)
  | 10 => ("HuntersIntroducedModel", "starts", "[I", true)
  | 11 => ("HuntersIntroducedModel", "texts", "I", false)
  | 12 => ("HuntersIntroducedModel", "rule", "I", false)
  | 13 => ("HuntersIntroducedModel", "hasImage", "Z", false)
  | 14 => ("HuntersIntroducedModel", "imageRows", "[I", true)
  | 15 => ("HuntersIntroducedModel", "imageHeld", "[I", true)
  | 16 => ("HuntersIntroducedModel", "sheetSort", "[I", true)
  | 17 => ("HuntersIntroducedModel", "sheetSize", "[I", true)
  | 18 => ("HuntersIntroducedModel", "cells", "[I", true)
  | 19 => ("HuntersIntroducedModel", "law", "[I", true)
  | 20 => ("HuntersIntroducedModel", "at", "I", false)
  | 21 => ("HuntersIntroducedModel", "begun", "I", false)
  | 22 => ("HuntersIntroducedModel", "token", "I", false)
  | 23 => ("HuntersIntroducedModel", "value", "I", false)
  | 24 => ("HuntersIntroducedModel", "words", "[I", true)
  | 25 => ("HuntersIntroducedModel", "held", "[I", true)
  | 26 => ("HuntersIntroducedModel", "heldMany", "I", false)
  | 27 => ("HuntersIntroducedModel", "opens", "I", false)
  | 28 => ("HuntersIntroducedModel", "out", "I", false)
  | 29 => ("HuntersIntroducedModel", "stack", "[I", true)
  | 30 => ("HuntersIntroducedModel", "named", "[I", true)
  | 31 => ("HuntersIntroducedModel", "farOf", "[I", true)
  | 32 => ("HuntersIntroducedModel", "willing", "I", false)
  | 33 => ("HuntersIntroducedModel", "kept", "[I", true)
  | 34 => ("HuntersIntroducedModel", "shots", "[I", true)
  | _ => ("HuntersIntroducedModel", "hitThen", "I", false)
def tyX8 : Nat → FieldType := fun k => match k with
  | 0 => .int
  | 1 => .array .int
  | 2 => .array .int
  | 3 => .array .int
  | 4 => .array .int
  | 5 => .int
  | 6 => .int
  | 7 => .array .int
  | 8 => .int
  | 9 => .array .int
  | 10 => .array .int
  | 11 => .int
  | 12 => .int
  | 13 => .boolean
  | 14 => .array .int
  | 15 => .array .int
  | 16 => .array .int
  | 17 => .array .int
  | 18 => .array .int
  | 19 => .array .int
  | 20 => .int
  | 21 => .int
  | 22 => .int
  | 23 => .int
  | 24 => .array .int
  | 25 => .array .int
  | 26 => .int
  | 27 => .int
  | 28 => .int
  | 29 => .array .int
  | 30 => .array .int
  | 31 => .array .int
  | 32 => .int
  | 33 => .array .int
  | 34 => .array .int
  | _ => .int
abbrev wsX80 : List Cond := u_ws RX8 TX8 36
theorem nmX8 : ∀ a, a < 36 → ∀ b, b < 36 → a ≠ b → (TX8 a).2.1 ≠ (TX8 b).2.1 := by decide +kernel
theorem tyX8_ok : ∀ k, k < 36 → parseFieldDescriptor (TX8 k).2.2.1 = some (tyX8 k) := by decide +kernel
abbrev cX8_init : ByteArray := prog_10_method_1_code
def yX8_init : MethodName := ⟨RX8, "<init>", "()V"⟩
abbrev cX8_in : ByteArray := prog_10_method_3_code
def yX8_in : MethodName := ⟨RX8, "in", "(III)Z"⟩
abbrev cX8_within : ByteArray := prog_10_method_4_code
def yX8_within : MethodName := ⟨RX8, "within", "(III)I"⟩
abbrev cX8_bitsOf : ByteArray := prog_10_method_5_code
def yX8_bitsOf : MethodName := ⟨RX8, "bitsOf", "(I)I"⟩
abbrev cX8_isOne : ByteArray := prog_10_method_6_code
def yX8_isOne : MethodName := ⟨RX8, "isOne", "(I)Z"⟩
abbrev cX8_areTwo : ByteArray := prog_10_method_7_code
def yX8_areTwo : MethodName := ⟨RX8, "areTwo", "(II)Z"⟩
abbrev cX8_isDeer : ByteArray := prog_10_method_8_code
def yX8_isDeer : MethodName := ⟨RX8, "isDeer", "(I)Z"⟩
abbrev cX8_isAlive : ByteArray := prog_10_method_9_code
def yX8_isAlive : MethodName := ⟨RX8, "isAlive", "(I)Z"⟩
abbrev cX8_isCard : ByteArray := prog_10_method_10_code
def yX8_isCard : MethodName := ⟨RX8, "isCard", "(II)Z"⟩
abbrev cX8_haveMet : ByteArray := prog_10_method_11_code
def yX8_haveMet : MethodName := ⟨RX8, "haveMet", "(II)Z"⟩
abbrev cX8_count : ByteArray := prog_10_method_12_code
def yX8_count : MethodName := ⟨RX8, "count", "(I)I"⟩
abbrev cX8_forestHeld : ByteArray := prog_10_method_13_code
def yX8_forestHeld : MethodName := ⟨RX8, "forestHeld", "(II)I"⟩
abbrev cX8_forest : ByteArray := prog_10_method_14_code
def yX8_forest : MethodName := ⟨RX8, "forest", "(III)I"⟩
abbrev cX8_cardsWith : ByteArray := prog_10_method_15_code
def yX8_cardsWith : MethodName := ⟨RX8, "cardsWith", "(I)I"⟩
abbrev cX8_deer : ByteArray := prog_10_method_16_code
def yX8_deer : MethodName := ⟨RX8, "deer", "(II)I"⟩
abbrev cX8_isByte : ByteArray := prog_10_method_17_code
def yX8_isByte : MethodName := ⟨RX8, "isByte", "(I)Z"⟩
abbrev cX8_feed : ByteArray := prog_10_method_18_code
def yX8_feed : MethodName := ⟨RX8, "feed", "(IIIIII)I"⟩
abbrev cX8_wordFrom : ByteArray := prog_10_method_19_code
def yX8_wordFrom : MethodName := ⟨RX8, "wordFrom", "(II)I"⟩
abbrev cX8_next : ByteArray := prog_10_method_20_code
def yX8_next : MethodName := ⟨RX8, "next", "()V"⟩
abbrev cX8_rank : ByteArray := prog_10_method_21_code
def yX8_rank : MethodName := ⟨RX8, "rank", "(I)I"⟩
abbrev cX8_puts : ByteArray := prog_10_method_22_code
def yX8_puts : MethodName := ⟨RX8, "puts", "(I)V"⟩
abbrev cX8_unwinds : ByteArray := prog_10_method_23_code
def yX8_unwinds : MethodName := ⟨RX8, "unwinds", "(I)V"⟩
abbrev cX8_holds : ByteArray := prog_10_method_24_code
def yX8_holds : MethodName := ⟨RX8, "holds", "(I)V"⟩
abbrev cX8_opensOne : ByteArray := prog_10_method_25_code
def yX8_opensOne : MethodName := ⟨RX8, "opensOne", "(I)Z"⟩
abbrev cX8_between : ByteArray := prog_10_method_26_code
def yX8_between : MethodName := ⟨RX8, "between", "(I)Z"⟩
abbrev cX8_signOf : ByteArray := prog_10_method_27_code
def yX8_signOf : MethodName := ⟨RX8, "signOf", "()I"⟩
abbrev cX8_eRead : ByteArray := prog_10_method_28_code
def yX8_eRead : MethodName := ⟨RX8, "eRead", "()Z"⟩
abbrev cX8_text : ByteArray := prog_10_method_29_code
def yX8_text : MethodName := ⟨RX8, "text", "()I"⟩
abbrev cX8_two : ByteArray := prog_10_method_30_code
def yX8_two : MethodName := ⟨RX8, "two", "(III)I"⟩
abbrev cX8_says : ByteArray := prog_10_method_31_code
def yX8_says : MethodName := ⟨RX8, "says", "(I)I"⟩
abbrev cX8_force : ByteArray := prog_10_method_32_code
def yX8_force : MethodName := ⟨RX8, "force", "(I)I"⟩
abbrev cX8_asksOf : ByteArray := prog_10_method_33_code
def yX8_asksOf : MethodName := ⟨RX8, "asksOf", "(III)I"⟩
abbrev cX8_asks : ByteArray := prog_10_method_34_code
def yX8_asks : MethodName := ⟨RX8, "asks", "(III)I"⟩
abbrev cX8_hunter : ByteArray := prog_10_method_35_code
def yX8_hunter : MethodName := ⟨RX8, "hunter", "(III)I"⟩
abbrev cX8_meets : ByteArray := prog_10_method_36_code
def yX8_meets : MethodName := ⟨RX8, "meets", "(III)V"⟩
abbrev cX8_friends : ByteArray := prog_10_method_37_code
def yX8_friends : MethodName := ⟨RX8, "friends", "(III)I"⟩
abbrev cX8_put : ByteArray := prog_10_method_38_code
def yX8_put : MethodName := ⟨RX8, "put", "(III)I"⟩
abbrev cX8_gainsOf : ByteArray := prog_10_method_39_code
def yX8_gainsOf : MethodName := ⟨RX8, "gainsOf", "(I)I"⟩
abbrev cX8_hitsOf : ByteArray := prog_10_method_40_code
def yX8_hitsOf : MethodName := ⟨RX8, "hitsOf", "(II)I"⟩
abbrev cX8_doesWill : ByteArray := prog_10_method_41_code
def yX8_doesWill : MethodName := ⟨RX8, "doesWill", "(I)Z"⟩
abbrev cX8_hits : ByteArray := prog_10_method_42_code
def yX8_hits : MethodName := ⟨RX8, "hits", "(II)I"⟩
abbrev cX8_tellsWilling : ByteArray := prog_10_method_43_code
def yX8_tellsWilling : MethodName := ⟨RX8, "tellsWilling", "()V"⟩
abbrev cX8_tellsFar : ByteArray := prog_10_method_44_code
def yX8_tellsFar : MethodName := ⟨RX8, "tellsFar", "(I)V"⟩
abbrev cX8_sponsorBy : ByteArray := prog_10_method_45_code
def yX8_sponsorBy : MethodName := ⟨RX8, "sponsorBy", "(II)I"⟩
abbrev cX8_sponsored : ByteArray := prog_10_method_46_code
def yX8_sponsored : MethodName := ⟨RX8, "sponsored", "(I)I"⟩
abbrev cX8_told : ByteArray := prog_10_method_47_code
def yX8_told : MethodName := ⟨RX8, "told", "(II)I"⟩
abbrev cX8_gainsBy : ByteArray := prog_10_method_48_code
def yX8_gainsBy : MethodName := ⟨RX8, "gainsBy", "(I)I"⟩
abbrev cX8_meet : ByteArray := prog_10_method_49_code
def yX8_meet : MethodName := ⟨RX8, "meet", "(III)I"⟩
abbrev cX8_present : ByteArray := prog_10_method_50_code
def yX8_present : MethodName := ⟨RX8, "present", "(III)I"⟩
abbrev cX8_circle : ByteArray := prog_10_method_51_code
def yX8_circle : MethodName := ⟨RX8, "circle", "(II)I"⟩
abbrev cX8_digitsTo : ByteArray := prog_10_method_52_code
def yX8_digitsTo : MethodName := ⟨RX8, "digitsTo", "(I)I"⟩
abbrev cX8_way : ByteArray := prog_10_method_53_code
def yX8_way : MethodName := ⟨RX8, "way", "(III)I"⟩
abbrev cX8_aimOf : ByteArray := prog_10_method_54_code
def yX8_aimOf : MethodName := ⟨RX8, "aimOf", "(II)I"⟩
abbrev cX8_shotOf : ByteArray := prog_10_method_55_code
def yX8_shotOf : MethodName := ⟨RX8, "shotOf", "(II)I"⟩
abbrev cX8_shoot : ByteArray := prog_10_method_56_code
def yX8_shoot : MethodName := ⟨RX8, "shoot", "(II)I"⟩
abbrev cX8_aims : ByteArray := prog_10_method_57_code
def yX8_aims : MethodName := ⟨RX8, "aims", "(II)I"⟩
abbrev cX8_keeps : ByteArray := prog_10_method_58_code
def yX8_keeps : MethodName := ⟨RX8, "keeps", "()V"⟩
abbrev cX8_lays : ByteArray := prog_10_method_59_code
def yX8_lays : MethodName := ⟨RX8, "lays", "()V"⟩
abbrev cX8_seasonWrong : ByteArray := prog_10_method_60_code
def yX8_seasonWrong : MethodName := ⟨RX8, "seasonWrong", "(I)I"⟩
abbrev cX8_oneWrong : ByteArray := prog_10_method_61_code
def yX8_oneWrong : MethodName := ⟨RX8, "oneWrong", "(II)I"⟩
abbrev cX8_goes : ByteArray := prog_10_method_62_code
def yX8_goes : MethodName := ⟨RX8, "goes", "(II)V"⟩
abbrev cX8_season : ByteArray := prog_10_method_63_code
def yX8_season : MethodName := ⟨RX8, "season", "(III)I"⟩
abbrev cX8_hunt : ByteArray := prog_10_method_64_code
def yX8_hunt : MethodName := ⟨RX8, "hunt", "(II)I"⟩
abbrev cX8_sponsoredAll : ByteArray := prog_10_method_65_code
def yX8_sponsoredAll : MethodName := ⟨RX8, "sponsoredAll", "()I"⟩
abbrev cX8_ball : ByteArray := prog_10_method_66_code
def yX8_ball : MethodName := ⟨RX8, "ball", "(I)I"⟩
abbrev cX8_safest : ByteArray := prog_10_method_67_code
def yX8_safest : MethodName := ⟨RX8, "safest", "(I)I"⟩
abbrev cX8_prize : ByteArray := prog_10_method_68_code
def yX8_prize : MethodName := ⟨RX8, "prize", "(II)I"⟩
abbrev cX8_lowest : ByteArray := prog_10_method_69_code
def yX8_lowest : MethodName := ⟨RX8, "lowest", "(JJI)J"⟩
abbrev cX8_society : ByteArray := prog_10_method_70_code
def yX8_society : MethodName := ⟨RX8, "society", "(I)J"⟩
abbrev cX8_twoWrong : ByteArray := prog_10_method_71_code
def yX8_twoWrong : MethodName := ⟨RX8, "twoWrong", "(II)I"⟩
abbrev cX8_toldWrong : ByteArray := prog_10_method_72_code
def yX8_toldWrong : MethodName := ⟨RX8, "toldWrong", "(III)I"⟩
abbrev cX8_unlike : ByteArray := prog_10_method_73_code
def yX8_unlike : MethodName := ⟨RX8, "unlike", "(III)I"⟩
abbrev cX8_judge : ByteArray := prog_10_method_74_code
def yX8_judge : MethodName := ⟨RX8, "judge", "(III)I"⟩
abbrev cX8_kinds : ByteArray := prog_10_method_75_code
def yX8_kinds : MethodName := ⟨RX8, "kinds", "(IIII)I"⟩
abbrev cX8_turned : ByteArray := prog_10_method_76_code
def yX8_turned : MethodName := ⟨RX8, "turned", "(III)I"⟩
abbrev cX8_honours : ByteArray := prog_10_method_77_code
def yX8_honours : MethodName := ⟨RX8, "honours", "(IIII)I"⟩
abbrev cX8_whose : ByteArray := prog_10_method_78_code
def yX8_whose : MethodName := ⟨RX8, "whose", "(II)I"⟩
abbrev cX8_laws : ByteArray := prog_10_method_79_code
def yX8_laws : MethodName := ⟨RX8, "laws", "(III)I"⟩
abbrev cX8_film : ByteArray := prog_10_method_80_code
def yX8_film : MethodName := ⟨RX8, "film", "(III)I"⟩
abbrev cX8_lotSeasons : ByteArray := prog_10_method_81_code
def yX8_lotSeasons : MethodName := ⟨RX8, "lotSeasons", "(II)I"⟩
abbrev cX8_drawn : ByteArray := prog_10_method_82_code
def yX8_drawn : MethodName := ⟨RX8, "drawn", "(III)I"⟩
abbrev cX8_odds : ByteArray := prog_10_method_83_code
def yX8_odds : MethodName := ⟨RX8, "odds", "(IIII)J"⟩
abbrev cX8_image : ByteArray := prog_10_method_84_code
def yX8_image : MethodName := ⟨RX8, "image", "()I"⟩
abbrev cX8_back : ByteArray := prog_10_method_85_code
def yX8_back : MethodName := ⟨RX8, "back", "()I"⟩
abbrev cX8_sheet : ByteArray := prog_10_method_86_code
def yX8_sheet : MethodName := ⟨RX8, "sheet", "(III)I"⟩
abbrev cX8_cell : ByteArray := prog_10_method_87_code
def yX8_cell : MethodName := ⟨RX8, "cell", "(III)I"⟩
abbrev cX8_copy : ByteArray := prog_10_method_88_code
def yX8_copy : MethodName := ⟨RX8, "copy", "(IIIII)I"⟩
abbrev cX8_huntersBy : ByteArray := prog_10_method_89_code
def yX8_huntersBy : MethodName := ⟨RX8, "huntersBy", "(IIII)I"⟩
abbrev cX8_isUnder : ByteArray := prog_10_method_90_code
def yX8_isUnder : MethodName := ⟨RX8, "isUnder", "(II)Z"⟩
abbrev cX8_taken : ByteArray := prog_10_method_91_code
def yX8_taken : MethodName := ⟨RX8, "taken", "(II)I"⟩
def RJx8e188 : String := "java/lang/Cloneable"
def TJx8e188 : u_T := fun k => match k with
  | _ => ("", "", "", false)
def tyJx8e188 : Nat → FieldType := fun k => match k with
  | _ => .int
abbrev wsJx8e1880 : List Cond := u_ws RJx8e188 TJx8e188 0
def RJ6 : String := "java/lang/Integer"
def TJ6 : u_T := fun k => match k with
  | _ => ("", "", "", false)
def tyJ6 : Nat → FieldType := fun k => match k with
  | _ => .int
abbrev wsJ60 : List Cond := u_ws RJ6 TJ6 0
abbrev cJ6_bitCount_0f7a4 : ByteArray := prog_12_method_49_code
def yJ6_bitCount_0f7a4 : MethodName := ⟨RJ6, "bitCount", "(I)I"⟩
def RJ9 : String := "java/lang/Math"
def TJ9 : u_T := fun k => match k with
  | _ => ("", "", "", false)
def tyJ9 : Nat → FieldType := fun k => match k with
  | _ => .int
abbrev wsJ90 : List Cond := u_ws RJ9 TJ9 0
abbrev cJ9_max_7cf53 : ByteArray := prog_13_method_65_code
def yJ9_max_7cf53 : MethodName := ⟨RJ9, "max", "(II)I"⟩
abbrev cJ9_min_7cf53 : ByteArray := prog_13_method_69_code
def yJ9_min_7cf53 : MethodName := ⟨RJ9, "min", "(II)I"⟩
def RJ0 : String := "java/lang/String"
def TJ0 : u_T := fun k => match k with
  | _ => ("", "", "", false)
def tyJ0 : Nat → FieldType := fun k => match k with
  | _ => .int
abbrev wsJ00 : List Cond := u_ws RJ0 TJ0 0
abbrev cJ0_length_8abf5 : ByteArray := prog_14_method_54_code
def yJ0_length_8abf5 : MethodName := ⟨RJ0, "length", "()I"⟩
abbrev cJ0_charAt_5068e : ByteArray := prog_14_method_56_code
def yJ0_charAt_5068e : MethodName := ⟨RJ0, "charAt", "(I)C"⟩
abbrev cJ0_coder_7d493 : ByteArray := prog_14_method_152_code
def yJ0_coder_7d493 : MethodName := ⟨RJ0, "coder", "()B"⟩
abbrev cJ0_isLatin1_aae02 : ByteArray := prog_14_method_154_code
def yJ0_isLatin1_aae02 : MethodName := ⟨RJ0, "isLatin1", "()Z"⟩
abbrev cJ0_checkIndex_df160 : ByteArray := prog_14_method_155_code
def yJ0_checkIndex_df160 : MethodName := ⟨RJ0, "checkIndex", "(II)V"⟩
def RJ1 : String := "java/lang/StringLatin1"
def TJ1 : u_T := fun k => match k with
  | _ => ("", "", "", false)
def tyJ1 : Nat → FieldType := fun k => match k with
  | _ => .int
abbrev wsJ10 : List Cond := u_ws RJ1 TJ1 0
abbrev cJ1_charAt_3b067 : ByteArray := prog_15_method_2_code
def yJ1_charAt_3b067 : MethodName := ⟨RJ1, "charAt", "([BI)C"⟩
def RJ2 : String := "java/lang/StringUTF16"
def TJ2 : u_T := fun k => match k with
  | _ => ("", "", "", false)
def tyJ2 : Nat → FieldType := fun k => match k with
  | _ => .int
abbrev wsJ20 : List Cond := u_ws RJ2 TJ2 0
abbrev cJ2_getChar_3b067 : ByteArray := prog_16_method_5_code
def yJ2_getChar_3b067 : MethodName := ⟨RJ2, "getChar", "([BI)C"⟩
abbrev cJ2_length_9d52b : ByteArray := prog_16_method_6_code
def yJ2_length_9d52b : MethodName := ⟨RJ2, "length", "([B)I"⟩
abbrev cJ2_charAt_3b067 : ByteArray := prog_16_method_83_code
def yJ2_charAt_3b067 : MethodName := ⟨RJ2, "charAt", "([BI)C"⟩
abbrev cJ2_checkIndex_2214a : ByteArray := prog_16_method_91_code
def yJ2_checkIndex_2214a : MethodName := ⟨RJ2, "checkIndex", "(I[B)V"⟩
def RJ10 : String := "java/lang/System"
def TJ10 : u_T := fun k => match k with
  | _ => ("", "", "", false)
def tyJ10 : Nat → FieldType := fun k => match k with
  | _ => .int
abbrev wsJ100 : List Cond := u_ws RJ10 TJ10 0
def RJ3 : String := "jdk/internal/util/Preconditions"
def TJ3 : u_T := fun k => match k with
  | _ => ("", "", "", false)
def tyJ3 : Nat → FieldType := fun k => match k with
  | _ => .int
abbrev wsJ30 : List Cond := u_ws RJ3 TJ3 0
abbrev cJ3_checkIndex_8e157 : ByteArray := prog_18_method_11_code
def yJ3_checkIndex_8e157 : MethodName := ⟨RJ3, "checkIndex", "(IILjava/util/function/BiFunction;)I"⟩
def RL : String := "HuntersIntroducedLaw"
abbrev cL_law : ByteArray := code
def yL_law : MethodName := ⟨RL, "law", "([I)Z"⟩
abbrev vwCl : List vw_C := [(RX0, TX0, 11), (RX1, TX1, 1), (RX2, TX2, 11), (RX3, TX3, 4), (RX4, TX4, 3), (RX5, TX5, 2), (RX6, TX6, 2), (RX7, TX7, 9), (RX8, TX8, 36)]
end
section
/-! LAYER G: an abstract heap (shapes, whole numbers, references, longs, all by place), abstract values, one predicate for a method's state -/
abbrev g_V : Type := Int32 ⊕ (Int64 ⊕ (Option Nat ⊕ Nat))
abbrev vi (x : Int32) : g_V := .inl x
abbrev vl (x : Int64) : g_V := .inr (.inl x)
abbrev vr (x : Nat) : g_V := .inr (.inr (.inl (some x)))
abbrev vz : g_V := .inr (.inr (.inl none))
abbrev vo (r : Option Nat) : g_V := .inr (.inr (.inl r))
abbrev vc (k : Nat) : g_V := .inr (.inr (.inr k))
abbrev g_H : Type := List (Nat × Nat) × (Nat → Nat → Int32) × (Nat → Nat → Option Nat) × (Nat → Nat → Int64)
abbrev g_Y : Type := MethodName × ByteArray × Nat × Option FieldType
abbrev g_Z : Type := Nat × Nat × Nat × Nat × (Nat × (Nat → Int32)) × (Option g_V → g_H → Prop)
def gc (aK : Nat → Value) (ad : Nat → Nat) : g_V → Value
  | .inl x => .int x
  | .inr (.inl x) => .long x
  | .inr (.inr (.inl r)) => va_rf (r.map ad)
  | .inr (.inr (.inr k)) => aK k
def g_fkt : FieldType → Nat
  | .int => 0
  | .long => 1
  | .boolean => 3
  | .object _ => 2
  | .array _ => 2
  | _ => 4
def g_ty : Nat → Nat → FieldType
  | 0 => tyX0 | 1 => tyX1 | 2 => tyX2 | 3 => tyX3 | 4 => tyX4 | 5 => tyX5 | 6 => tyX6 | 7 => tyX7 | _ => tyX8
def g_fk (c j : Nat) : Nat := g_fkt (g_ty c j)
def g_fv (ad : Nat → Nat) (h : g_H) (c k j : Nat) : Value := if g_fk c j = 1 then .long (h.2.2.2 k j) else if g_fk c j = 2 then va_rf ((h.2.2.1 k j).map ad) else .int (h.2.1 k j)
def g_ce (cs : Nat → ClassId) (ad : Nat → Nat) (h : g_H) (k : Nat) : va_E :=
  if (h.1.getD k (0, 0)).1 < 20 then .inr ((h.1.getD k (0, 0)).1, (List.range (h.1.getD k (0, 0)).2).map (g_fv ad h (h.1.getD k (0, 0)).1 k))
  else if (h.1.getD k (0, 0)).1 = 20 then .inl (cs 20, (h.1.getD k (0, 0)).2, .inl (h.2.1 k))
  else .inl (cs (h.1.getD k (0, 0)).1, (h.1.getD k (0, 0)).2, .inr (.inr (.inr (.inr (fun j => (h.2.2.1 k j).map ad)))))
def g_cw (cs : Nat → ClassId) (ad : Nat → Nat) (h : g_H) : va_W := (List.range h.1.length).map (fun k => (ad k, g_ce cs ad h k))
abbrev g_tys (cs : Nat → ClassId) : List (ClassId × FieldType) := [(cs 20, .int), (cs 21, .object RX4), (cs 22, .object RX5)]
/-- the tables' words that a callee may use, too -/
def g_T : List Cond := lw_tbl.filter goodWord
theorem g_in {w : Cond} (i : Nat) (h : tables_1[i]? = some w) (hg : goodWord w = true) : w ∈ g_T := List.mem_filter.mpr ⟨List.mem_append_right _ (List.mem_of_getElem? h), hg⟩
theorem g_inS {w : Cond} (h : w ∈ k2_sels lw_privs) (hg : goodWord w = true) : w ∈ g_T := List.mem_filter.mpr ⟨List.mem_append_left _ h, hg⟩
theorem g_good : GoodIn g_T g_T := fun w h => ⟨h, good_of_word (List.mem_filter.mp h).2⟩
theorem g_good1 {ws : List Cond} (h : ∀ w ∈ ws, w ∈ g_T) : GoodIn g_T ws := fun w hw => g_good w (h w hw)
-- locals by slots
def g_ll (aK : Nat → Value) (ad : Nat → Nat) : Nat → List (Option g_V) → List (Nat × Value)
  | _, [] => []
  | i, none :: L => g_ll aK ad (i + 1) L
  | i, some v :: L => (i, gc aK ad v) :: g_ll aK ad (i + 1) L
def g_L (aK : Nat → Value) (ad : Nat → Nat) (ls : Array Slot) (nL : Nat) (L : List (Option g_V)) : Prop := lv_has ls nL (g_ll aK ad 0 L) ∧ L.length ≤ nL
def g_isl : Option g_V → Bool
  | some (.inr (.inl _)) => true
  | _ => false
def g_clr (L : List (Option g_V)) (i : Nat) : List (Option g_V) := if g_isl (L.getD i none) then L.set i none else L
def g_clp (L : List (Option g_V)) : Nat → List (Option g_V)
  | 0 => L
  | i + 1 => g_clr L i
def g_st1 (L : List (Option g_V)) (i : Nat) (v : g_V) : List (Option g_V) := (g_clp L i).set i (some v)
def g_st2 (L : List (Option g_V)) (i : Nat) (v : g_V) : List (Option g_V) := ((g_clp L i).set (i + 1) none).set i (some v)
-- strings: their texts
def g_strs : List (Nat × String × Nat × String) := [(0, RX7, 61, "honours 3 ; hits honour ; wills 1 ;"), (1, RX2, 83, "honours"), (2, RX2, 89, "hits"), (3, RX2, 91, "wills"), (4, RX2, 93, "or"), (5, RX2, 95, "and"), (6, RX2, 97, "not"), (7, RX2, 99, "honour"), (8, RX2, 101, "shy"), (9, RX2, 103, "met"), (10, RX2, 105, "cards"), (11, RX2, 107, "day"), (12, RX2, 109, "more")]
def g_slen : List Nat := [35, 7, 4, 5, 2, 3, 3, 6, 3, 3, 5, 3, 4]
def g_sbyt : List (List Int32) := [[104, 111, 110, 111, 117, 114, 115, 32, 51, 32, 59, 32, 104, 105, 116, 115, 32, 104, 111, 110, 111, 117, 114, 32, 59, 32, 119, 105, 108, 108, 115, 32, 49, 32, 59], [104, 111, 110, 111, 117, 114, 115], [104, 105, 116, 115], [119, 105, 108, 108, 115], [111, 114], [97, 110, 100], [110, 111, 116], [104, 111, 110, 111, 117, 114], [115, 104, 121], [109, 101, 116], [99, 97, 114, 100, 115], [100, 97, 121], [109, 111, 114, 101]]
def g_nests : List (String × Nat × MethodName) := [(RX7, 9, yX0_init), (RX7, 28, yX2_init), (RX7, 35, yX3_init), (RX7, 42, yX6_init), (RX7, 49, yX1_init), (RX7, 60, yX4_init), (RX4, 22, yX7_isDeer)]
/-- the constants: texts 0 .. 12, their bytes 100 .. 112, the formatter 200, the law's script 300 -/
def g_S (aK : Nat → Value) (A : Nat → Prop) (U : State) (H : Heap) : Prop :=
  (∃ adK adV : Nat → Nat, vk_S 13 g_slen g_sbyt adK adV A U H ∧ ∀ k : Nat, k < 13 → aK k = .ref (adK k) ∧ aK (100 + k) = .ref (adV k)) ∧
  (∀ k : Nat, ∃ r : Option Nat, aK k = va_rf r) ∧
  (∀ q ∈ g_strs, ∃ a : Nat, aK q.1 = .ref a ∧ vk_R q.2.1 q.2.2.1 q.2.2.2 a U) ∧
  va_Z "java/lang/String" "COMPACT_STRINGS" "Z" (.int 1) A U H ∧
  va_Z "jdk/internal/util/Preconditions" "SIOOBE_FORMATTER" "Ljava/util/function/BiFunction;" (aK 200) A U H ∧
  (∀ q ∈ g_nests, va_Nw (.methodLinkNest q.1 q.2.1 q.2.2 RX7) U) ∧ va_Nw (.castable "[I" "java/lang/Cloneable") U ∧ va_AO RX4 U ∧ va_AO RX5 U
theorem g_S_go {aK : Nat → Value} {A B : Nat → Prop} {s U : State} {H : Heap} {locs : List Loc} (h : g_S aK A s s.heap) (hS : va_S A s.heap H locs) (hW : s.WarmedH U.vm) (hU : U.heap = H) (hAB : ∀ q, B q → A q) : g_S aK B U U.heap := by
  obtain ⟨⟨adK, adV, h1, h2⟩, h3, h4, h5, h6, h7, h8, h9, h10⟩ := h
  rw [hU]
  exact ⟨⟨adK, adV, ((h1.kept hS.2.1).moved hW.alike).narrow hAB, h2⟩, h3, fun q hq => by
    obtain ⟨a, e1, e2⟩ := h4 q hq
    exact ⟨a, e1, e2.warm hW⟩, ((h5.kept hS.2.1).moved hW.alike).narrow hAB, ((h6.kept hS.2.1).moved hW.alike).narrow hAB, fun q hq => (h7 q hq).warmM hW, h8.warmC hW, h9.moved hW.alike, h10.moved hW.alike⟩
theorem g_S_blind {aK : Nat → Value} {A : Nat → Prop} {U : State} {g : JFrame} {mk : MethodId} {a : Array Value} (h : g_S aK A U U.heap) : g_S aK A (U.calling g mk a) (U.calling g mk a).heap := by
  obtain ⟨⟨adK, adV, h1, h2⟩, h3, h4, h5, h6, h7, h8, h9, h10⟩ := h
  refine ⟨⟨adK, adV, vk_S.moved (u := U) (U := U.calling g mk a) (Vm.Alike.refl U.vm) h1, h2⟩, h3, fun q hq => ?_, va_Z.moved (u := U) (U := U.calling g mk a) (Vm.Alike.refl U.vm) h5, va_Z.moved (u := U) (U := U.calling g mk a) (Vm.Alike.refl U.vm) h6, fun q hq => va_Nw.same rfl (u := U) (U := U.calling g mk a) rfl (h7 q hq), va_Nw.same rfl (u := U) (U := U.calling g mk a) rfl h8, va_AO.moved (u := U) (U := U.calling g mk a) (Vm.Alike.refl U.vm) h9, va_AO.moved (u := U) (U := U.calling g mk a) (Vm.Alike.refl U.vm) h10⟩
  obtain ⟨a, e1, e2⟩ := h4 q hq
  exact ⟨a, e1, e2.same rfl⟩
-- the judgement
def g_D (Y : g_Y) (pc : Nat) (i : Instr) (w pc' : Nat) : Prop := decode Y.2.1 pc = .ok (i, w) ∧ pc + w = pc'
def g_J (Y : g_Y) (pc : Nat) (i : Int → Instr) (tgt pc' : Nat) : Prop := ∃ off : Int, decode Y.2.1 pc = .ok (i off, 3) ∧ (pc : Int) + off = (tgt : Int) ∧ pc + 3 = pc'
def g_Cx (Y : g_Y) (Z : g_Z) (p : Program) (R : Room) (s : State) (m : MethodId) (args : Array Value) (meth : Method) (c : Code) (D : va_G) (cs : Nat → ClassId) (aK : Nat → Value) (A : Nat → Prop) : Prop :=
  p.tables.exec = Jvm.exec ∧ c.code = Y.2.1 ∧ c.maxLocals = Y.2.2.1 ∧ s.vm.findClass Y.1.cls = some m.cls ∧ (∀ w ∈ g_T, w.before args s = true) ∧
  (Z.1 ≤ R.frames ∧ 64 * Z.1 ≤ R.locals ∧ Z.2.1 ≤ R.cells ∧ Z.2.2.1 ≤ R.slots) ∧ meth.name = Y.1.name ∧ (∀ q, s.heap.size ≤ q → A q) ∧ g_S aK A s s.heap ∧ va_K D vwCl (g_tys cs) s ∧
  (Z.2.2.2.2.1.1 ≠ 0 → ∃ b : Nat, aK 300 = .ref b ∧ va_X b Z.2.2.2.2.1.1 Z.2.2.2.2.1.2 s s.heap ∧ b < s.heap.size ∧ ¬ A b)
def g_W (D : va_G) (cs : Nat → ClassId) (ad : Nat → Nat) (h : g_H) (A : Nat → Prop) (s : State) (H : Heap) (locs : List Loc) : Prop := va_P D vwCl (g_cw cs ad h) H ∧ va_D A (g_cw cs ad h) ∧ va_S A s.heap H locs
def g_A (N0 : Nat) (ad0 ad : Nat → Nat) (n : Nat) : Prop := (∀ q, q < N0 → ad q = ad0 q) ∧ (n = N0 → ad = ad0) ∧ N0 ≤ n
def g_ri (rt : Option FieldType) : Option g_V → Instr → Prop
  | none, i => rt = none ∧ i = .return_
  | some (.inl x), i => i = .ireturn ∧ ∃ ty, rt = some ty ∧ narrow ty (.int x) = .int x
  | some (.inr (.inl _)), i => i = .lreturn ∧ rt = some .long
  | some (.inr (.inr _)), i => i = .areturn ∧ ∃ ty, rt = some ty ∧ ((∃ n, ty = .object n) ∨ ∃ t, ty = .array t)
def g_R (Y : g_Y) (Z : g_Z) (p : Program) (l : Launch) (e : Env) (R : Room) (s : State) (m : MethodId) (args : Array Value) (below : List Frame) (meth : Method) (c : Code) (D : va_G) (cs : Nat → ClassId) (aK : Nat → Value) (A : Nat → Prop) (ad0 : Nat → Nat) (QS : State → Prop) : Prop :=
  ∀ (H : Heap) (locs : List Loc) (k n pc pc' : Nat) (ls : Array Slot) (v : Option g_V) (h : g_H) (ad : Nat → Nat) (i : Instr), g_D Y pc i 1 pc' → g_ri Y.2.2.2 v i → k ≤ Z.2.1 → n ≤ Z.2.2.1 → g_W D cs ad h A s H locs → g_A Z.2.2.2.1 ad0 ad h.1.length → Z.2.2.2.2.2 v h →
    W p l e R s m args below meth c H locs k n QS (F0 m pc ls (v.toList.map (gc aK ad)))
def Gd (Y : g_Y) (Z : g_Z) (k n pc : Nat) (L : List (Option g_V)) (st : List g_V) (h : g_H) : Prop :=
  ∀ (p : Program) (l : Launch) (e : Env) (R : Room) (s : State) (m : MethodId) (args : Array Value) (below : List Frame) (meth : Method) (c : Code) (D : va_G) (cs : Nat → ClassId) (aK : Nat → Value) (A : Nat → Prop) (ad0 : Nat → Nat) (QS : State → Prop) (H : Heap) (locs : List Loc) (ad : Nat → Nat) (ls : Array Slot),
    g_Cx Y Z p R s m args meth c D cs aK A → g_R Y Z p l e R s m args below meth c D cs aK A ad0 QS → g_W D cs ad h A s H locs → g_A Z.2.2.2.1 ad0 ad h.1.length → g_L aK ad ls Y.2.2.1 L →
    W p l e R s m args below meth c H locs k n QS (F0 m pc ls (st.map (gc aK ad)))
/-- a method's contract: from the heap h and these arguments it comes to an answer and a heap of which Q holds; mc cells of ms slots may come; d frames deep -/
def g_QC (D : va_G) (cs : Nat → ClassId) (aK : Nat → Value) (ad0 : Nat → Nat) (N0 : Nat) (Q : Option g_V → g_H → Prop) (A : Nat → Prop) : Array Value → State → Outcome → State → Prop := fun _ st o t =>
  (∃ (r : Option g_V) (h' : g_H) (ad' : Nat → Nat), o = .returned (r.map (gc aK ad')) ∧ Q r h' ∧ g_A N0 ad0 ad' h'.1.length ∧ va_P D vwCl (g_cw cs ad' h') t.heap ∧ va_D A (g_cw cs ad' h')) ∧ va_F A st t
def g_Pre (D : va_G) (cs : Nat → ClassId) (aK : Nat → Value) (ad : Nat → Nat) (h : g_H) (sz : Nat) (as : List g_V) : Array Value → State → Prop :=
  va_Pc (as.map (gc aK ad)) (fun U => U.heap.size = sz ∧ va_P D vwCl (g_cw cs ad h) U.heap ∧ va_K D vwCl (g_tys cs) U ∧ va_D (fun _ => True) (g_cw cs ad h) ∧ g_S aK (va_A (g_cw cs ad h) sz) U U.heap)
def g_ws (Y : g_Y) : List Cond := Cond.code Y.1 Y.2.1 Y.2.2.1 Y.2.2.2 :: g_T
def g_rm (d mc ms : Nat) : Room := { frames := d, cells := mc, slots := ms, locals := 64 * d }
def Mt (Y : g_Y) (d mc ms : Nat) (as : List g_V) (h : g_H) (Q : Option g_V → g_H → Prop) : Prop :=
  ∀ (l : Launch) (D : va_G) (cs : Nat → ClassId) (aK : Nat → Value) (ad : Nat → Nat) (sz : Nat),
    Met l Y.1 (g_ws Y) (g_rm d mc ms) (g_Pre D cs aK ad h sz as) (g_QC D cs aK ad h.1.length Q (va_A (g_cw cs ad h) sz)) mc ms (va_A (g_cw cs ad h) sz)
theorem g_Pre_blind {D : va_G} {cs : Nat → ClassId} {aK : Nat → Value} {ad : Nat → Nat} {h : g_H} {sz : Nat} {as : List g_V} : FrameBlind (g_Pre D cs aK ad h sz as) := by
  intro a U g mk q
  obtain ⟨q0, q1, q2, q3, q4, q5⟩ := q
  exact ⟨q0, q1, q2, va_K.moved (u := U) (U := U.calling g mk a) (Vm.Alike.refl U.vm) q3, q4, g_S_blind q5⟩
end
section
theorem gc_cat {aK : Nat → Value} {ad : Nat → Nat} (hK : ∀ k : Nat, ∃ r : Option Nat, aK k = va_rf r) (v : g_V) : (gc aK ad v).category = if g_isl (some v) then 2 else 1 := by
  rcases v with x | x | r | k
  · rfl
  · rfl
  · cases r <;> rfl
  · obtain ⟨r, hr⟩ := hK k
    show (aK k).category = _
    rw [hr]
    cases r <;> rfl
theorem g_ll_mem {aK : Nat → Value} {ad : Nat → Nat} : ∀ (L : List (Option g_V)) (i : Nat) (q : Nat × Value), q ∈ g_ll aK ad i L ↔ ∃ (j : Nat) (v : g_V), L[j]? = some (some v) ∧ q = (i + j, gc aK ad v)
  | [], i, q => by simp [g_ll]
  | none :: L, i, q => by
    rw [g_ll, g_ll_mem L (i + 1) q]
    constructor
    · rintro ⟨j, v, h, e⟩
      exact ⟨j + 1, v, by simpa using h, by rw [e]; congr 1; omega⟩
    · rintro ⟨j, v, h, e⟩
      cases j with
      | zero => simp at h
      | succ j => exact ⟨j, v, by simpa using h, by rw [e]; congr 1; omega⟩
  | some w :: L, i, q => by
    rw [g_ll, List.mem_cons, g_ll_mem L (i + 1) q]
    constructor
    · rintro (h | ⟨j, v, h, e⟩)
      · exact ⟨0, w, by simp, by simpa using h⟩
      · exact ⟨j + 1, v, by simpa using h, by rw [e]; congr 1; omega⟩
    · rintro ⟨j, v, h, e⟩
      cases j with
      | zero =>
        simp at h
        subst h
        exact Or.inl (by simpa using e)
      | succ j => exact Or.inr ⟨j, v, by simpa using h, by rw [e]; congr 1; omega⟩
theorem g_L_at {aK : Nat → Value} {ad : Nat → Nat} {ls : Array Slot} {nL : Nat} {L : List (Option g_V)} (h : g_L aK ad ls nL L) {i : Nat} {v : g_V} (hv : L[i]? = some (some v)) : ls[i]? = some (.val (gc aK ad v)) :=
  h.1.2.2 (i, gc aK ad v) ((g_ll_mem L 0 _).mpr ⟨i, v, hv, by simp⟩)
theorem g_clr_get {L : List (Option g_V)} {i j : Nat} {w : g_V} (h : (g_clr L i)[j]? = some (some w)) : L[j]? = some (some w) ∧ ¬ (j = i ∧ g_isl (some w) = true) := by
  unfold g_clr at h
  split at h
  next hl =>
    rw [List.getElem?_set] at h
    split at h
    next e => split at h <;> simp at h
    next e => exact ⟨h, fun q => e q.1.symm⟩
  next hl =>
    refine ⟨h, fun q => hl ?_⟩
    rw [← q.1, List.getD_eq_getElem?_getD, h]
    exact q.2
theorem g_clp_get {L : List (Option g_V)} {i j : Nat} {w : g_V} (h : (g_clp L i)[j]? = some (some w)) : L[j]? = some (some w) ∧ ¬ (j + 1 = i ∧ g_isl (some w) = true) := by
  cases i with
  | zero => exact ⟨h, fun q => by omega⟩
  | succ i =>
    obtain ⟨h1, h2⟩ := g_clr_get h
    exact ⟨h1, fun q => h2 ⟨by omega, q.2⟩⟩
theorem g_clp_len (L : List (Option g_V)) (i : Nat) : (g_clp L i).length = L.length := by
  cases i with
  | zero => rfl
  | succ i => simp only [g_clp, g_clr]; split <;> simp
theorem g_L_sub {aK : Nat → Value} {ad : Nat → Nat} {ls : Array Slot} {nL : Nat} {l : List (Nat × Value)} {L : List (Option g_V)} (h : lv_has ls nL l) (hL : L.length ≤ nL) (hs : ∀ (j : Nat) (w : g_V), L[j]? = some (some w) → (j, gc aK ad w) ∈ l) : g_L aK ad ls nL L := by
  refine ⟨⟨h.1, h.2.1, fun q hq => ?_⟩, hL⟩
  obtain ⟨j, v, h1, rfl⟩ := (g_ll_mem L 0 q).mp hq
  have := h.2.2 _ (hs j v h1)
  simpa using this
theorem g_L_st1 {aK : Nat → Value} {ad : Nat → Nat} (hK : ∀ k : Nat, ∃ r : Option Nat, aK k = va_rf r) {ls ls' : Array Slot} {nL i : Nat} {L : List (Option g_V)} {v : g_V} (h0 : g_L aK ad ls nL L)
    (h : lv_has ls' nL ((i, gc aK ad v) :: (g_ll aK ad 0 L).filter (fun q => !(q.1 == i) && !(q.1 + 1 == i && q.2.category == 2)))) : g_L aK ad ls' nL (g_st1 L i v) := by
  refine g_L_sub h (by simp [g_st1, g_clp_len]; exact h0.2) (fun j w hj => ?_)
  rw [g_st1, List.getElem?_set] at hj
  split at hj
  next e =>
    subst e
    split at hj
    · cases hj
      exact List.mem_cons_self
    · simp at hj
  next e =>
    obtain ⟨h1, h2⟩ := g_clp_get hj
    refine List.mem_cons_of_mem _ (List.mem_filter.mpr ⟨(g_ll_mem L 0 _).mpr ⟨j, w, h1, by simp⟩, ?_⟩)
    rw [gc_cat hK]
    have e2 : j ≠ i := fun q => e q.symm
    by_cases h3 : j + 1 = i
    · have h4 : g_isl (some w) = false := by
        cases hh : g_isl (some w) with
        | false => rfl
        | true => exact absurd ⟨h3, hh⟩ h2
      simp [e2, h4]
    · simp [e2, h3]
theorem g_L_st2 {aK : Nat → Value} {ad : Nat → Nat} (hK : ∀ k : Nat, ∃ r : Option Nat, aK k = va_rf r) {ls ls' : Array Slot} {nL i : Nat} {L : List (Option g_V)} {v : g_V} (h0 : g_L aK ad ls nL L)
    (h : lv_has ls' nL ((i, gc aK ad v) :: (g_ll aK ad 0 L).filter (fun q => !(q.1 == i) && (!(q.1 == i + 1) && !(q.1 + 1 == i && q.2.category == 2))))) : g_L aK ad ls' nL (g_st2 L i v) := by
  refine g_L_sub h (by simp [g_st2, g_clp_len]; exact h0.2) (fun j w hj => ?_)
  rw [g_st2, List.getElem?_set] at hj
  split at hj
  next e =>
    subst e
    split at hj
    · cases hj
      exact List.mem_cons_self
    · simp at hj
  next e =>
    rw [List.getElem?_set] at hj
    split at hj
    next e3 => split at hj <;> simp at hj
    next e3 =>
      obtain ⟨h1, h2⟩ := g_clp_get hj
      refine List.mem_cons_of_mem _ (List.mem_filter.mpr ⟨(g_ll_mem L 0 _).mpr ⟨j, w, h1, by simp⟩, ?_⟩)
      rw [gc_cat hK]
      have e2 : j ≠ i := fun q => e q.symm
      have e4 : j ≠ i + 1 := fun q => e3 q.symm
      by_cases h3 : j + 1 = i
      · have h4 : g_isl (some w) = false := by
          cases hh : g_isl (some w) with
          | false => rfl
          | true => exact absurd ⟨h3, hh⟩ h2
        simp [e2, e4, h4]
      · simp [e2, e4, h3]
-- the heap's cells
theorem g_cw_len (cs : Nat → ClassId) (ad : Nat → Nat) (h : g_H) : (g_cw cs ad h).length = h.1.length := by simp [g_cw]
theorem g_cw_at {cs : Nat → ClassId} {ad : Nat → Nat} {h : g_H} {k : Nat} (hk : k < h.1.length) : (g_cw cs ad h)[k]? = some (ad k, g_ce cs ad h k) := by simp [g_cw, hk]
theorem g_sh_lt {h : g_H} {k : Nat} {x : Nat × Nat} (hk : h.1[k]? = some x) : k < h.1.length := (List.getElem?_eq_some_iff.mp hk).1
theorem g_sh_D {h : g_H} {k : Nat} {x : Nat × Nat} (hk : h.1[k]? = some x) : h.1.getD k (0, 0) = x := by rw [List.getD_eq_getElem?_getD, hk]; rfl
theorem g_ce_ob {cs : Nat → ClassId} {ad : Nat → Nat} {h : g_H} {k c n : Nat} (hk : h.1[k]? = some (c, n)) (hc : c < 20) : g_ce cs ad h k = .inr (c, (List.range n).map (g_fv ad h c k)) := by
  unfold g_ce; rw [g_sh_D hk]; simp [hc]
theorem g_ce_ia {cs : Nat → ClassId} {ad : Nat → Nat} {h : g_H} {k n : Nat} (hk : h.1[k]? = some (20, n)) : g_ce cs ad h k = .inl (cs 20, n, .inl (h.2.1 k)) := by
  unfold g_ce; rw [g_sh_D hk]; simp
theorem g_ce_ra {cs : Nat → ClassId} {ad : Nat → Nat} {h : g_H} {k c n : Nat} (hk : h.1[k]? = some (c, n)) (hc : 20 < c) : g_ce cs ad h k = .inl (cs c, n, .inr (.inr (.inr (.inr (fun j => (h.2.2.1 k j).map ad))))) := by
  unfold g_ce; rw [g_sh_D hk]
  have h1 : ¬ c < 20 := by omega
  have h2 : ¬ c = 20 := by omega
  simp [h1, h2]
theorem g_cw_set {cs : Nat → ClassId} {ad : Nat → Nat} {h h' : g_H} {k : Nat} {e : va_E} (hl : h'.1 = h.1) (he : g_ce cs ad h' k = e) (ho : ∀ i, i ≠ k → g_ce cs ad h' i = g_ce cs ad h i) : (g_cw cs ad h).set k (ad k, e) = g_cw cs ad h' := by
  apply List.ext_getElem?
  intro i
  rw [List.getElem?_set, g_cw_len]
  by_cases hi : i < h.1.length
  · have hi' : i < h'.1.length := by rw [hl]; exact hi
    rw [g_cw_at hi', g_cw_at hi]
    by_cases e1 : k = i
    · subst e1
      rw [if_pos rfl, if_pos hi, he]
    · rw [if_neg e1, ho i (fun q => e1 q.symm)]
  · have hi' : ¬ i < h'.1.length := by rw [hl]; exact hi
    have e2 : (g_cw cs ad h')[i]? = none := by rw [List.getElem?_eq_none_iff, g_cw_len]; omega
    have e3 : (g_cw cs ad h)[i]? = none := by rw [List.getElem?_eq_none_iff, g_cw_len]; omega
    rw [e2, e3]
    split
    next q => rw [if_neg (by omega)]
    next q => rfl
theorem g_cw_push {cs : Nat → ClassId} {ad : Nat → Nat} {h h' : g_H} {x : Nat × Nat} {q : Nat} {e : va_E} (hl : h'.1 = h.1 ++ [x]) (he : g_ce cs (va_up ad h.1.length q) h' h.1.length = e) (ho : ∀ i, i < h.1.length → g_ce cs (va_up ad h.1.length q) h' i = g_ce cs ad h i) : g_cw cs ad h ++ [(q, e)] = g_cw cs (va_up ad h.1.length q) h' := by
  apply List.ext_getElem?
  intro i
  have hl' : h'.1.length = h.1.length + 1 := by rw [hl]; simp
  rw [List.getElem?_append, g_cw_len]
  by_cases hi : i < h.1.length
  · rw [if_pos hi, g_cw_at hi, g_cw_at (by omega), ho i hi]
    simp [va_up, Nat.ne_of_lt hi]
  · rw [if_neg hi]
    by_cases e1 : i = h.1.length
    · subst e1
      rw [g_cw_at (by omega), he]
      simp [va_up]
    · have e2 : (g_cw cs (va_up ad h.1.length q) h')[i]? = none := by rw [List.getElem?_eq_none_iff, g_cw_len]; omega
      rw [e2, List.getElem?_eq_none_iff]
      simp
      omega
/-- one number of the heap's rows is another one -/
def up2 (a : Nat → Nat → Int32) (k j : Nat) (v : Int32) : Nat → Nat → Int32 := fun x y => if x = k then (if y = j then v else a x y) else a x y
theorem up2_s (a : Nat → Nat → Int32) (k j : Nat) (v : Int32) : up2 a k j v k j = v := by simp [up2]
theorem up2_j (a : Nat → Nat → Int32) {k j x y : Nat} (v : Int32) (h : y ≠ j) : up2 a k j v x y = a x y := by simp [up2, h]
theorem up2_k (a : Nat → Nat → Int32) {k j x y : Nat} (v : Int32) (h : x ≠ k) : up2 a k j v x y = a x y := by simp [up2, h]
theorem up2_row (a : Nat → Nat → Int32) (k j : Nat) (v : Int32) : up2 a k j v k = upd (a k) j v := by
  funext y; simp [up2, upd]
theorem up2_rowne (a : Nat → Nat → Int32) {k x : Nat} (j : Nat) (v : Int32) (h : x ≠ k) : up2 a k j v x = a x := by
  funext y; simp [up2, h]
def upR (r : Nat → Nat → Option Nat) (k j : Nat) (v : Option Nat) : Nat → Nat → Option Nat := fun x y => if x = k then (if y = j then v else r x y) else r x y
def upL (g : Nat → Nat → Int64) (k j : Nat) (v : Int64) : Nat → Nat → Int64 := fun x y => if x = k then (if y = j then v else g x y) else g x y
end
section
section GI
variable {Y : g_Y} {Z : g_Z} {k n pc pc' tgt : Nat} {L : List (Option g_V)} {st : List g_V} {h : g_H} {x y : Int32} {lx ly : Int64}
theorem Gd_iconst {i : Int} {v : Int32} (hv : Int32.ofInt i = v) (hd : g_D Y pc (.iconst i) 1 pc') (kk : Gd Y Z k n pc' L (vi v :: st) h) : Gd Y Z k n pc L (st) h := by
  intro p l e R s m args below meth c D cs aK A ad0 QS H locs ad ls C RR Wd Ad hl
  obtain ⟨hd, rfl⟩ := hd
  exact lv_iconst C.1 C.2.1 hd hv (kk p l e R s m args below meth c D cs aK A ad0 QS H locs ad ls C RR Wd Ad hl)
theorem Gd_bipush {i : Int} {v : Int32} (hv : (Int8.ofInt i).toInt32 = v) (hd : g_D Y pc (.bipush i) 2 pc') (kk : Gd Y Z k n pc' L (vi v :: st) h) : Gd Y Z k n pc L (st) h := by
  intro p l e R s m args below meth c D cs aK A ad0 QS H locs ad ls C RR Wd Ad hl
  obtain ⟨hd, rfl⟩ := hd
  exact lv_bipush C.1 C.2.1 hd hv (kk p l e R s m args below meth c D cs aK A ad0 QS H locs ad ls C RR Wd Ad hl)
theorem Gd_sipush {i : Int} {v : Int32} (hv : (Int16.ofInt i).toInt32 = v) (hd : g_D Y pc (.sipush i) 3 pc') (kk : Gd Y Z k n pc' L (vi v :: st) h) : Gd Y Z k n pc L (st) h := by
  intro p l e R s m args below meth c D cs aK A ad0 QS H locs ad ls C RR Wd Ad hl
  obtain ⟨hd, rfl⟩ := hd
  exact lv_sipush C.1 C.2.1 hd hv (kk p l e R s m args below meth c D cs aK A ad0 QS H locs ad ls C RR Wd Ad hl)
theorem Gd_lconst {i : Fin 2} {v : Int64} (hv : Int64.ofNat (i : Nat) = v) (hd : g_D Y pc (.lconst i) 1 pc') (kk : Gd Y Z k n pc' L (vl v :: st) h) : Gd Y Z k n pc L (st) h := by
  intro p l e R s m args below meth c D cs aK A ad0 QS H locs ad ls C RR Wd Ad hl
  obtain ⟨hd, rfl⟩ := hd
  exact lv_lconst C.1 C.2.1 hd hv (kk p l e R s m args below meth c D cs aK A ad0 QS H locs ad ls C RR Wd Ad hl)
theorem Gd_ldc {i : Nat} {v : Int32} (hw : Cond.constant Y.1.cls i v ∈ g_T) (hd : g_D Y pc (.ldc i) 2 pc') (kk : Gd Y Z k n pc' L (vi v :: st) h) : Gd Y Z k n pc L (st) h := by
  intro p l e R s m args below meth c D cs aK A ad0 QS H locs ad ls C RR Wd Ad hl
  obtain ⟨hd, rfl⟩ := hd
  exact lv_ldc C.1 C.2.1 C.2.2.2.1 (C.2.2.2.2.1 _ hw) hd (kk p l e R s m args below meth c D cs aK A ad0 QS H locs ad ls C RR Wd Ad hl)
theorem Gd_ldcw {i : Nat} {v : Int32} (hw : Cond.constant Y.1.cls i v ∈ g_T) (hd : g_D Y pc (.ldc_w i) 3 pc') (kk : Gd Y Z k n pc' L (vi v :: st) h) : Gd Y Z k n pc L (st) h := by
  intro p l e R s m args below meth c D cs aK A ad0 QS H locs ad ls C RR Wd Ad hl
  obtain ⟨hd, rfl⟩ := hd
  exact lv_ldcw C.1 C.2.1 C.2.2.2.1 (C.2.2.2.2.1 _ hw) hd (kk p l e R s m args below meth c D cs aK A ad0 QS H locs ad ls C RR Wd Ad hl)
theorem Gd_ldc2 {i : Nat} {v : Int64} (hw : Cond.constantLong Y.1.cls i v ∈ g_T) (hd : g_D Y pc (.ldc2_w i) 3 pc') (kk : Gd Y Z k n pc' L (vl v :: st) h) : Gd Y Z k n pc L (st) h := by
  intro p l e R s m args below meth c D cs aK A ad0 QS H locs ad ls C RR Wd Ad hl
  obtain ⟨hd, rfl⟩ := hd
  exact lv_ldc2 C.1 C.2.1 C.2.2.2.1 (C.2.2.2.2.1 _ hw) hd (kk p l e R s m args below meth c D cs aK A ad0 QS H locs ad ls C RR Wd Ad hl)
theorem Gd_ldcS {i q : Nat} {tx : String} (hq : (q, Y.1.cls, i, tx) ∈ g_strs) (hd : g_D Y pc (.ldc i) 2 pc') (kk : Gd Y Z k n pc' L (vc q :: st) h) : Gd Y Z k n pc L st h := by
  intro p l e R s m args below meth c D cs aK A ad0 QS H locs ad ls C RR Wd Ad hl
  obtain ⟨hd, rfl⟩ := hd
  obtain ⟨a, e1, e2⟩ := C.2.2.2.2.2.2.2.2.1.2.2.1 _ hq
  refine va_ldcS C.1 C.2.1 C.2.2.2.1 e2 hd ?_
  have k1 := kk p l e R s m args below meth c D cs aK A ad0 QS H locs ad ls C RR Wd Ad hl
  have e3 : (vc q :: st).map (gc aK ad) = .ref a :: st.map (gc aK ad) := by show gc aK ad (vc q) :: _ = _; rw [show gc aK ad (vc q) = aK q from rfl, e1]
  rw [e3] at k1
  exact k1
theorem Gd_iload_n {i : Fin 4} (hv : L[(i : Nat)]? = some (some (vi x))) (hd : g_D Y pc (.iload_n i) 1 pc') (kk : Gd Y Z k n pc' L (vi x :: st) h) : Gd Y Z k n pc L (st) h := by
  intro p l e R s m args below meth c D cs aK A ad0 QS H locs ad ls C RR Wd Ad hl
  obtain ⟨hd, rfl⟩ := hd
  exact lv_iload_n C.1 C.2.1 hd rfl (g_L_at hl hv) (kk p l e R s m args below meth c D cs aK A ad0 QS H locs ad ls C RR Wd Ad hl)
theorem Gd_iload {i : Nat} (hv : L[i]? = some (some (vi x))) (hd : g_D Y pc (.iload i) 2 pc') (kk : Gd Y Z k n pc' L (vi x :: st) h) : Gd Y Z k n pc L (st) h := by
  intro p l e R s m args below meth c D cs aK A ad0 QS H locs ad ls C RR Wd Ad hl
  obtain ⟨hd, rfl⟩ := hd
  exact lv_iload C.1 C.2.1 hd (g_L_at hl hv) (kk p l e R s m args below meth c D cs aK A ad0 QS H locs ad ls C RR Wd Ad hl)
theorem Gd_lload_n {i : Fin 4} (hv : L[(i : Nat)]? = some (some (vl lx))) (hd : g_D Y pc (.lload_n i) 1 pc') (kk : Gd Y Z k n pc' L (vl lx :: st) h) : Gd Y Z k n pc L (st) h := by
  intro p l e R s m args below meth c D cs aK A ad0 QS H locs ad ls C RR Wd Ad hl
  obtain ⟨hd, rfl⟩ := hd
  exact lv_lload_n C.1 C.2.1 hd rfl (g_L_at hl hv) (kk p l e R s m args below meth c D cs aK A ad0 QS H locs ad ls C RR Wd Ad hl)
theorem Gd_lload {i : Nat} (hv : L[i]? = some (some (vl lx))) (hd : g_D Y pc (.lload i) 2 pc') (kk : Gd Y Z k n pc' L (vl lx :: st) h) : Gd Y Z k n pc L (st) h := by
  intro p l e R s m args below meth c D cs aK A ad0 QS H locs ad ls C RR Wd Ad hl
  obtain ⟨hd, rfl⟩ := hd
  exact lv_lload C.1 C.2.1 hd (g_L_at hl hv) (kk p l e R s m args below meth c D cs aK A ad0 QS H locs ad ls C RR Wd Ad hl)
theorem Gd_aload_n {i : Fin 4} {u : Option Nat ⊕ Nat} (hv : L[(i : Nat)]? = some (some (.inr (.inr u)))) (hd : g_D Y pc (.aload_n i) 1 pc') (kk : Gd Y Z k n pc' L (.inr (.inr u) :: st) h) : Gd Y Z k n pc L st h := by
  intro p l e R s m args below meth c D cs aK A ad0 QS H locs ad ls C RR Wd Ad hl
  obtain ⟨hd, rfl⟩ := hd
  have k1 := kk p l e R s m args below meth c D cs aK A ad0 QS H locs ad ls C RR Wd Ad hl
  have h1 := g_L_at hl hv
  obtain ⟨r, hr⟩ : ∃ r : Option Nat, gc aK ad (.inr (.inr u)) = va_rf r := by
    rcases u with r | q
    · exact ⟨r.map ad, rfl⟩
    · exact C.2.2.2.2.2.2.2.2.1.2.1 q
  have e3 : (Sum.inr (Sum.inr u) :: st : List g_V).map (gc aK ad) = va_rf r :: st.map (gc aK ad) := by rw [List.map_cons, hr]
  rw [hr] at h1
  rw [e3] at k1
  cases r with
  | none => exact lv_aload_nN C.1 C.2.1 hd rfl h1 k1
  | some a => exact lv_aload_n C.1 C.2.1 hd rfl h1 k1
theorem Gd_aload {i : Nat} {u : Option Nat ⊕ Nat} (hv : L[i]? = some (some (.inr (.inr u)))) (hd : g_D Y pc (.aload i) 2 pc') (kk : Gd Y Z k n pc' L (.inr (.inr u) :: st) h) : Gd Y Z k n pc L st h := by
  intro p l e R s m args below meth c D cs aK A ad0 QS H locs ad ls C RR Wd Ad hl
  obtain ⟨hd, rfl⟩ := hd
  have k1 := kk p l e R s m args below meth c D cs aK A ad0 QS H locs ad ls C RR Wd Ad hl
  have h1 := g_L_at hl hv
  obtain ⟨r, hr⟩ : ∃ r : Option Nat, gc aK ad (.inr (.inr u)) = va_rf r := by
    rcases u with r | q
    · exact ⟨r.map ad, rfl⟩
    · exact C.2.2.2.2.2.2.2.2.1.2.1 q
  have e3 : (Sum.inr (Sum.inr u) :: st : List g_V).map (gc aK ad) = va_rf r :: st.map (gc aK ad) := by rw [List.map_cons, hr]
  rw [hr] at h1
  rw [e3] at k1
  cases r with
  | none => exact lv_aloadN C.1 C.2.1 hd h1 k1
  | some a => exact lv_aload C.1 C.2.1 hd h1 k1
theorem Gd_istore_nG {i : Fin 4} {a : Nat} (hi : (i : Nat) < L.length) (hd : g_D Y pc (.istore_n i) 1 pc') (kk : Gd Y Z k n pc' (g_st1 L (i : Nat) (vi x)) st h) : Gd Y Z k n pc L (vi x :: st) h := by
  intro p l e R s m args below meth c D cs aK A ad0 QS H locs ad ls C RR Wd Ad hl
  obtain ⟨hd, rfl⟩ := hd
  have hi := Nat.lt_of_lt_of_le hi hl.2
  exact lv_istore_n C.1 C.2.1 hd rfl hl.1 hi rfl (fun ls' h' => kk p l e R s m args below meth c D cs aK A ad0 QS H locs ad ls' C RR Wd Ad (g_L_st1 (v := vi x) C.2.2.2.2.2.2.2.2.1.2.1 hl h'))
theorem Gd_istoreG {i : Nat} {a : Nat} (hi : i < L.length) (hd : g_D Y pc (.istore i) 2 pc') (kk : Gd Y Z k n pc' (g_st1 L i (vi x)) st h) : Gd Y Z k n pc L (vi x :: st) h := by
  intro p l e R s m args below meth c D cs aK A ad0 QS H locs ad ls C RR Wd Ad hl
  obtain ⟨hd, rfl⟩ := hd
  have hi := Nat.lt_of_lt_of_le hi hl.2
  exact lv_istore C.1 C.2.1 hd hl.1 hi rfl (fun ls' h' => kk p l e R s m args below meth c D cs aK A ad0 QS H locs ad ls' C RR Wd Ad (g_L_st1 (v := vi x) C.2.2.2.2.2.2.2.2.1.2.1 hl h'))
theorem Gd_lstore_nG {i : Fin 4} {a : Nat} (hi : (i : Nat) + 1 < L.length) (hd : g_D Y pc (.lstore_n i) 1 pc') (kk : Gd Y Z k n pc' (g_st2 L (i : Nat) (vl lx)) st h) : Gd Y Z k n pc L (vl lx :: st) h := by
  intro p l e R s m args below meth c D cs aK A ad0 QS H locs ad ls C RR Wd Ad hl
  obtain ⟨hd, rfl⟩ := hd
  have hi := Nat.lt_of_lt_of_le hi hl.2
  exact lv_lstore_n C.1 C.2.1 hd rfl hl.1 hi rfl (fun ls' h' => kk p l e R s m args below meth c D cs aK A ad0 QS H locs ad ls' C RR Wd Ad (g_L_st2 (v := vl lx) C.2.2.2.2.2.2.2.2.1.2.1 hl h'))
theorem Gd_lstoreG {i : Nat} {a : Nat} (hi : i + 1 < L.length) (hd : g_D Y pc (.lstore i) 2 pc') (kk : Gd Y Z k n pc' (g_st2 L i (vl lx)) st h) : Gd Y Z k n pc L (vl lx :: st) h := by
  intro p l e R s m args below meth c D cs aK A ad0 QS H locs ad ls C RR Wd Ad hl
  obtain ⟨hd, rfl⟩ := hd
  have hi := Nat.lt_of_lt_of_le hi hl.2
  exact lv_lstore C.1 C.2.1 hd hl.1 hi rfl (fun ls' h' => kk p l e R s m args below meth c D cs aK A ad0 QS H locs ad ls' C RR Wd Ad (g_L_st2 (v := vl lx) C.2.2.2.2.2.2.2.2.1.2.1 hl h'))
theorem Gd_astore_nG {i : Fin 4} {a : Nat} (hi : (i : Nat) < L.length) (hd : g_D Y pc (.astore_n i) 1 pc') (kk : Gd Y Z k n pc' (g_st1 L (i : Nat) (vr a)) st h) : Gd Y Z k n pc L (vr a :: st) h := by
  intro p l e R s m args below meth c D cs aK A ad0 QS H locs ad ls C RR Wd Ad hl
  obtain ⟨hd, rfl⟩ := hd
  have hi := Nat.lt_of_lt_of_le hi hl.2
  exact lv_astore_n C.1 C.2.1 hd rfl hl.1 hi rfl (fun ls' h' => kk p l e R s m args below meth c D cs aK A ad0 QS H locs ad ls' C RR Wd Ad (g_L_st1 (v := vr a) C.2.2.2.2.2.2.2.2.1.2.1 hl h'))
theorem Gd_astoreG {i : Nat} {a : Nat} (hi : i < L.length) (hd : g_D Y pc (.astore i) 2 pc') (kk : Gd Y Z k n pc' (g_st1 L i (vr a)) st h) : Gd Y Z k n pc L (vr a :: st) h := by
  intro p l e R s m args below meth c D cs aK A ad0 QS H locs ad ls C RR Wd Ad hl
  obtain ⟨hd, rfl⟩ := hd
  have hi := Nat.lt_of_lt_of_le hi hl.2
  exact lv_astore C.1 C.2.1 hd hl.1 hi rfl (fun ls' h' => kk p l e R s m args below meth c D cs aK A ad0 QS H locs ad ls' C RR Wd Ad (g_L_st1 (v := vr a) C.2.2.2.2.2.2.2.2.1.2.1 hl h'))
theorem Gd_iincG {i : Nat} {z : Int} {v : Int32} (hv : L[i]? = some (some (vi x))) (he : x + Int32.ofInt z = v) (hd : g_D Y pc (.iinc i z) 3 pc') (kk : Gd Y Z k n pc' (g_st1 L i (vi v)) st h) : Gd Y Z k n pc L st h := by
  intro p l e R s m args below meth c D cs aK A ad0 QS H locs ad ls C RR Wd Ad hl
  obtain ⟨hd, rfl⟩ := hd
  have hi : i < Y.2.2.1 := Nat.lt_of_lt_of_le (List.getElem?_eq_some_iff.mp hv).1 hl.2
  obtain ⟨q, hq⟩ := List.getElem?_of_mem ((g_ll_mem L 0 (i, Value.int x)).mpr ⟨i, vi x, hv, by simp [gc]⟩)
  exact lv_iinc C.1 C.2.1 hd hl.1 hq he hi rfl (fun ls' h' => kk p l e R s m args below meth c D cs aK A ad0 QS H locs ad ls' C RR Wd Ad (g_L_st1 (v := vi v) C.2.2.2.2.2.2.2.2.1.2.1 hl h'))
theorem Gd_iadd (hd : g_D Y pc .iadd 1 pc') (kk : Gd Y Z k n pc' L (vi (x + y) :: st) h) : Gd Y Z k n pc L (vi y :: vi x :: st) h := by
  intro p l e R s m args below meth c D cs aK A ad0 QS H locs ad ls C RR Wd Ad hl
  obtain ⟨hd, rfl⟩ := hd
  exact lv_iadd C.1 C.2.1 hd (kk p l e R s m args below meth c D cs aK A ad0 QS H locs ad ls C RR Wd Ad hl)
theorem Gd_isub (hd : g_D Y pc .isub 1 pc') (kk : Gd Y Z k n pc' L (vi (x - y) :: st) h) : Gd Y Z k n pc L (vi y :: vi x :: st) h := by
  intro p l e R s m args below meth c D cs aK A ad0 QS H locs ad ls C RR Wd Ad hl
  obtain ⟨hd, rfl⟩ := hd
  exact lv_isub C.1 C.2.1 hd (kk p l e R s m args below meth c D cs aK A ad0 QS H locs ad ls C RR Wd Ad hl)
theorem Gd_imul (hd : g_D Y pc .imul 1 pc') (kk : Gd Y Z k n pc' L (vi (x * y) :: st) h) : Gd Y Z k n pc L (vi y :: vi x :: st) h := by
  intro p l e R s m args below meth c D cs aK A ad0 QS H locs ad ls C RR Wd Ad hl
  obtain ⟨hd, rfl⟩ := hd
  exact lv_imul C.1 C.2.1 hd (kk p l e R s m args below meth c D cs aK A ad0 QS H locs ad ls C RR Wd Ad hl)
theorem Gd_iand (hd : g_D Y pc .iand 1 pc') (kk : Gd Y Z k n pc' L (vi (x &&& y) :: st) h) : Gd Y Z k n pc L (vi y :: vi x :: st) h := by
  intro p l e R s m args below meth c D cs aK A ad0 QS H locs ad ls C RR Wd Ad hl
  obtain ⟨hd, rfl⟩ := hd
  exact lv_iand C.1 C.2.1 hd (kk p l e R s m args below meth c D cs aK A ad0 QS H locs ad ls C RR Wd Ad hl)
theorem Gd_ior (hd : g_D Y pc .ior 1 pc') (kk : Gd Y Z k n pc' L (vi (x ||| y) :: st) h) : Gd Y Z k n pc L (vi y :: vi x :: st) h := by
  intro p l e R s m args below meth c D cs aK A ad0 QS H locs ad ls C RR Wd Ad hl
  obtain ⟨hd, rfl⟩ := hd
  exact lv_ior C.1 C.2.1 hd (kk p l e R s m args below meth c D cs aK A ad0 QS H locs ad ls C RR Wd Ad hl)
theorem Gd_ixor (hd : g_D Y pc .ixor 1 pc') (kk : Gd Y Z k n pc' L (vi (x ^^^ y) :: st) h) : Gd Y Z k n pc L (vi y :: vi x :: st) h := by
  intro p l e R s m args below meth c D cs aK A ad0 QS H locs ad ls C RR Wd Ad hl
  obtain ⟨hd, rfl⟩ := hd
  exact lv_ixor C.1 C.2.1 hd (kk p l e R s m args below meth c D cs aK A ad0 QS H locs ad ls C RR Wd Ad hl)
theorem Gd_ishl (hd : g_D Y pc .ishl 1 pc') (kk : Gd Y Z k n pc' L (vi (x <<< (y &&& 31)) :: st) h) : Gd Y Z k n pc L (vi y :: vi x :: st) h := by
  intro p l e R s m args below meth c D cs aK A ad0 QS H locs ad ls C RR Wd Ad hl
  obtain ⟨hd, rfl⟩ := hd
  exact lv_ishl C.1 C.2.1 hd (kk p l e R s m args below meth c D cs aK A ad0 QS H locs ad ls C RR Wd Ad hl)
theorem Gd_ishr (hd : g_D Y pc .ishr 1 pc') (kk : Gd Y Z k n pc' L (vi (x >>> (y &&& 31)) :: st) h) : Gd Y Z k n pc L (vi y :: vi x :: st) h := by
  intro p l e R s m args below meth c D cs aK A ad0 QS H locs ad ls C RR Wd Ad hl
  obtain ⟨hd, rfl⟩ := hd
  exact lv_ishr C.1 C.2.1 hd (kk p l e R s m args below meth c D cs aK A ad0 QS H locs ad ls C RR Wd Ad hl)
theorem Gd_iushr (hd : g_D Y pc .iushr 1 pc') (kk : Gd Y Z k n pc' L (vi ((x.toUInt32 >>> (y.toUInt32 &&& Int32.toUInt32 31)).toInt32) :: st) h) : Gd Y Z k n pc L (vi y :: vi x :: st) h := by
  intro p l e R s m args below meth c D cs aK A ad0 QS H locs ad ls C RR Wd Ad hl
  obtain ⟨hd, rfl⟩ := hd
  exact lv_iushr C.1 C.2.1 hd rfl (kk p l e R s m args below meth c D cs aK A ad0 QS H locs ad ls C RR Wd Ad hl)
theorem Gd_idiv (hne : ¬ y = 0) (hd : g_D Y pc .idiv 1 pc') (kk : Gd Y Z k n pc' L (vi (x / y) :: st) h) : Gd Y Z k n pc L (vi y :: vi x :: st) h := by
  intro p l e R s m args below meth c D cs aK A ad0 QS H locs ad ls C RR Wd Ad hl
  obtain ⟨hd, rfl⟩ := hd
  exact lv_idiv C.1 C.2.1 hd hne (kk p l e R s m args below meth c D cs aK A ad0 QS H locs ad ls C RR Wd Ad hl)
theorem Gd_irem (hne : ¬ y = 0) (hd : g_D Y pc .irem 1 pc') (kk : Gd Y Z k n pc' L (vi (x - x / y * y) :: st) h) : Gd Y Z k n pc L (vi y :: vi x :: st) h := by
  intro p l e R s m args below meth c D cs aK A ad0 QS H locs ad ls C RR Wd Ad hl
  obtain ⟨hd, rfl⟩ := hd
  exact lv_irem C.1 C.2.1 hd hne (kk p l e R s m args below meth c D cs aK A ad0 QS H locs ad ls C RR Wd Ad hl)
theorem Gd_ineg (hd : g_D Y pc .ineg 1 pc') (kk : Gd Y Z k n pc' L (vi (-x) :: st) h) : Gd Y Z k n pc L (vi x :: st) h := by
  intro p l e R s m args below meth c D cs aK A ad0 QS H locs ad ls C RR Wd Ad hl
  obtain ⟨hd, rfl⟩ := hd
  exact lv_ineg C.1 C.2.1 hd (kk p l e R s m args below meth c D cs aK A ad0 QS H locs ad ls C RR Wd Ad hl)
theorem Gd_ladd (hd : g_D Y pc .ladd 1 pc') (kk : Gd Y Z k n pc' L (vl (lx + ly) :: st) h) : Gd Y Z k n pc L (vl ly :: vl lx :: st) h := by
  intro p l e R s m args below meth c D cs aK A ad0 QS H locs ad ls C RR Wd Ad hl
  obtain ⟨hd, rfl⟩ := hd
  exact lv_ladd C.1 C.2.1 hd (kk p l e R s m args below meth c D cs aK A ad0 QS H locs ad ls C RR Wd Ad hl)
theorem Gd_lmul (hd : g_D Y pc .lmul 1 pc') (kk : Gd Y Z k n pc' L (vl (lx * ly) :: st) h) : Gd Y Z k n pc L (vl ly :: vl lx :: st) h := by
  intro p l e R s m args below meth c D cs aK A ad0 QS H locs ad ls C RR Wd Ad hl
  obtain ⟨hd, rfl⟩ := hd
  exact lv_lmul C.1 C.2.1 hd (kk p l e R s m args below meth c D cs aK A ad0 QS H locs ad ls C RR Wd Ad hl)
theorem Gd_ldiv (hne : ¬ ly = 0) (hd : g_D Y pc .ldiv 1 pc') (kk : Gd Y Z k n pc' L (vl (lx / ly) :: st) h) : Gd Y Z k n pc L (vl ly :: vl lx :: st) h := by
  intro p l e R s m args below meth c D cs aK A ad0 QS H locs ad ls C RR Wd Ad hl
  obtain ⟨hd, rfl⟩ := hd
  exact lv_ldiv C.1 C.2.1 hd hne (kk p l e R s m args below meth c D cs aK A ad0 QS H locs ad ls C RR Wd Ad hl)
theorem Gd_lrem (hne : ¬ ly = 0) (hd : g_D Y pc .lrem 1 pc') (kk : Gd Y Z k n pc' L (vl (lx - lx / ly * ly) :: st) h) : Gd Y Z k n pc L (vl ly :: vl lx :: st) h := by
  intro p l e R s m args below meth c D cs aK A ad0 QS H locs ad ls C RR Wd Ad hl
  obtain ⟨hd, rfl⟩ := hd
  exact lv_lrem C.1 C.2.1 hd hne (kk p l e R s m args below meth c D cs aK A ad0 QS H locs ad ls C RR Wd Ad hl)
theorem Gd_lcmp (hd : g_D Y pc .lcmp 1 pc') (kk : Gd Y Z k n pc' L (vi (lg_cmp lx ly) :: st) h) : Gd Y Z k n pc L (vl ly :: vl lx :: st) h := by
  intro p l e R s m args below meth c D cs aK A ad0 QS H locs ad ls C RR Wd Ad hl
  obtain ⟨hd, rfl⟩ := hd
  exact W.lcmp C.1 C.2.1 hd (kk p l e R s m args below meth c D cs aK A ad0 QS H locs ad ls C RR Wd Ad hl)
theorem Gd_i2l (hd : g_D Y pc .i2l 1 pc') (kk : Gd Y Z k n pc' L (vl x.toInt64 :: st) h) : Gd Y Z k n pc L (vi x :: st) h := by
  intro p l e R s m args below meth c D cs aK A ad0 QS H locs ad ls C RR Wd Ad hl
  obtain ⟨hd, rfl⟩ := hd
  exact lv_i2l C.1 C.2.1 hd rfl (kk p l e R s m args below meth c D cs aK A ad0 QS H locs ad ls C RR Wd Ad hl)
theorem Gd_l2i (hd : g_D Y pc .l2i 1 pc') (kk : Gd Y Z k n pc' L (vi lx.toInt32 :: st) h) : Gd Y Z k n pc L (vl lx :: st) h := by
  intro p l e R s m args below meth c D cs aK A ad0 QS H locs ad ls C RR Wd Ad hl
  obtain ⟨hd, rfl⟩ := hd
  exact lv_l2i C.1 C.2.1 hd rfl (kk p l e R s m args below meth c D cs aK A ad0 QS H locs ad ls C RR Wd Ad hl)
theorem Gd_i2b (hd : g_D Y pc .i2b 1 pc') (kk : Gd Y Z k n pc' L (vi x.toInt8.toInt32 :: st) h) : Gd Y Z k n pc L (vi x :: st) h := by
  intro p l e R s m args below meth c D cs aK A ad0 QS H locs ad ls C RR Wd Ad hl
  obtain ⟨hd, rfl⟩ := hd
  exact lv_i2b C.1 C.2.1 hd rfl (kk p l e R s m args below meth c D cs aK A ad0 QS H locs ad ls C RR Wd Ad hl)
theorem Gd_i2s (hd : g_D Y pc .i2s 1 pc') (kk : Gd Y Z k n pc' L (vi x.toInt16.toInt32 :: st) h) : Gd Y Z k n pc L (vi x :: st) h := by
  intro p l e R s m args below meth c D cs aK A ad0 QS H locs ad ls C RR Wd Ad hl
  obtain ⟨hd, rfl⟩ := hd
  exact lv_i2s C.1 C.2.1 hd rfl (kk p l e R s m args below meth c D cs aK A ad0 QS H locs ad ls C RR Wd Ad hl)
theorem Gd_i2c (hd : g_D Y pc .i2c 1 pc') (kk : Gd Y Z k n pc' L (vi ((x.toUInt32 % 65536).toInt32) :: st) h) : Gd Y Z k n pc L (vi x :: st) h := by
  intro p l e R s m args below meth c D cs aK A ad0 QS H locs ad ls C RR Wd Ad hl
  obtain ⟨hd, rfl⟩ := hd
  exact lv_i2c C.1 C.2.1 hd rfl (kk p l e R s m args below meth c D cs aK A ad0 QS H locs ad ls C RR Wd Ad hl)
theorem Gd_dup {v : g_V} (hv : g_isl (some v) = false) (hd : g_D Y pc .dup 1 pc') (kk : Gd Y Z k n pc' L (v :: v :: st) h) : Gd Y Z k n pc L (v :: st) h := by
  intro p l e R s m args below meth c D cs aK A ad0 QS H locs ad ls C RR Wd Ad hl
  obtain ⟨hd, rfl⟩ := hd
  exact lv_dup C.1 C.2.1 hd (by rw [gc_cat C.2.2.2.2.2.2.2.2.1.2.1, hv]; rfl) (kk p l e R s m args below meth c D cs aK A ad0 QS H locs ad ls C RR Wd Ad hl)
theorem Gd_pop {v : g_V} (hv : g_isl (some v) = false) (hd : g_D Y pc .pop 1 pc') (kk : Gd Y Z k n pc' L (st) h) : Gd Y Z k n pc L (v :: st) h := by
  intro p l e R s m args below meth c D cs aK A ad0 QS H locs ad ls C RR Wd Ad hl
  obtain ⟨hd, rfl⟩ := hd
  exact lv_pop C.1 C.2.1 hd (by rw [gc_cat C.2.2.2.2.2.2.2.2.1.2.1, hv]; rfl) (kk p l e R s m args below meth c D cs aK A ad0 QS H locs ad ls C RR Wd Ad hl)
theorem Gd_dup2 {v w : g_V} (hv : g_isl (some v) = false) (hw : g_isl (some w) = false) (hd : g_D Y pc .dup2 1 pc') (kk : Gd Y Z k n pc' L (v :: w :: v :: w :: st) h) : Gd Y Z k n pc L (v :: w :: st) h := by
  intro p l e R s m args below meth c D cs aK A ad0 QS H locs ad ls C RR Wd Ad hl
  obtain ⟨hd, rfl⟩ := hd
  exact lv_dup2_11 C.1 C.2.1 hd (by rw [gc_cat C.2.2.2.2.2.2.2.2.1.2.1, hv]; rfl) (by rw [gc_cat C.2.2.2.2.2.2.2.2.1.2.1, hw]; rfl) (kk p l e R s m args below meth c D cs aK A ad0 QS H locs ad ls C RR Wd Ad hl)
theorem Gd_if_eq (hd : g_J Y pc (.ifCond .eq) tgt pc') (kt : x = 0 → Gd Y Z k n tgt L st h) (kf : ¬ x = 0 → Gd Y Z k n pc' L st h) : Gd Y Z k n pc L (vi x :: st) h := by
  intro p l e R s m args below meth c D cs aK A ad0 QS H locs ad ls C RR Wd Ad hl
  obtain ⟨off, hd, ht, rfl⟩ := hd
  exact lv_if_eq C.1 C.2.1 hd ht (fun q => kt q p l e R s m args below meth c D cs aK A ad0 QS H locs ad ls C RR Wd Ad hl) (fun q => kf q p l e R s m args below meth c D cs aK A ad0 QS H locs ad ls C RR Wd Ad hl)
theorem Gd_icmp_eq (hd : g_J Y pc (.if_icmp .eq) tgt pc') (kt : x = y → Gd Y Z k n tgt L st h) (kf : ¬ x = y → Gd Y Z k n pc' L st h) : Gd Y Z k n pc L (vi y :: vi x :: st) h := by
  intro p l e R s m args below meth c D cs aK A ad0 QS H locs ad ls C RR Wd Ad hl
  obtain ⟨off, hd, ht, rfl⟩ := hd
  exact lv_icmp_eq C.1 C.2.1 hd ht (fun q => kt q p l e R s m args below meth c D cs aK A ad0 QS H locs ad ls C RR Wd Ad hl) (fun q => kf q p l e R s m args below meth c D cs aK A ad0 QS H locs ad ls C RR Wd Ad hl)
theorem Gd_if_ne (hd : g_J Y pc (.ifCond .ne) tgt pc') (kt : ¬ x = 0 → Gd Y Z k n tgt L st h) (kf : x = 0 → Gd Y Z k n pc' L st h) : Gd Y Z k n pc L (vi x :: st) h := by
  intro p l e R s m args below meth c D cs aK A ad0 QS H locs ad ls C RR Wd Ad hl
  obtain ⟨off, hd, ht, rfl⟩ := hd
  exact lv_if_ne C.1 C.2.1 hd ht (fun q => kt q p l e R s m args below meth c D cs aK A ad0 QS H locs ad ls C RR Wd Ad hl) (fun q => kf q p l e R s m args below meth c D cs aK A ad0 QS H locs ad ls C RR Wd Ad hl)
theorem Gd_icmp_ne (hd : g_J Y pc (.if_icmp .ne) tgt pc') (kt : ¬ x = y → Gd Y Z k n tgt L st h) (kf : x = y → Gd Y Z k n pc' L st h) : Gd Y Z k n pc L (vi y :: vi x :: st) h := by
  intro p l e R s m args below meth c D cs aK A ad0 QS H locs ad ls C RR Wd Ad hl
  obtain ⟨off, hd, ht, rfl⟩ := hd
  exact lv_icmp_ne C.1 C.2.1 hd ht (fun q => kt q p l e R s m args below meth c D cs aK A ad0 QS H locs ad ls C RR Wd Ad hl) (fun q => kf q p l e R s m args below meth c D cs aK A ad0 QS H locs ad ls C RR Wd Ad hl)
theorem Gd_if_lt (hd : g_J Y pc (.ifCond .lt) tgt pc') (kt : x < 0 → Gd Y Z k n tgt L st h) (kf : ¬ x < 0 → Gd Y Z k n pc' L st h) : Gd Y Z k n pc L (vi x :: st) h := by
  intro p l e R s m args below meth c D cs aK A ad0 QS H locs ad ls C RR Wd Ad hl
  obtain ⟨off, hd, ht, rfl⟩ := hd
  exact lv_if_lt C.1 C.2.1 hd ht (fun q => kt q p l e R s m args below meth c D cs aK A ad0 QS H locs ad ls C RR Wd Ad hl) (fun q => kf q p l e R s m args below meth c D cs aK A ad0 QS H locs ad ls C RR Wd Ad hl)
theorem Gd_icmp_lt (hd : g_J Y pc (.if_icmp .lt) tgt pc') (kt : x < y → Gd Y Z k n tgt L st h) (kf : ¬ x < y → Gd Y Z k n pc' L st h) : Gd Y Z k n pc L (vi y :: vi x :: st) h := by
  intro p l e R s m args below meth c D cs aK A ad0 QS H locs ad ls C RR Wd Ad hl
  obtain ⟨off, hd, ht, rfl⟩ := hd
  exact lv_icmp_lt C.1 C.2.1 hd ht (fun q => kt q p l e R s m args below meth c D cs aK A ad0 QS H locs ad ls C RR Wd Ad hl) (fun q => kf q p l e R s m args below meth c D cs aK A ad0 QS H locs ad ls C RR Wd Ad hl)
theorem Gd_if_ge (hd : g_J Y pc (.ifCond .ge) tgt pc') (kt : 0 ≤ x → Gd Y Z k n tgt L st h) (kf : ¬ 0 ≤ x → Gd Y Z k n pc' L st h) : Gd Y Z k n pc L (vi x :: st) h := by
  intro p l e R s m args below meth c D cs aK A ad0 QS H locs ad ls C RR Wd Ad hl
  obtain ⟨off, hd, ht, rfl⟩ := hd
  exact lv_if_ge C.1 C.2.1 hd ht (fun q => kt q p l e R s m args below meth c D cs aK A ad0 QS H locs ad ls C RR Wd Ad hl) (fun q => kf q p l e R s m args below meth c D cs aK A ad0 QS H locs ad ls C RR Wd Ad hl)
theorem Gd_icmp_ge (hd : g_J Y pc (.if_icmp .ge) tgt pc') (kt : y ≤ x → Gd Y Z k n tgt L st h) (kf : ¬ y ≤ x → Gd Y Z k n pc' L st h) : Gd Y Z k n pc L (vi y :: vi x :: st) h := by
  intro p l e R s m args below meth c D cs aK A ad0 QS H locs ad ls C RR Wd Ad hl
  obtain ⟨off, hd, ht, rfl⟩ := hd
  exact lv_icmp_ge C.1 C.2.1 hd ht (fun q => kt q p l e R s m args below meth c D cs aK A ad0 QS H locs ad ls C RR Wd Ad hl) (fun q => kf q p l e R s m args below meth c D cs aK A ad0 QS H locs ad ls C RR Wd Ad hl)
theorem Gd_if_gt (hd : g_J Y pc (.ifCond .gt) tgt pc') (kt : 0 < x → Gd Y Z k n tgt L st h) (kf : ¬ 0 < x → Gd Y Z k n pc' L st h) : Gd Y Z k n pc L (vi x :: st) h := by
  intro p l e R s m args below meth c D cs aK A ad0 QS H locs ad ls C RR Wd Ad hl
  obtain ⟨off, hd, ht, rfl⟩ := hd
  exact lv_if_gt C.1 C.2.1 hd ht (fun q => kt q p l e R s m args below meth c D cs aK A ad0 QS H locs ad ls C RR Wd Ad hl) (fun q => kf q p l e R s m args below meth c D cs aK A ad0 QS H locs ad ls C RR Wd Ad hl)
theorem Gd_icmp_gt (hd : g_J Y pc (.if_icmp .gt) tgt pc') (kt : y < x → Gd Y Z k n tgt L st h) (kf : ¬ y < x → Gd Y Z k n pc' L st h) : Gd Y Z k n pc L (vi y :: vi x :: st) h := by
  intro p l e R s m args below meth c D cs aK A ad0 QS H locs ad ls C RR Wd Ad hl
  obtain ⟨off, hd, ht, rfl⟩ := hd
  exact lv_icmp_gt C.1 C.2.1 hd ht (fun q => kt q p l e R s m args below meth c D cs aK A ad0 QS H locs ad ls C RR Wd Ad hl) (fun q => kf q p l e R s m args below meth c D cs aK A ad0 QS H locs ad ls C RR Wd Ad hl)
theorem Gd_if_le (hd : g_J Y pc (.ifCond .le) tgt pc') (kt : x ≤ 0 → Gd Y Z k n tgt L st h) (kf : ¬ x ≤ 0 → Gd Y Z k n pc' L st h) : Gd Y Z k n pc L (vi x :: st) h := by
  intro p l e R s m args below meth c D cs aK A ad0 QS H locs ad ls C RR Wd Ad hl
  obtain ⟨off, hd, ht, rfl⟩ := hd
  exact lv_if_le C.1 C.2.1 hd ht (fun q => kt q p l e R s m args below meth c D cs aK A ad0 QS H locs ad ls C RR Wd Ad hl) (fun q => kf q p l e R s m args below meth c D cs aK A ad0 QS H locs ad ls C RR Wd Ad hl)
theorem Gd_icmp_le (hd : g_J Y pc (.if_icmp .le) tgt pc') (kt : x ≤ y → Gd Y Z k n tgt L st h) (kf : ¬ x ≤ y → Gd Y Z k n pc' L st h) : Gd Y Z k n pc L (vi y :: vi x :: st) h := by
  intro p l e R s m args below meth c D cs aK A ad0 QS H locs ad ls C RR Wd Ad hl
  obtain ⟨off, hd, ht, rfl⟩ := hd
  exact lv_icmp_le C.1 C.2.1 hd ht (fun q => kt q p l e R s m args below meth c D cs aK A ad0 QS H locs ad ls C RR Wd Ad hl) (fun q => kf q p l e R s m args below meth c D cs aK A ad0 QS H locs ad ls C RR Wd Ad hl)
theorem Gd_goto (hd : g_J Y pc .goto tgt pc') (kk : Gd Y Z k n tgt L st h) : Gd Y Z k n pc L st h := by
  intro p l e R s m args below meth c D cs aK A ad0 QS H locs ad ls C RR Wd Ad hl
  obtain ⟨off, hd, ht, rfl⟩ := hd
  exact lv_goto C.1 C.2.1 hd ht (kk p l e R s m args below meth c D cs aK A ad0 QS H locs ad ls C RR Wd Ad hl)
theorem Gd_ifnonnull {a : Nat} (hd : g_J Y pc .ifnonnull tgt pc') (kk : Gd Y Z k n tgt L st h) : Gd Y Z k n pc L (vr a :: st) h := by
  intro p l e R s m args below meth c D cs aK A ad0 QS H locs ad ls C RR Wd Ad hl
  obtain ⟨off, hd, ht, rfl⟩ := hd
  exact lv_ifnonnull C.1 C.2.1 hd ht (kk p l e R s m args below meth c D cs aK A ad0 QS H locs ad ls C RR Wd Ad hl)
theorem Gd_lookup {dflt off : Int} {ps : Array (Int × Int)} {len : Nat} (hd : decode Y.2.1 pc = .ok (.lookupswitch dflt ps, len)) (hp : (ps.toList.zip (ps.toList.drop 1)).all (fun (a, next) => a.1 < next.1) = true) (ho : Op.lookupswitch.offset ps.toList dflt x.toInt = off) (ht : (pc : Int) + off = (tgt : Int))
    (kk : Gd Y Z k n tgt L st h) : Gd Y Z k n pc L (vi x :: st) h := by
  intro p l e R s m args below meth c D cs aK A ad0 QS H locs ad ls C RR Wd Ad hl
  exact lv_lookup C.1 C.2.1 hd hp ho ht (kk p l e R s m args below meth c D cs aK A ad0 QS H locs ad ls C RR Wd Ad hl)
theorem Gd_tabOut {dflt lo hi : Int} {offs : Array Int} {len : Nat} (hd : decode Y.2.1 pc = .ok (.tableswitch dflt lo hi offs, len)) (hh : x.toInt < lo ∨ hi < x.toInt) (ht : (pc : Int) + dflt = (tgt : Int))
    (kk : Gd Y Z k n tgt L st h) : Gd Y Z k n pc L (vi x :: st) h := by
  intro p l e R s m args below meth c D cs aK A ad0 QS H locs ad ls C RR Wd Ad hl
  exact lv_tableOut C.1 C.2.1 hd hh ht (kk p l e R s m args below meth c D cs aK A ad0 QS H locs ad ls C RR Wd Ad hl)
theorem Gd_tabIn {dflt lo hi off : Int} {offs : Array Int} {len : Nat} (hd : decode Y.2.1 pc = .ok (.tableswitch dflt lo hi offs, len)) (h1 : ¬ x.toInt < lo) (h2 : ¬ hi < x.toInt) (ho : offs[(x.toInt - lo).toNat]? = some off) (ht : (pc : Int) + off = (tgt : Int))
    (kk : Gd Y Z k n tgt L st h) : Gd Y Z k n pc L (vi x :: st) h := by
  intro p l e R s m args below meth c D cs aK A ad0 QS H locs ad ls C RR Wd Ad hl
  exact lv_tableIn C.1 C.2.1 hd h1 h2 ho ht (kk p l e R s m args below meth c D cs aK A ad0 QS H locs ad ls C RR Wd Ad hl)
end GI
section GS
variable {Y : g_Y} {Z : g_Z} {k n pc pc' : Nat} {L : List (Option g_V)} {st : List g_V} {h : g_H} {x : Int32} {lx : Int64}
theorem Gd_istore_n0 {o0 : Option g_V} (hd : g_D Y pc (.istore_n 0) 1 pc') (kk : Gd Y Z k n pc' (some (vi x) :: L) st h) : Gd Y Z k n pc (o0 :: L) (vi x :: st) h := by
  refine Gd_istore_nG (i := 0) (a := 0) (by show 0 < _; simp only [List.length_cons]; omega) hd ?_
  have e : g_st1 (o0 :: L) 0 (vi x) = some (vi x) :: L := by rfl
  exact e ▸ kk
theorem Gd_astore_n0 {o0 : Option g_V} {a : Nat} (hd : g_D Y pc (.astore_n 0) 1 pc') (kk : Gd Y Z k n pc' (some (vr a) :: L) st h) : Gd Y Z k n pc (o0 :: L) (vr a :: st) h := by
  refine Gd_astore_nG (i := 0) (by show 0 < _; simp only [List.length_cons]; omega) hd ?_
  have e : g_st1 (o0 :: L) 0 (vr a) = some (vr a) :: L := by rfl
  exact e ▸ kk
theorem Gd_lstore_n0 {o0 o1 : Option g_V} (hd : g_D Y pc (.lstore_n 0) 1 pc') (kk : Gd Y Z k n pc' (some (vl lx) :: none :: L) st h) : Gd Y Z k n pc (o0 :: o1 :: L) (vl lx :: st) h := by
  refine Gd_lstore_nG (i := 0) (a := 0) (by show 0 + 1 < _; simp only [List.length_cons]; omega) hd ?_
  have e : g_st2 (o0 :: o1 :: L) 0 (vl lx) = some (vl lx) :: none :: L := by simp [g_st2, g_clp, g_clr]
  exact e ▸ kk
theorem Gd_iinc0 {o0 : Option g_V} {z : Int} {v : Int32} (he : x + Int32.ofInt z = v) (hd : g_D Y pc (.iinc 0 z) 3 pc') (kk : Gd Y Z k n pc' (some (vi v) :: L) st h) : Gd Y Z k n pc (some (vi x) :: L) st h := by
  refine Gd_iincG (i := 0) (x := x) (by simp) he hd ?_
  have e : g_st1 (some (vi x) :: L) 0 (vi v) = some (vi v) :: L := by rfl
  exact e ▸ kk
theorem Gd_istore_n1 {o0 o1 : Option g_V} (ho : g_isl o0 = false) (hd : g_D Y pc (.istore_n 1) 1 pc') (kk : Gd Y Z k n pc' (o0 :: some (vi x) :: L) st h) : Gd Y Z k n pc (o0 :: o1 :: L) (vi x :: st) h := by
  refine Gd_istore_nG (i := 1) (a := 0) (by show 1 < _; simp only [List.length_cons]; omega) hd ?_
  have e : g_st1 (o0 :: o1 :: L) 1 (vi x) = o0 :: some (vi x) :: L := by simp [g_st1, g_clp, g_clr, ho]
  exact e ▸ kk
theorem Gd_astore_n1 {o0 o1 : Option g_V} {a : Nat} (ho : g_isl o0 = false) (hd : g_D Y pc (.astore_n 1) 1 pc') (kk : Gd Y Z k n pc' (o0 :: some (vr a) :: L) st h) : Gd Y Z k n pc (o0 :: o1 :: L) (vr a :: st) h := by
  refine Gd_astore_nG (i := 1) (by show 1 < _; simp only [List.length_cons]; omega) hd ?_
  have e : g_st1 (o0 :: o1 :: L) 1 (vr a) = o0 :: some (vr a) :: L := by simp [g_st1, g_clp, g_clr, ho]
  exact e ▸ kk
theorem Gd_lstore_n1 {o0 o1 o2 : Option g_V} (ho : g_isl o0 = false) (hd : g_D Y pc (.lstore_n 1) 1 pc') (kk : Gd Y Z k n pc' (o0 :: some (vl lx) :: none :: L) st h) : Gd Y Z k n pc (o0 :: o1 :: o2 :: L) (vl lx :: st) h := by
  refine Gd_lstore_nG (i := 1) (a := 0) (by show 1 + 1 < _; simp only [List.length_cons]; omega) hd ?_
  have e : g_st2 (o0 :: o1 :: o2 :: L) 1 (vl lx) = o0 :: some (vl lx) :: none :: L := by simp [g_st2, g_clp, g_clr, ho]
  exact e ▸ kk
theorem Gd_iinc1 {o0 : Option g_V} {z : Int} {v : Int32} (ho : g_isl o0 = false) (he : x + Int32.ofInt z = v) (hd : g_D Y pc (.iinc 1 z) 3 pc') (kk : Gd Y Z k n pc' (o0 :: some (vi v) :: L) st h) : Gd Y Z k n pc (o0 :: some (vi x) :: L) st h := by
  refine Gd_iincG (i := 1) (x := x) (by simp) he hd ?_
  have e : g_st1 (o0 :: some (vi x) :: L) 1 (vi v) = o0 :: some (vi v) :: L := by simp [g_st1, g_clp, g_clr, ho]
  exact e ▸ kk
theorem Gd_istore_n2 {o0 o1 o2 : Option g_V} (ho : g_isl o1 = false) (hd : g_D Y pc (.istore_n 2) 1 pc') (kk : Gd Y Z k n pc' (o0 :: o1 :: some (vi x) :: L) st h) : Gd Y Z k n pc (o0 :: o1 :: o2 :: L) (vi x :: st) h := by
  refine Gd_istore_nG (i := 2) (a := 0) (by show 2 < _; simp only [List.length_cons]; omega) hd ?_
  have e : g_st1 (o0 :: o1 :: o2 :: L) 2 (vi x) = o0 :: o1 :: some (vi x) :: L := by simp [g_st1, g_clp, g_clr, ho]
  exact e ▸ kk
theorem Gd_astore_n2 {o0 o1 o2 : Option g_V} {a : Nat} (ho : g_isl o1 = false) (hd : g_D Y pc (.astore_n 2) 1 pc') (kk : Gd Y Z k n pc' (o0 :: o1 :: some (vr a) :: L) st h) : Gd Y Z k n pc (o0 :: o1 :: o2 :: L) (vr a :: st) h := by
  refine Gd_astore_nG (i := 2) (by show 2 < _; simp only [List.length_cons]; omega) hd ?_
  have e : g_st1 (o0 :: o1 :: o2 :: L) 2 (vr a) = o0 :: o1 :: some (vr a) :: L := by simp [g_st1, g_clp, g_clr, ho]
  exact e ▸ kk
theorem Gd_lstore_n2 {o0 o1 o2 o3 : Option g_V} (ho : g_isl o1 = false) (hd : g_D Y pc (.lstore_n 2) 1 pc') (kk : Gd Y Z k n pc' (o0 :: o1 :: some (vl lx) :: none :: L) st h) : Gd Y Z k n pc (o0 :: o1 :: o2 :: o3 :: L) (vl lx :: st) h := by
  refine Gd_lstore_nG (i := 2) (a := 0) (by show 2 + 1 < _; simp only [List.length_cons]; omega) hd ?_
  have e : g_st2 (o0 :: o1 :: o2 :: o3 :: L) 2 (vl lx) = o0 :: o1 :: some (vl lx) :: none :: L := by simp [g_st2, g_clp, g_clr, ho]
  exact e ▸ kk
theorem Gd_iinc2 {o0 o1 : Option g_V} {z : Int} {v : Int32} (ho : g_isl o1 = false) (he : x + Int32.ofInt z = v) (hd : g_D Y pc (.iinc 2 z) 3 pc') (kk : Gd Y Z k n pc' (o0 :: o1 :: some (vi v) :: L) st h) : Gd Y Z k n pc (o0 :: o1 :: some (vi x) :: L) st h := by
  refine Gd_iincG (i := 2) (x := x) (by simp) he hd ?_
  have e : g_st1 (o0 :: o1 :: some (vi x) :: L) 2 (vi v) = o0 :: o1 :: some (vi v) :: L := by simp [g_st1, g_clp, g_clr, ho]
  exact e ▸ kk
theorem Gd_istore_n3 {o0 o1 o2 o3 : Option g_V} (ho : g_isl o2 = false) (hd : g_D Y pc (.istore_n 3) 1 pc') (kk : Gd Y Z k n pc' (o0 :: o1 :: o2 :: some (vi x) :: L) st h) : Gd Y Z k n pc (o0 :: o1 :: o2 :: o3 :: L) (vi x :: st) h := by
  refine Gd_istore_nG (i := 3) (a := 0) (by show 3 < _; simp only [List.length_cons]; omega) hd ?_
  have e : g_st1 (o0 :: o1 :: o2 :: o3 :: L) 3 (vi x) = o0 :: o1 :: o2 :: some (vi x) :: L := by simp [g_st1, g_clp, g_clr, ho]
  exact e ▸ kk
theorem Gd_astore_n3 {o0 o1 o2 o3 : Option g_V} {a : Nat} (ho : g_isl o2 = false) (hd : g_D Y pc (.astore_n 3) 1 pc') (kk : Gd Y Z k n pc' (o0 :: o1 :: o2 :: some (vr a) :: L) st h) : Gd Y Z k n pc (o0 :: o1 :: o2 :: o3 :: L) (vr a :: st) h := by
  refine Gd_astore_nG (i := 3) (by show 3 < _; simp only [List.length_cons]; omega) hd ?_
  have e : g_st1 (o0 :: o1 :: o2 :: o3 :: L) 3 (vr a) = o0 :: o1 :: o2 :: some (vr a) :: L := by simp [g_st1, g_clp, g_clr, ho]
  exact e ▸ kk
theorem Gd_lstore_n3 {o0 o1 o2 o3 o4 : Option g_V} (ho : g_isl o2 = false) (hd : g_D Y pc (.lstore_n 3) 1 pc') (kk : Gd Y Z k n pc' (o0 :: o1 :: o2 :: some (vl lx) :: none :: L) st h) : Gd Y Z k n pc (o0 :: o1 :: o2 :: o3 :: o4 :: L) (vl lx :: st) h := by
  refine Gd_lstore_nG (i := 3) (a := 0) (by show 3 + 1 < _; simp only [List.length_cons]; omega) hd ?_
  have e : g_st2 (o0 :: o1 :: o2 :: o3 :: o4 :: L) 3 (vl lx) = o0 :: o1 :: o2 :: some (vl lx) :: none :: L := by simp [g_st2, g_clp, g_clr, ho]
  exact e ▸ kk
theorem Gd_iinc3 {o0 o1 o2 : Option g_V} {z : Int} {v : Int32} (ho : g_isl o2 = false) (he : x + Int32.ofInt z = v) (hd : g_D Y pc (.iinc 3 z) 3 pc') (kk : Gd Y Z k n pc' (o0 :: o1 :: o2 :: some (vi v) :: L) st h) : Gd Y Z k n pc (o0 :: o1 :: o2 :: some (vi x) :: L) st h := by
  refine Gd_iincG (i := 3) (x := x) (by simp) he hd ?_
  have e : g_st1 (o0 :: o1 :: o2 :: some (vi x) :: L) 3 (vi v) = o0 :: o1 :: o2 :: some (vi v) :: L := by simp [g_st1, g_clp, g_clr, ho]
  exact e ▸ kk
theorem Gd_istore4 {o0 o1 o2 o3 o4 : Option g_V} (ho : g_isl o3 = false) (hd : g_D Y pc (.istore 4) 2 pc') (kk : Gd Y Z k n pc' (o0 :: o1 :: o2 :: o3 :: some (vi x) :: L) st h) : Gd Y Z k n pc (o0 :: o1 :: o2 :: o3 :: o4 :: L) (vi x :: st) h := by
  refine Gd_istoreG (i := 4) (a := 0) (by show 4 < _; simp only [List.length_cons]; omega) hd ?_
  have e : g_st1 (o0 :: o1 :: o2 :: o3 :: o4 :: L) 4 (vi x) = o0 :: o1 :: o2 :: o3 :: some (vi x) :: L := by simp [g_st1, g_clp, g_clr, ho]
  exact e ▸ kk
theorem Gd_astore4 {o0 o1 o2 o3 o4 : Option g_V} {a : Nat} (ho : g_isl o3 = false) (hd : g_D Y pc (.astore 4) 2 pc') (kk : Gd Y Z k n pc' (o0 :: o1 :: o2 :: o3 :: some (vr a) :: L) st h) : Gd Y Z k n pc (o0 :: o1 :: o2 :: o3 :: o4 :: L) (vr a :: st) h := by
  refine Gd_astoreG (i := 4) (by show 4 < _; simp only [List.length_cons]; omega) hd ?_
  have e : g_st1 (o0 :: o1 :: o2 :: o3 :: o4 :: L) 4 (vr a) = o0 :: o1 :: o2 :: o3 :: some (vr a) :: L := by simp [g_st1, g_clp, g_clr, ho]
  exact e ▸ kk
theorem Gd_lstore4 {o0 o1 o2 o3 o4 o5 : Option g_V} (ho : g_isl o3 = false) (hd : g_D Y pc (.lstore 4) 2 pc') (kk : Gd Y Z k n pc' (o0 :: o1 :: o2 :: o3 :: some (vl lx) :: none :: L) st h) : Gd Y Z k n pc (o0 :: o1 :: o2 :: o3 :: o4 :: o5 :: L) (vl lx :: st) h := by
  refine Gd_lstoreG (i := 4) (a := 0) (by show 4 + 1 < _; simp only [List.length_cons]; omega) hd ?_
  have e : g_st2 (o0 :: o1 :: o2 :: o3 :: o4 :: o5 :: L) 4 (vl lx) = o0 :: o1 :: o2 :: o3 :: some (vl lx) :: none :: L := by simp [g_st2, g_clp, g_clr, ho]
  exact e ▸ kk
theorem Gd_iinc4 {o0 o1 o2 o3 : Option g_V} {z : Int} {v : Int32} (ho : g_isl o3 = false) (he : x + Int32.ofInt z = v) (hd : g_D Y pc (.iinc 4 z) 3 pc') (kk : Gd Y Z k n pc' (o0 :: o1 :: o2 :: o3 :: some (vi v) :: L) st h) : Gd Y Z k n pc (o0 :: o1 :: o2 :: o3 :: some (vi x) :: L) st h := by
  refine Gd_iincG (i := 4) (x := x) (by simp) he hd ?_
  have e : g_st1 (o0 :: o1 :: o2 :: o3 :: some (vi x) :: L) 4 (vi v) = o0 :: o1 :: o2 :: o3 :: some (vi v) :: L := by simp [g_st1, g_clp, g_clr, ho]
  exact e ▸ kk
theorem Gd_istore5 {o0 o1 o2 o3 o4 o5 : Option g_V} (ho : g_isl o4 = false) (hd : g_D Y pc (.istore 5) 2 pc') (kk : Gd Y Z k n pc' (o0 :: o1 :: o2 :: o3 :: o4 :: some (vi x) :: L) st h) : Gd Y Z k n pc (o0 :: o1 :: o2 :: o3 :: o4 :: o5 :: L) (vi x :: st) h := by
  refine Gd_istoreG (i := 5) (a := 0) (by show 5 < _; simp only [List.length_cons]; omega) hd ?_
  have e : g_st1 (o0 :: o1 :: o2 :: o3 :: o4 :: o5 :: L) 5 (vi x) = o0 :: o1 :: o2 :: o3 :: o4 :: some (vi x) :: L := by simp [g_st1, g_clp, g_clr, ho]
  exact e ▸ kk
theorem Gd_astore5 {o0 o1 o2 o3 o4 o5 : Option g_V} {a : Nat} (ho : g_isl o4 = false) (hd : g_D Y pc (.astore 5) 2 pc') (kk : Gd Y Z k n pc' (o0 :: o1 :: o2 :: o3 :: o4 :: some (vr a) :: L) st h) : Gd Y Z k n pc (o0 :: o1 :: o2 :: o3 :: o4 :: o5 :: L) (vr a :: st) h := by
  refine Gd_astoreG (i := 5) (by show 5 < _; simp only [List.length_cons]; omega) hd ?_
  have e : g_st1 (o0 :: o1 :: o2 :: o3 :: o4 :: o5 :: L) 5 (vr a) = o0 :: o1 :: o2 :: o3 :: o4 :: some (vr a) :: L := by simp [g_st1, g_clp, g_clr, ho]
  exact e ▸ kk
theorem Gd_lstore5 {o0 o1 o2 o3 o4 o5 o6 : Option g_V} (ho : g_isl o4 = false) (hd : g_D Y pc (.lstore 5) 2 pc') (kk : Gd Y Z k n pc' (o0 :: o1 :: o2 :: o3 :: o4 :: some (vl lx) :: none :: L) st h) : Gd Y Z k n pc (o0 :: o1 :: o2 :: o3 :: o4 :: o5 :: o6 :: L) (vl lx :: st) h := by
  refine Gd_lstoreG (i := 5) (a := 0) (by show 5 + 1 < _; simp only [List.length_cons]; omega) hd ?_
  have e : g_st2 (o0 :: o1 :: o2 :: o3 :: o4 :: o5 :: o6 :: L) 5 (vl lx) = o0 :: o1 :: o2 :: o3 :: o4 :: some (vl lx) :: none :: L := by simp [g_st2, g_clp, g_clr, ho]
  exact e ▸ kk
theorem Gd_iinc5 {o0 o1 o2 o3 o4 : Option g_V} {z : Int} {v : Int32} (ho : g_isl o4 = false) (he : x + Int32.ofInt z = v) (hd : g_D Y pc (.iinc 5 z) 3 pc') (kk : Gd Y Z k n pc' (o0 :: o1 :: o2 :: o3 :: o4 :: some (vi v) :: L) st h) : Gd Y Z k n pc (o0 :: o1 :: o2 :: o3 :: o4 :: some (vi x) :: L) st h := by
  refine Gd_iincG (i := 5) (x := x) (by simp) he hd ?_
  have e : g_st1 (o0 :: o1 :: o2 :: o3 :: o4 :: some (vi x) :: L) 5 (vi v) = o0 :: o1 :: o2 :: o3 :: o4 :: some (vi v) :: L := by simp [g_st1, g_clp, g_clr, ho]
  exact e ▸ kk
theorem Gd_istore6 {o0 o1 o2 o3 o4 o5 o6 : Option g_V} (ho : g_isl o5 = false) (hd : g_D Y pc (.istore 6) 2 pc') (kk : Gd Y Z k n pc' (o0 :: o1 :: o2 :: o3 :: o4 :: o5 :: some (vi x) :: L) st h) : Gd Y Z k n pc (o0 :: o1 :: o2 :: o3 :: o4 :: o5 :: o6 :: L) (vi x :: st) h := by
  refine Gd_istoreG (i := 6) (a := 0) (by show 6 < _; simp only [List.length_cons]; omega) hd ?_
  have e : g_st1 (o0 :: o1 :: o2 :: o3 :: o4 :: o5 :: o6 :: L) 6 (vi x) = o0 :: o1 :: o2 :: o3 :: o4 :: o5 :: some (vi x) :: L := by simp [g_st1, g_clp, g_clr, ho]
  exact e ▸ kk
theorem Gd_astore6 {o0 o1 o2 o3 o4 o5 o6 : Option g_V} {a : Nat} (ho : g_isl o5 = false) (hd : g_D Y pc (.astore 6) 2 pc') (kk : Gd Y Z k n pc' (o0 :: o1 :: o2 :: o3 :: o4 :: o5 :: some (vr a) :: L) st h) : Gd Y Z k n pc (o0 :: o1 :: o2 :: o3 :: o4 :: o5 :: o6 :: L) (vr a :: st) h := by
  refine Gd_astoreG (i := 6) (by show 6 < _; simp only [List.length_cons]; omega) hd ?_
  have e : g_st1 (o0 :: o1 :: o2 :: o3 :: o4 :: o5 :: o6 :: L) 6 (vr a) = o0 :: o1 :: o2 :: o3 :: o4 :: o5 :: some (vr a) :: L := by simp [g_st1, g_clp, g_clr, ho]
  exact e ▸ kk
theorem Gd_lstore6 {o0 o1 o2 o3 o4 o5 o6 o7 : Option g_V} (ho : g_isl o5 = false) (hd : g_D Y pc (.lstore 6) 2 pc') (kk : Gd Y Z k n pc' (o0 :: o1 :: o2 :: o3 :: o4 :: o5 :: some (vl lx) :: none :: L) st h) : Gd Y Z k n pc (o0 :: o1 :: o2 :: o3 :: o4 :: o5 :: o6 :: o7 :: L) (vl lx :: st) h := by
  refine Gd_lstoreG (i := 6) (a := 0) (by show 6 + 1 < _; simp only [List.length_cons]; omega) hd ?_
  have e : g_st2 (o0 :: o1 :: o2 :: o3 :: o4 :: o5 :: o6 :: o7 :: L) 6 (vl lx) = o0 :: o1 :: o2 :: o3 :: o4 :: o5 :: some (vl lx) :: none :: L := by simp [g_st2, g_clp, g_clr, ho]
  exact e ▸ kk
theorem Gd_iinc6 {o0 o1 o2 o3 o4 o5 : Option g_V} {z : Int} {v : Int32} (ho : g_isl o5 = false) (he : x + Int32.ofInt z = v) (hd : g_D Y pc (.iinc 6 z) 3 pc') (kk : Gd Y Z k n pc' (o0 :: o1 :: o2 :: o3 :: o4 :: o5 :: some (vi v) :: L) st h) : Gd Y Z k n pc (o0 :: o1 :: o2 :: o3 :: o4 :: o5 :: some (vi x) :: L) st h := by
  refine Gd_iincG (i := 6) (x := x) (by simp) he hd ?_
  have e : g_st1 (o0 :: o1 :: o2 :: o3 :: o4 :: o5 :: some (vi x) :: L) 6 (vi v) = o0 :: o1 :: o2 :: o3 :: o4 :: o5 :: some (vi v) :: L := by simp [g_st1, g_clp, g_clr, ho]
  exact e ▸ kk
theorem Gd_istore7 {o0 o1 o2 o3 o4 o5 o6 o7 : Option g_V} (ho : g_isl o6 = false) (hd : g_D Y pc (.istore 7) 2 pc') (kk : Gd Y Z k n pc' (o0 :: o1 :: o2 :: o3 :: o4 :: o5 :: o6 :: some (vi x) :: L) st h) : Gd Y Z k n pc (o0 :: o1 :: o2 :: o3 :: o4 :: o5 :: o6 :: o7 :: L) (vi x :: st) h := by
  refine Gd_istoreG (i := 7) (a := 0) (by show 7 < _; simp only [List.length_cons]; omega) hd ?_
  have e : g_st1 (o0 :: o1 :: o2 :: o3 :: o4 :: o5 :: o6 :: o7 :: L) 7 (vi x) = o0 :: o1 :: o2 :: o3 :: o4 :: o5 :: o6 :: some (vi x) :: L := by simp [g_st1, g_clp, g_clr, ho]
  exact e ▸ kk
theorem Gd_astore7 {o0 o1 o2 o3 o4 o5 o6 o7 : Option g_V} {a : Nat} (ho : g_isl o6 = false) (hd : g_D Y pc (.astore 7) 2 pc') (kk : Gd Y Z k n pc' (o0 :: o1 :: o2 :: o3 :: o4 :: o5 :: o6 :: some (vr a) :: L) st h) : Gd Y Z k n pc (o0 :: o1 :: o2 :: o3 :: o4 :: o5 :: o6 :: o7 :: L) (vr a :: st) h := by
  refine Gd_astoreG (i := 7) (by show 7 < _; simp only [List.length_cons]; omega) hd ?_
  have e : g_st1 (o0 :: o1 :: o2 :: o3 :: o4 :: o5 :: o6 :: o7 :: L) 7 (vr a) = o0 :: o1 :: o2 :: o3 :: o4 :: o5 :: o6 :: some (vr a) :: L := by simp [g_st1, g_clp, g_clr, ho]
  exact e ▸ kk
theorem Gd_lstore7 {o0 o1 o2 o3 o4 o5 o6 o7 o8 : Option g_V} (ho : g_isl o6 = false) (hd : g_D Y pc (.lstore 7) 2 pc') (kk : Gd Y Z k n pc' (o0 :: o1 :: o2 :: o3 :: o4 :: o5 :: o6 :: some (vl lx) :: none :: L) st h) : Gd Y Z k n pc (o0 :: o1 :: o2 :: o3 :: o4 :: o5 :: o6 :: o7 :: o8 :: L) (vl lx :: st) h := by
  refine Gd_lstoreG (i := 7) (a := 0) (by show 7 + 1 < _; simp only [List.length_cons]; omega) hd ?_
  have e : g_st2 (o0 :: o1 :: o2 :: o3 :: o4 :: o5 :: o6 :: o7 :: o8 :: L) 7 (vl lx) = o0 :: o1 :: o2 :: o3 :: o4 :: o5 :: o6 :: some (vl lx) :: none :: L := by simp [g_st2, g_clp, g_clr, ho]
  exact e ▸ kk
theorem Gd_iinc7 {o0 o1 o2 o3 o4 o5 o6 : Option g_V} {z : Int} {v : Int32} (ho : g_isl o6 = false) (he : x + Int32.ofInt z = v) (hd : g_D Y pc (.iinc 7 z) 3 pc') (kk : Gd Y Z k n pc' (o0 :: o1 :: o2 :: o3 :: o4 :: o5 :: o6 :: some (vi v) :: L) st h) : Gd Y Z k n pc (o0 :: o1 :: o2 :: o3 :: o4 :: o5 :: o6 :: some (vi x) :: L) st h := by
  refine Gd_iincG (i := 7) (x := x) (by simp) he hd ?_
  have e : g_st1 (o0 :: o1 :: o2 :: o3 :: o4 :: o5 :: o6 :: some (vi x) :: L) 7 (vi v) = o0 :: o1 :: o2 :: o3 :: o4 :: o5 :: o6 :: some (vi v) :: L := by simp [g_st1, g_clp, g_clr, ho]
  exact e ▸ kk
theorem Gd_istore8 {o0 o1 o2 o3 o4 o5 o6 o7 o8 : Option g_V} (ho : g_isl o7 = false) (hd : g_D Y pc (.istore 8) 2 pc') (kk : Gd Y Z k n pc' (o0 :: o1 :: o2 :: o3 :: o4 :: o5 :: o6 :: o7 :: some (vi x) :: L) st h) : Gd Y Z k n pc (o0 :: o1 :: o2 :: o3 :: o4 :: o5 :: o6 :: o7 :: o8 :: L) (vi x :: st) h := by
  refine Gd_istoreG (i := 8) (a := 0) (by show 8 < _; simp only [List.length_cons]; omega) hd ?_
  have e : g_st1 (o0 :: o1 :: o2 :: o3 :: o4 :: o5 :: o6 :: o7 :: o8 :: L) 8 (vi x) = o0 :: o1 :: o2 :: o3 :: o4 :: o5 :: o6 :: o7 :: some (vi x) :: L := by simp [g_st1, g_clp, g_clr, ho]
  exact e ▸ kk
theorem Gd_astore8 {o0 o1 o2 o3 o4 o5 o6 o7 o8 : Option g_V} {a : Nat} (ho : g_isl o7 = false) (hd : g_D Y pc (.astore 8) 2 pc') (kk : Gd Y Z k n pc' (o0 :: o1 :: o2 :: o3 :: o4 :: o5 :: o6 :: o7 :: some (vr a) :: L) st h) : Gd Y Z k n pc (o0 :: o1 :: o2 :: o3 :: o4 :: o5 :: o6 :: o7 :: o8 :: L) (vr a :: st) h := by
  refine Gd_astoreG (i := 8) (by show 8 < _; simp only [List.length_cons]; omega) hd ?_
  have e : g_st1 (o0 :: o1 :: o2 :: o3 :: o4 :: o5 :: o6 :: o7 :: o8 :: L) 8 (vr a) = o0 :: o1 :: o2 :: o3 :: o4 :: o5 :: o6 :: o7 :: some (vr a) :: L := by simp [g_st1, g_clp, g_clr, ho]
  exact e ▸ kk
theorem Gd_lstore8 {o0 o1 o2 o3 o4 o5 o6 o7 o8 o9 : Option g_V} (ho : g_isl o7 = false) (hd : g_D Y pc (.lstore 8) 2 pc') (kk : Gd Y Z k n pc' (o0 :: o1 :: o2 :: o3 :: o4 :: o5 :: o6 :: o7 :: some (vl lx) :: none :: L) st h) : Gd Y Z k n pc (o0 :: o1 :: o2 :: o3 :: o4 :: o5 :: o6 :: o7 :: o8 :: o9 :: L) (vl lx :: st) h := by
  refine Gd_lstoreG (i := 8) (a := 0) (by show 8 + 1 < _; simp only [List.length_cons]; omega) hd ?_
  have e : g_st2 (o0 :: o1 :: o2 :: o3 :: o4 :: o5 :: o6 :: o7 :: o8 :: o9 :: L) 8 (vl lx) = o0 :: o1 :: o2 :: o3 :: o4 :: o5 :: o6 :: o7 :: some (vl lx) :: none :: L := by simp [g_st2, g_clp, g_clr, ho]
  exact e ▸ kk
theorem Gd_iinc8 {o0 o1 o2 o3 o4 o5 o6 o7 : Option g_V} {z : Int} {v : Int32} (ho : g_isl o7 = false) (he : x + Int32.ofInt z = v) (hd : g_D Y pc (.iinc 8 z) 3 pc') (kk : Gd Y Z k n pc' (o0 :: o1 :: o2 :: o3 :: o4 :: o5 :: o6 :: o7 :: some (vi v) :: L) st h) : Gd Y Z k n pc (o0 :: o1 :: o2 :: o3 :: o4 :: o5 :: o6 :: o7 :: some (vi x) :: L) st h := by
  refine Gd_iincG (i := 8) (x := x) (by simp) he hd ?_
  have e : g_st1 (o0 :: o1 :: o2 :: o3 :: o4 :: o5 :: o6 :: o7 :: some (vi x) :: L) 8 (vi v) = o0 :: o1 :: o2 :: o3 :: o4 :: o5 :: o6 :: o7 :: some (vi v) :: L := by simp [g_st1, g_clp, g_clr, ho]
  exact e ▸ kk
theorem Gd_istore9 {o0 o1 o2 o3 o4 o5 o6 o7 o8 o9 : Option g_V} (ho : g_isl o8 = false) (hd : g_D Y pc (.istore 9) 2 pc') (kk : Gd Y Z k n pc' (o0 :: o1 :: o2 :: o3 :: o4 :: o5 :: o6 :: o7 :: o8 :: some (vi x) :: L) st h) : Gd Y Z k n pc (o0 :: o1 :: o2 :: o3 :: o4 :: o5 :: o6 :: o7 :: o8 :: o9 :: L) (vi x :: st) h := by
  refine Gd_istoreG (i := 9) (a := 0) (by show 9 < _; simp only [List.length_cons]; omega) hd ?_
  have e : g_st1 (o0 :: o1 :: o2 :: o3 :: o4 :: o5 :: o6 :: o7 :: o8 :: o9 :: L) 9 (vi x) = o0 :: o1 :: o2 :: o3 :: o4 :: o5 :: o6 :: o7 :: o8 :: some (vi x) :: L := by simp [g_st1, g_clp, g_clr, ho]
  exact e ▸ kk
theorem Gd_astore9 {o0 o1 o2 o3 o4 o5 o6 o7 o8 o9 : Option g_V} {a : Nat} (ho : g_isl o8 = false) (hd : g_D Y pc (.astore 9) 2 pc') (kk : Gd Y Z k n pc' (o0 :: o1 :: o2 :: o3 :: o4 :: o5 :: o6 :: o7 :: o8 :: some (vr a) :: L) st h) : Gd Y Z k n pc (o0 :: o1 :: o2 :: o3 :: o4 :: o5 :: o6 :: o7 :: o8 :: o9 :: L) (vr a :: st) h := by
  refine Gd_astoreG (i := 9) (by show 9 < _; simp only [List.length_cons]; omega) hd ?_
  have e : g_st1 (o0 :: o1 :: o2 :: o3 :: o4 :: o5 :: o6 :: o7 :: o8 :: o9 :: L) 9 (vr a) = o0 :: o1 :: o2 :: o3 :: o4 :: o5 :: o6 :: o7 :: o8 :: some (vr a) :: L := by simp [g_st1, g_clp, g_clr, ho]
  exact e ▸ kk
theorem Gd_lstore9 {o0 o1 o2 o3 o4 o5 o6 o7 o8 o9 o10 : Option g_V} (ho : g_isl o8 = false) (hd : g_D Y pc (.lstore 9) 2 pc') (kk : Gd Y Z k n pc' (o0 :: o1 :: o2 :: o3 :: o4 :: o5 :: o6 :: o7 :: o8 :: some (vl lx) :: none :: L) st h) : Gd Y Z k n pc (o0 :: o1 :: o2 :: o3 :: o4 :: o5 :: o6 :: o7 :: o8 :: o9 :: o10 :: L) (vl lx :: st) h := by
  refine Gd_lstoreG (i := 9) (a := 0) (by show 9 + 1 < _; simp only [List.length_cons]; omega) hd ?_
  have e : g_st2 (o0 :: o1 :: o2 :: o3 :: o4 :: o5 :: o6 :: o7 :: o8 :: o9 :: o10 :: L) 9 (vl lx) = o0 :: o1 :: o2 :: o3 :: o4 :: o5 :: o6 :: o7 :: o8 :: some (vl lx) :: none :: L := by simp [g_st2, g_clp, g_clr, ho]
  exact e ▸ kk
theorem Gd_iinc9 {o0 o1 o2 o3 o4 o5 o6 o7 o8 : Option g_V} {z : Int} {v : Int32} (ho : g_isl o8 = false) (he : x + Int32.ofInt z = v) (hd : g_D Y pc (.iinc 9 z) 3 pc') (kk : Gd Y Z k n pc' (o0 :: o1 :: o2 :: o3 :: o4 :: o5 :: o6 :: o7 :: o8 :: some (vi v) :: L) st h) : Gd Y Z k n pc (o0 :: o1 :: o2 :: o3 :: o4 :: o5 :: o6 :: o7 :: o8 :: some (vi x) :: L) st h := by
  refine Gd_iincG (i := 9) (x := x) (by simp) he hd ?_
  have e : g_st1 (o0 :: o1 :: o2 :: o3 :: o4 :: o5 :: o6 :: o7 :: o8 :: some (vi x) :: L) 9 (vi v) = o0 :: o1 :: o2 :: o3 :: o4 :: o5 :: o6 :: o7 :: o8 :: some (vi v) :: L := by simp [g_st1, g_clp, g_clr, ho]
  exact e ▸ kk
theorem Gd_istore10 {o0 o1 o2 o3 o4 o5 o6 o7 o8 o9 o10 : Option g_V} (ho : g_isl o9 = false) (hd : g_D Y pc (.istore 10) 2 pc') (kk : Gd Y Z k n pc' (o0 :: o1 :: o2 :: o3 :: o4 :: o5 :: o6 :: o7 :: o8 :: o9 :: some (vi x) :: L) st h) : Gd Y Z k n pc (o0 :: o1 :: o2 :: o3 :: o4 :: o5 :: o6 :: o7 :: o8 :: o9 :: o10 :: L) (vi x :: st) h := by
  refine Gd_istoreG (i := 10) (a := 0) (by show 10 < _; simp only [List.length_cons]; omega) hd ?_
  have e : g_st1 (o0 :: o1 :: o2 :: o3 :: o4 :: o5 :: o6 :: o7 :: o8 :: o9 :: o10 :: L) 10 (vi x) = o0 :: o1 :: o2 :: o3 :: o4 :: o5 :: o6 :: o7 :: o8 :: o9 :: some (vi x) :: L := by simp [g_st1, g_clp, g_clr, ho]
  exact e ▸ kk
theorem Gd_astore10 {o0 o1 o2 o3 o4 o5 o6 o7 o8 o9 o10 : Option g_V} {a : Nat} (ho : g_isl o9 = false) (hd : g_D Y pc (.astore 10) 2 pc') (kk : Gd Y Z k n pc' (o0 :: o1 :: o2 :: o3 :: o4 :: o5 :: o6 :: o7 :: o8 :: o9 :: some (vr a) :: L) st h) : Gd Y Z k n pc (o0 :: o1 :: o2 :: o3 :: o4 :: o5 :: o6 :: o7 :: o8 :: o9 :: o10 :: L) (vr a :: st) h := by
  refine Gd_astoreG (i := 10) (by show 10 < _; simp only [List.length_cons]; omega) hd ?_
  have e : g_st1 (o0 :: o1 :: o2 :: o3 :: o4 :: o5 :: o6 :: o7 :: o8 :: o9 :: o10 :: L) 10 (vr a) = o0 :: o1 :: o2 :: o3 :: o4 :: o5 :: o6 :: o7 :: o8 :: o9 :: some (vr a) :: L := by simp [g_st1, g_clp, g_clr, ho]
  exact e ▸ kk
theorem Gd_lstore10 {o0 o1 o2 o3 o4 o5 o6 o7 o8 o9 o10 o11 : Option g_V} (ho : g_isl o9 = false) (hd : g_D Y pc (.lstore 10) 2 pc') (kk : Gd Y Z k n pc' (o0 :: o1 :: o2 :: o3 :: o4 :: o5 :: o6 :: o7 :: o8 :: o9 :: some (vl lx) :: none :: L) st h) : Gd Y Z k n pc (o0 :: o1 :: o2 :: o3 :: o4 :: o5 :: o6 :: o7 :: o8 :: o9 :: o10 :: o11 :: L) (vl lx :: st) h := by
  refine Gd_lstoreG (i := 10) (a := 0) (by show 10 + 1 < _; simp only [List.length_cons]; omega) hd ?_
  have e : g_st2 (o0 :: o1 :: o2 :: o3 :: o4 :: o5 :: o6 :: o7 :: o8 :: o9 :: o10 :: o11 :: L) 10 (vl lx) = o0 :: o1 :: o2 :: o3 :: o4 :: o5 :: o6 :: o7 :: o8 :: o9 :: some (vl lx) :: none :: L := by simp [g_st2, g_clp, g_clr, ho]
  exact e ▸ kk
theorem Gd_iinc10 {o0 o1 o2 o3 o4 o5 o6 o7 o8 o9 : Option g_V} {z : Int} {v : Int32} (ho : g_isl o9 = false) (he : x + Int32.ofInt z = v) (hd : g_D Y pc (.iinc 10 z) 3 pc') (kk : Gd Y Z k n pc' (o0 :: o1 :: o2 :: o3 :: o4 :: o5 :: o6 :: o7 :: o8 :: o9 :: some (vi v) :: L) st h) : Gd Y Z k n pc (o0 :: o1 :: o2 :: o3 :: o4 :: o5 :: o6 :: o7 :: o8 :: o9 :: some (vi x) :: L) st h := by
  refine Gd_iincG (i := 10) (x := x) (by simp) he hd ?_
  have e : g_st1 (o0 :: o1 :: o2 :: o3 :: o4 :: o5 :: o6 :: o7 :: o8 :: o9 :: some (vi x) :: L) 10 (vi v) = o0 :: o1 :: o2 :: o3 :: o4 :: o5 :: o6 :: o7 :: o8 :: o9 :: some (vi v) :: L := by simp [g_st1, g_clp, g_clr, ho]
  exact e ▸ kk
theorem Gd_istore11 {o0 o1 o2 o3 o4 o5 o6 o7 o8 o9 o10 o11 : Option g_V} (ho : g_isl o10 = false) (hd : g_D Y pc (.istore 11) 2 pc') (kk : Gd Y Z k n pc' (o0 :: o1 :: o2 :: o3 :: o4 :: o5 :: o6 :: o7 :: o8 :: o9 :: o10 :: some (vi x) :: L) st h) : Gd Y Z k n pc (o0 :: o1 :: o2 :: o3 :: o4 :: o5 :: o6 :: o7 :: o8 :: o9 :: o10 :: o11 :: L) (vi x :: st) h := by
  refine Gd_istoreG (i := 11) (a := 0) (by show 11 < _; simp only [List.length_cons]; omega) hd ?_
  have e : g_st1 (o0 :: o1 :: o2 :: o3 :: o4 :: o5 :: o6 :: o7 :: o8 :: o9 :: o10 :: o11 :: L) 11 (vi x) = o0 :: o1 :: o2 :: o3 :: o4 :: o5 :: o6 :: o7 :: o8 :: o9 :: o10 :: some (vi x) :: L := by simp [g_st1, g_clp, g_clr, ho]
  exact e ▸ kk
theorem Gd_astore11 {o0 o1 o2 o3 o4 o5 o6 o7 o8 o9 o10 o11 : Option g_V} {a : Nat} (ho : g_isl o10 = false) (hd : g_D Y pc (.astore 11) 2 pc') (kk : Gd Y Z k n pc' (o0 :: o1 :: o2 :: o3 :: o4 :: o5 :: o6 :: o7 :: o8 :: o9 :: o10 :: some (vr a) :: L) st h) : Gd Y Z k n pc (o0 :: o1 :: o2 :: o3 :: o4 :: o5 :: o6 :: o7 :: o8 :: o9 :: o10 :: o11 :: L) (vr a :: st) h := by
  refine Gd_astoreG (i := 11) (by show 11 < _; simp only [List.length_cons]; omega) hd ?_
  have e : g_st1 (o0 :: o1 :: o2 :: o3 :: o4 :: o5 :: o6 :: o7 :: o8 :: o9 :: o10 :: o11 :: L) 11 (vr a) = o0 :: o1 :: o2 :: o3 :: o4 :: o5 :: o6 :: o7 :: o8 :: o9 :: o10 :: some (vr a) :: L := by simp [g_st1, g_clp, g_clr, ho]
  exact e ▸ kk
theorem Gd_lstore11 {o0 o1 o2 o3 o4 o5 o6 o7 o8 o9 o10 o11 o12 : Option g_V} (ho : g_isl o10 = false) (hd : g_D Y pc (.lstore 11) 2 pc') (kk : Gd Y Z k n pc' (o0 :: o1 :: o2 :: o3 :: o4 :: o5 :: o6 :: o7 :: o8 :: o9 :: o10 :: some (vl lx) :: none :: L) st h) : Gd Y Z k n pc (o0 :: o1 :: o2 :: o3 :: o4 :: o5 :: o6 :: o7 :: o8 :: o9 :: o10 :: o11 :: o12 :: L) (vl lx :: st) h := by
  refine Gd_lstoreG (i := 11) (a := 0) (by show 11 + 1 < _; simp only [List.length_cons]; omega) hd ?_
  have e : g_st2 (o0 :: o1 :: o2 :: o3 :: o4 :: o5 :: o6 :: o7 :: o8 :: o9 :: o10 :: o11 :: o12 :: L) 11 (vl lx) = o0 :: o1 :: o2 :: o3 :: o4 :: o5 :: o6 :: o7 :: o8 :: o9 :: o10 :: some (vl lx) :: none :: L := by simp [g_st2, g_clp, g_clr, ho]
  exact e ▸ kk
theorem Gd_iinc11 {o0 o1 o2 o3 o4 o5 o6 o7 o8 o9 o10 : Option g_V} {z : Int} {v : Int32} (ho : g_isl o10 = false) (he : x + Int32.ofInt z = v) (hd : g_D Y pc (.iinc 11 z) 3 pc') (kk : Gd Y Z k n pc' (o0 :: o1 :: o2 :: o3 :: o4 :: o5 :: o6 :: o7 :: o8 :: o9 :: o10 :: some (vi v) :: L) st h) : Gd Y Z k n pc (o0 :: o1 :: o2 :: o3 :: o4 :: o5 :: o6 :: o7 :: o8 :: o9 :: o10 :: some (vi x) :: L) st h := by
  refine Gd_iincG (i := 11) (x := x) (by simp) he hd ?_
  have e : g_st1 (o0 :: o1 :: o2 :: o3 :: o4 :: o5 :: o6 :: o7 :: o8 :: o9 :: o10 :: some (vi x) :: L) 11 (vi v) = o0 :: o1 :: o2 :: o3 :: o4 :: o5 :: o6 :: o7 :: o8 :: o9 :: o10 :: some (vi v) :: L := by simp [g_st1, g_clp, g_clr, ho]
  exact e ▸ kk
theorem Gd_istore12 {o0 o1 o2 o3 o4 o5 o6 o7 o8 o9 o10 o11 o12 : Option g_V} (ho : g_isl o11 = false) (hd : g_D Y pc (.istore 12) 2 pc') (kk : Gd Y Z k n pc' (o0 :: o1 :: o2 :: o3 :: o4 :: o5 :: o6 :: o7 :: o8 :: o9 :: o10 :: o11 :: some (vi x) :: L) st h) : Gd Y Z k n pc (o0 :: o1 :: o2 :: o3 :: o4 :: o5 :: o6 :: o7 :: o8 :: o9 :: o10 :: o11 :: o12 :: L) (vi x :: st) h := by
  refine Gd_istoreG (i := 12) (a := 0) (by show 12 < _; simp only [List.length_cons]; omega) hd ?_
  have e : g_st1 (o0 :: o1 :: o2 :: o3 :: o4 :: o5 :: o6 :: o7 :: o8 :: o9 :: o10 :: o11 :: o12 :: L) 12 (vi x) = o0 :: o1 :: o2 :: o3 :: o4 :: o5 :: o6 :: o7 :: o8 :: o9 :: o10 :: o11 :: some (vi x) :: L := by simp [g_st1, g_clp, g_clr, ho]
  exact e ▸ kk
theorem Gd_astore12 {o0 o1 o2 o3 o4 o5 o6 o7 o8 o9 o10 o11 o12 : Option g_V} {a : Nat} (ho : g_isl o11 = false) (hd : g_D Y pc (.astore 12) 2 pc') (kk : Gd Y Z k n pc' (o0 :: o1 :: o2 :: o3 :: o4 :: o5 :: o6 :: o7 :: o8 :: o9 :: o10 :: o11 :: some (vr a) :: L) st h) : Gd Y Z k n pc (o0 :: o1 :: o2 :: o3 :: o4 :: o5 :: o6 :: o7 :: o8 :: o9 :: o10 :: o11 :: o12 :: L) (vr a :: st) h := by
  refine Gd_astoreG (i := 12) (by show 12 < _; simp only [List.length_cons]; omega) hd ?_
  have e : g_st1 (o0 :: o1 :: o2 :: o3 :: o4 :: o5 :: o6 :: o7 :: o8 :: o9 :: o10 :: o11 :: o12 :: L) 12 (vr a) = o0 :: o1 :: o2 :: o3 :: o4 :: o5 :: o6 :: o7 :: o8 :: o9 :: o10 :: o11 :: some (vr a) :: L := by simp [g_st1, g_clp, g_clr, ho]
  exact e ▸ kk
theorem Gd_lstore12 {o0 o1 o2 o3 o4 o5 o6 o7 o8 o9 o10 o11 o12 o13 : Option g_V} (ho : g_isl o11 = false) (hd : g_D Y pc (.lstore 12) 2 pc') (kk : Gd Y Z k n pc' (o0 :: o1 :: o2 :: o3 :: o4 :: o5 :: o6 :: o7 :: o8 :: o9 :: o10 :: o11 :: some (vl lx) :: none :: L) st h) : Gd Y Z k n pc (o0 :: o1 :: o2 :: o3 :: o4 :: o5 :: o6 :: o7 :: o8 :: o9 :: o10 :: o11 :: o12 :: o13 :: L) (vl lx :: st) h := by
  refine Gd_lstoreG (i := 12) (a := 0) (by show 12 + 1 < _; simp only [List.length_cons]; omega) hd ?_
  have e : g_st2 (o0 :: o1 :: o2 :: o3 :: o4 :: o5 :: o6 :: o7 :: o8 :: o9 :: o10 :: o11 :: o12 :: o13 :: L) 12 (vl lx) = o0 :: o1 :: o2 :: o3 :: o4 :: o5 :: o6 :: o7 :: o8 :: o9 :: o10 :: o11 :: some (vl lx) :: none :: L := by simp [g_st2, g_clp, g_clr, ho]
  exact e ▸ kk
theorem Gd_iinc12 {o0 o1 o2 o3 o4 o5 o6 o7 o8 o9 o10 o11 : Option g_V} {z : Int} {v : Int32} (ho : g_isl o11 = false) (he : x + Int32.ofInt z = v) (hd : g_D Y pc (.iinc 12 z) 3 pc') (kk : Gd Y Z k n pc' (o0 :: o1 :: o2 :: o3 :: o4 :: o5 :: o6 :: o7 :: o8 :: o9 :: o10 :: o11 :: some (vi v) :: L) st h) : Gd Y Z k n pc (o0 :: o1 :: o2 :: o3 :: o4 :: o5 :: o6 :: o7 :: o8 :: o9 :: o10 :: o11 :: some (vi x) :: L) st h := by
  refine Gd_iincG (i := 12) (x := x) (by simp) he hd ?_
  have e : g_st1 (o0 :: o1 :: o2 :: o3 :: o4 :: o5 :: o6 :: o7 :: o8 :: o9 :: o10 :: o11 :: some (vi x) :: L) 12 (vi v) = o0 :: o1 :: o2 :: o3 :: o4 :: o5 :: o6 :: o7 :: o8 :: o9 :: o10 :: o11 :: some (vi v) :: L := by simp [g_st1, g_clp, g_clr, ho]
  exact e ▸ kk
theorem Gd_istore13 {o0 o1 o2 o3 o4 o5 o6 o7 o8 o9 o10 o11 o12 o13 : Option g_V} (ho : g_isl o12 = false) (hd : g_D Y pc (.istore 13) 2 pc') (kk : Gd Y Z k n pc' (o0 :: o1 :: o2 :: o3 :: o4 :: o5 :: o6 :: o7 :: o8 :: o9 :: o10 :: o11 :: o12 :: some (vi x) :: L) st h) : Gd Y Z k n pc (o0 :: o1 :: o2 :: o3 :: o4 :: o5 :: o6 :: o7 :: o8 :: o9 :: o10 :: o11 :: o12 :: o13 :: L) (vi x :: st) h := by
  refine Gd_istoreG (i := 13) (a := 0) (by show 13 < _; simp only [List.length_cons]; omega) hd ?_
  have e : g_st1 (o0 :: o1 :: o2 :: o3 :: o4 :: o5 :: o6 :: o7 :: o8 :: o9 :: o10 :: o11 :: o12 :: o13 :: L) 13 (vi x) = o0 :: o1 :: o2 :: o3 :: o4 :: o5 :: o6 :: o7 :: o8 :: o9 :: o10 :: o11 :: o12 :: some (vi x) :: L := by simp [g_st1, g_clp, g_clr, ho]
  exact e ▸ kk
theorem Gd_astore13 {o0 o1 o2 o3 o4 o5 o6 o7 o8 o9 o10 o11 o12 o13 : Option g_V} {a : Nat} (ho : g_isl o12 = false) (hd : g_D Y pc (.astore 13) 2 pc') (kk : Gd Y Z k n pc' (o0 :: o1 :: o2 :: o3 :: o4 :: o5 :: o6 :: o7 :: o8 :: o9 :: o10 :: o11 :: o12 :: some (vr a) :: L) st h) : Gd Y Z k n pc (o0 :: o1 :: o2 :: o3 :: o4 :: o5 :: o6 :: o7 :: o8 :: o9 :: o10 :: o11 :: o12 :: o13 :: L) (vr a :: st) h := by
  refine Gd_astoreG (i := 13) (by show 13 < _; simp only [List.length_cons]; omega) hd ?_
  have e : g_st1 (o0 :: o1 :: o2 :: o3 :: o4 :: o5 :: o6 :: o7 :: o8 :: o9 :: o10 :: o11 :: o12 :: o13 :: L) 13 (vr a) = o0 :: o1 :: o2 :: o3 :: o4 :: o5 :: o6 :: o7 :: o8 :: o9 :: o10 :: o11 :: o12 :: some (vr a) :: L := by simp [g_st1, g_clp, g_clr, ho]
  exact e ▸ kk
theorem Gd_lstore13 {o0 o1 o2 o3 o4 o5 o6 o7 o8 o9 o10 o11 o12 o13 o14 : Option g_V} (ho : g_isl o12 = false) (hd : g_D Y pc (.lstore 13) 2 pc') (kk : Gd Y Z k n pc' (o0 :: o1 :: o2 :: o3 :: o4 :: o5 :: o6 :: o7 :: o8 :: o9 :: o10 :: o11 :: o12 :: some (vl lx) :: none :: L) st h) : Gd Y Z k n pc (o0 :: o1 :: o2 :: o3 :: o4 :: o5 :: o6 :: o7 :: o8 :: o9 :: o10 :: o11 :: o12 :: o13 :: o14 :: L) (vl lx :: st) h := by
  refine Gd_lstoreG (i := 13) (a := 0) (by show 13 + 1 < _; simp only [List.length_cons]; omega) hd ?_
  have e : g_st2 (o0 :: o1 :: o2 :: o3 :: o4 :: o5 :: o6 :: o7 :: o8 :: o9 :: o10 :: o11 :: o12 :: o13 :: o14 :: L) 13 (vl lx) = o0 :: o1 :: o2 :: o3 :: o4 :: o5 :: o6 :: o7 :: o8 :: o9 :: o10 :: o11 :: o12 :: some (vl lx) :: none :: L := by simp [g_st2, g_clp, g_clr, ho]
  exact e ▸ kk
theorem Gd_iinc13 {o0 o1 o2 o3 o4 o5 o6 o7 o8 o9 o10 o11 o12 : Option g_V} {z : Int} {v : Int32} (ho : g_isl o12 = false) (he : x + Int32.ofInt z = v) (hd : g_D Y pc (.iinc 13 z) 3 pc') (kk : Gd Y Z k n pc' (o0 :: o1 :: o2 :: o3 :: o4 :: o5 :: o6 :: o7 :: o8 :: o9 :: o10 :: o11 :: o12 :: some (vi v) :: L) st h) : Gd Y Z k n pc (o0 :: o1 :: o2 :: o3 :: o4 :: o5 :: o6 :: o7 :: o8 :: o9 :: o10 :: o11 :: o12 :: some (vi x) :: L) st h := by
  refine Gd_iincG (i := 13) (x := x) (by simp) he hd ?_
  have e : g_st1 (o0 :: o1 :: o2 :: o3 :: o4 :: o5 :: o6 :: o7 :: o8 :: o9 :: o10 :: o11 :: o12 :: some (vi x) :: L) 13 (vi v) = o0 :: o1 :: o2 :: o3 :: o4 :: o5 :: o6 :: o7 :: o8 :: o9 :: o10 :: o11 :: o12 :: some (vi v) :: L := by simp [g_st1, g_clp, g_clr, ho]
  exact e ▸ kk
end GS
end
section
theorem g_T0 (ws : List Cond) (h1 : ws.all (fun w => decide (w ∈ tables_1) && goodWord w) = true) : ∀ w ∈ ws, w ∈ g_T := by
  intro w hw
  have h2 := List.all_eq_true.mp h1 w hw
  simp only [Bool.and_eq_true, decide_eq_true_eq] at h2
  exact List.mem_filter.mpr ⟨List.mem_append_right _ h2.1, h2.2⟩
theorem g_T0_0 : ∀ w ∈ wsX00, w ∈ g_T := g_T0 _ (by decide +kernel)
theorem g_T0_1 : ∀ w ∈ wsX10, w ∈ g_T := g_T0 _ (by decide +kernel)
theorem g_T0_2 : ∀ w ∈ wsX20, w ∈ g_T := g_T0 _ (by decide +kernel)
theorem g_T0_3 : ∀ w ∈ wsX30, w ∈ g_T := g_T0 _ (by decide +kernel)
theorem g_T0_4 : ∀ w ∈ wsX40, w ∈ g_T := g_T0 _ (by decide +kernel)
theorem g_T0_5 : ∀ w ∈ wsX50, w ∈ g_T := g_T0 _ (by decide +kernel)
theorem g_T0_6 : ∀ w ∈ wsX60, w ∈ g_T := g_T0 _ (by decide +kernel)
theorem g_T0_7 : ∀ w ∈ wsX70, w ∈ g_T := g_T0 _ (by decide +kernel)
theorem g_T0_8 : ∀ w ∈ wsX80, w ∈ g_T := g_T0 _ (by decide +kernel)
theorem g_cls {c : Nat} {C : String} {T : u_T} {N : Nat} (h : vwCl[c]? = some (C, T, N)) : (∀ w ∈ u_ws C T N, w ∈ g_T) ∧ (∀ k, k < N → parseFieldDescriptor (T k).2.2.1 = some (g_ty c k)) ∧ (∀ a, a < N → ∀ b, b < N → a ≠ b → (T a).2.1 ≠ (T b).2.1) := by
  match c, h with
  | 0, h => cases h; exact ⟨g_T0_0, tyX0_ok, nmX0⟩
  | 1, h => cases h; exact ⟨g_T0_1, tyX1_ok, nmX1⟩
  | 2, h => cases h; exact ⟨g_T0_2, tyX2_ok, nmX2⟩
  | 3, h => cases h; exact ⟨g_T0_3, tyX3_ok, nmX3⟩
  | 4, h => cases h; exact ⟨g_T0_4, tyX4_ok, nmX4⟩
  | 5, h => cases h; exact ⟨g_T0_5, tyX5_ok, nmX5⟩
  | 6, h => cases h; exact ⟨g_T0_6, tyX6_ok, nmX6⟩
  | 7, h => cases h; exact ⟨g_T0_7, tyX7_ok, nmX7⟩
  | 8, h => cases h; exact ⟨g_T0_8, tyX8_ok, nmX8⟩
  | c + 9, h => simp [vwCl] at h
/-- the field j of class c is what the pool of own has at idx; nf fields; of kind kd -/
def g_F (own : String) (idx c j nf kd : Nat) (fin : Bool) : Prop := ∃ (C : String) (T : u_T), vwCl[c]? = some (C, T, nf) ∧ c < 20 ∧ j < nf ∧ g_fk c j = kd ∧ (T j).2.2.2 = fin ∧ Cond.fieldLink own idx (T j).1 (T j).2.1 (T j).2.2.1 ∈ g_T
section GH
variable {Y : g_Y} {Z : g_Z} {k n pc pc' : Nat} {L : List (Option g_V)} {st : List g_V} {sh : List (Nat × Nat)} {a : Nat → Nat → Int32} {r : Nat → Nat → Option Nat} {g : Nat → Nat → Int64} {b idx c j nf : Nat} {fin : Bool}
theorem g_get {v : g_V} (hf : ∃ kd, g_F Y.1.cls idx c j nf kd fin) (hb : sh[b]? = some (c, nf)) (hv : ∀ (aK : Nat → Value) (ad : Nat → Nat), g_fv ad (sh, a, r, g) c b j = gc aK ad v) (hd : g_D Y pc (.getfield idx) 3 pc') (kk : Gd Y Z k n pc' L (v :: st) (sh, a, r, g)) : Gd Y Z k n pc L (vr b :: st) (sh, a, r, g) := by
  intro p l e R s m args below meth cc D cs aK A ad0 QS H locs ad ls C RR Wd Ad hl
  obtain ⟨hd, rfl⟩ := hd
  obtain ⟨kd, CC, T, hc, hc20, hj, hk, hfin, hlink⟩ := hf
  obtain ⟨c1, c2, c3⟩ := g_cls hc
  refine va_get (D := D) (ci := c) (C := CC) (T := T) (N := nf) (Ts := g_T) (ref := (T j).1) (fs := (List.range nf).map (g_fv ad (sh, a, r, g) c b)) (v := gc aK ad v) C.1 C.2.1 C.2.2.2.2.1 c1 C.2.2.2.1 C.2.2.2.2.2.2.2.2.2.1 Wd.1 b ?_ hc j hj (C.2.2.2.2.1 _ hlink) (fun _ q => q) ?_ hd (kk p l e R s m args below meth cc D cs aK A ad0 QS H locs ad ls C RR Wd Ad hl)
  · rw [g_cw_at (g_sh_lt (h := (sh, a, r, g)) hb), g_ce_ob (h := (sh, a, r, g)) hb hc20]
  · simp [hj, hv aK ad]
theorem Gd_getI (hf : g_F Y.1.cls idx c j nf 0 fin) (hb : sh[b]? = some (c, nf)) (hd : g_D Y pc (.getfield idx) 3 pc') (kk : Gd Y Z k n pc' L (vi (a b j) :: st) (sh, a, r, g)) : Gd Y Z k n pc L (vr b :: st) (sh, a, r, g) :=
  g_get ⟨_, hf⟩ hb (fun aK ad => by obtain ⟨_, _, _, _, _, hk, _⟩ := hf; simp [g_fv, hk, gc]) hd kk
theorem Gd_getZ (hf : g_F Y.1.cls idx c j nf 3 fin) (hb : sh[b]? = some (c, nf)) (hd : g_D Y pc (.getfield idx) 3 pc') (kk : Gd Y Z k n pc' L (vi (a b j) :: st) (sh, a, r, g)) : Gd Y Z k n pc L (vr b :: st) (sh, a, r, g) :=
  g_get ⟨_, hf⟩ hb (fun aK ad => by obtain ⟨_, _, _, _, _, hk, _⟩ := hf; simp [g_fv, hk, gc]) hd kk
theorem Gd_getL (hf : g_F Y.1.cls idx c j nf 1 fin) (hb : sh[b]? = some (c, nf)) (hd : g_D Y pc (.getfield idx) 3 pc') (kk : Gd Y Z k n pc' L (vl (g b j) :: st) (sh, a, r, g)) : Gd Y Z k n pc L (vr b :: st) (sh, a, r, g) :=
  g_get ⟨_, hf⟩ hb (fun aK ad => by obtain ⟨_, _, _, _, _, hk, _⟩ := hf; simp [g_fv, hk, gc]) hd kk
theorem Gd_getR {q : Nat} (hf : g_F Y.1.cls idx c j nf 2 fin) (hb : sh[b]? = some (c, nf)) (hr : r b j = some q) (hd : g_D Y pc (.getfield idx) 3 pc') (kk : Gd Y Z k n pc' L (vr q :: st) (sh, a, r, g)) : Gd Y Z k n pc L (vr b :: st) (sh, a, r, g) :=
  g_get ⟨_, hf⟩ hb (fun aK ad => by obtain ⟨_, _, _, _, _, hk, _⟩ := hf; simp [g_fv, hk, gc, hr]) hd kk
theorem g_fsset {ad : Nat → Nat} {h h' : g_H} {c b j nf : Nat} {v : Value} (hv : g_fv ad h' c b j = v) (ho : ∀ i, i ≠ j → g_fv ad h' c b i = g_fv ad h c b i) : ((List.range nf).map (g_fv ad h c b)).set j v = (List.range nf).map (g_fv ad h' c b) := by
  apply List.ext_getElem?
  intro i
  rw [List.getElem?_set]
  by_cases e : j = i
  · subst e
    by_cases hi : j < nf
    · simp [hi, hv]
    · simp [hi]
  · rw [if_neg e]
    by_cases hi : i < nf
    · simp [hi, ho i (fun q => e q.symm)]
    · simp [hi]
theorem g_put {h' : g_H} {v : g_V} {kd : Nat} {ty : FieldType} (hf : g_F Y.1.cls idx c j nf kd fin) (hin : fin = true → Y.1.name = "<init>") (hdecl : fin = true → ∀ (C : String) (T : u_T), vwCl[c]? = some (C, T, nf) → (T j).1 = Y.1.cls) (hb : sh[b]? = some (c, nf)) (hl' : h'.1 = sh) (hty : g_ty c j = ty) (hn : ∀ (aK : Nat → Value) (ad : Nat → Nat), narrow ty (gc aK ad v) = gc aK ad v ∧ fits ty (gc aK ad v) = true)
    (hv : ∀ (aK : Nat → Value) (ad : Nat → Nat), g_fv ad h' c b j = gc aK ad v) (ho : ∀ (ad : Nat → Nat) (i : Nat), i ≠ j → g_fv ad h' c b i = g_fv ad (sh, a, r, g) c b i) (hoc : ∀ (cs : Nat → ClassId) (ad : Nat → Nat) (i : Nat), i ≠ b → g_ce cs ad h' i = g_ce cs ad (sh, a, r, g) i)
    (hd : g_D Y pc (.putfield idx) 3 pc') (kk : Gd Y Z k n pc' L st h') : Gd Y Z k n pc L (v :: vr b :: st) (sh, a, r, g) := by
  intro p l e R s m args below meth cc D cs aK A ad0 QS H locs ad ls C RR Wd Ad hl
  obtain ⟨hd, rfl⟩ := hd
  obtain ⟨CC, T, hc, hc20, hj, hk, hfin, hlink⟩ := hf
  obtain ⟨c1, c2, c3⟩ := g_cls hc
  have he : (g_cw cs ad (sh, a, r, g))[b]? = some (ad b, .inr (c, (List.range nf).map (g_fv ad (sh, a, r, g) c b))) := by
    rw [g_cw_at (g_sh_lt (h := (sh, a, r, g)) hb), g_ce_ob (h := (sh, a, r, g)) hb hc20]
  have hset : (g_cw cs ad (sh, a, r, g)).set b (ad b, .inr (c, ((List.range nf).map (g_fv ad (sh, a, r, g) c b)).set j (gc aK ad v))) = g_cw cs ad h' := by
    refine g_cw_set hl' ?_ (hoc cs ad)
    rw [g_ce_ob (h := h') (by rw [hl']; exact hb) hc20, g_fsset (hv aK ad) (ho ad)]
  have hlen : h'.1.length = sh.length := by rw [hl']
  subst hty
  cases fin with
  | false =>
    refine va_put (D := D) (ci := c) (C := CC) (T := T) (N := nf) (Ts := g_T) (ref := (T j).1) (fs := (List.range nf).map (g_fv ad (sh, a, r, g) c b)) (v := gc aK ad v) C.1 C.2.1 C.2.2.2.2.1 c1 (g_ty c) c2 c3 C.2.2.2.1 C.2.2.2.2.2.2.2.2.2.1 Wd.1 Wd.2.1 Wd.2.2 b he hc j hj (C.2.2.2.2.1 _ hlink) (fun _ q => q) hfin (c2 j hj) (hn aK ad).1 (hn aK ad).2 (by simp [hj]) hd (fun H1 locs1 hP hD hS => ?_)
    rw [hset] at hP hD
    exact kk p l e R s m args below meth cc D cs aK A ad0 QS H1 locs1 ad ls C RR ⟨hP, hD, hS⟩ (by rw [hlen]; exact Ad) hl
  | true =>
    refine va_putF (D := D) (ci := c) (C := CC) (T := T) (N := nf) (Ts := g_T) (ref := (T j).1) (fs := (List.range nf).map (g_fv ad (sh, a, r, g) c b)) (v := gc aK ad v) C.1 C.2.1 C.2.2.2.2.1 c1 (g_ty c) c2 c3 C.2.2.2.1 C.2.2.2.2.2.2.2.2.2.1 Wd.1 Wd.2.1 Wd.2.2 b he hc j hj (C.2.2.2.2.1 _ hlink) (fun _ q => q) hfin (by rw [C.2.2.2.2.2.2.1]; exact hin rfl) (hdecl rfl _ _ hc) (c2 j hj) (hn aK ad).1 (hn aK ad).2 (by simp [hj]) hd (fun H1 locs1 hP hD hS => ?_)
    rw [hset] at hP hD
    exact kk p l e R s m args below meth cc D cs aK A ad0 QS H1 locs1 ad ls C RR ⟨hP, hD, hS⟩ (by rw [hlen]; exact Ad) hl
end GH
end
section
theorem g_fk0 {c j : Nat} (h : g_fk c j = 0) : g_ty c j = .int := by
  unfold g_fk at h
  generalize g_ty c j = t at h ⊢
  cases t <;> simp [g_fkt] at h ⊢
theorem g_fk1 {c j : Nat} (h : g_fk c j = 1) : g_ty c j = .long := by
  unfold g_fk at h
  generalize g_ty c j = t at h ⊢
  cases t <;> simp [g_fkt] at h ⊢
theorem g_fk3 {c j : Nat} (h : g_fk c j = 3) : g_ty c j = .boolean := by
  unfold g_fk at h
  generalize g_ty c j = t at h ⊢
  cases t <;> simp [g_fkt] at h ⊢
theorem g_fk2 {c j : Nat} (h : g_fk c j = 2) : (∃ n, g_ty c j = .object n) ∨ ∃ t, g_ty c j = .array t := by
  unfold g_fk at h
  generalize g_ty c j = t at h ⊢
  cases t <;> simp [g_fkt] at h ⊢
theorem g_nrR {ty : FieldType} (h : (∃ n, ty = .object n) ∨ ∃ t, ty = .array t) (x : Nat) : narrow ty (.ref x) = .ref x ∧ fits ty (.ref x) = true := by
  rcases h with ⟨n, rfl⟩ | ⟨t, rfl⟩ <;> exact ⟨rfl, rfl⟩
theorem g_ce_congr {cs : Nat → ClassId} {ad ad' : Nat → Nat} {h h' : g_H} {i : Nat} (h1 : h'.1.getD i (0, 0) = h.1.getD i (0, 0)) (h2 : ∀ j, h'.2.1 i j = h.2.1 i j) (h3 : ∀ j, (h'.2.2.1 i j).map ad' = (h.2.2.1 i j).map ad) (h4 : ∀ j, h'.2.2.2 i j = h.2.2.2 i j) : g_ce cs ad' h' i = g_ce cs ad h i := by
  have e2 : h'.2.1 i = h.2.1 i := funext h2
  have e3 : (fun j => (h'.2.2.1 i j).map ad') = (fun j => (h.2.2.1 i j).map ad) := funext h3
  have e5 : ∀ c, g_fv ad' h' c i = g_fv ad h c i := fun c => funext fun j => by simp only [g_fv, h2, h3, h4]
  unfold g_ce
  rw [h1, e2, e3, e5]
section GH2
variable {Y : g_Y} {Z : g_Z} {k n pc pc' : Nat} {L : List (Option g_V)} {st : List g_V} {sh : List (Nat × Nat)} {a : Nat → Nat → Int32} {r : Nat → Nat → Option Nat} {g : Nat → Nat → Int64} {b idx c j nf : Nat} {fin : Bool} {x : Int32} {lx : Int64}
theorem Gd_putI (hf : g_F Y.1.cls idx c j nf 0 false) (hb : sh[b]? = some (c, nf)) (hd : g_D Y pc (.putfield idx) 3 pc') (kk : Gd Y Z k n pc' L st (sh, up2 a b j x, r, g)) : Gd Y Z k n pc L (vi x :: vr b :: st) (sh, a, r, g) := by
  have hk : g_fk c j = 0 := by obtain ⟨_, _, _, _, _, hk, _⟩ := hf; exact hk
  exact g_put (h' := (sh, up2 a b j x, r, g)) hf (fun q => by cases q) (fun q => by cases q) hb rfl (g_fk0 hk) (fun aK ad => ⟨vp_nar_int x, rfl⟩) (fun aK ad => by simp [g_fv, hk, gc, up2]) (fun ad i hi => by simp [g_fv, up2, hi]) (fun cs ad i hi => g_ce_congr rfl (fun j => up2_k a x hi) (fun j => rfl) (fun j => rfl)) hd kk
theorem Gd_putZ (hf : g_F Y.1.cls idx c j nf 3 false) (hx : x = 0 ∨ x = 1) (hb : sh[b]? = some (c, nf)) (hd : g_D Y pc (.putfield idx) 3 pc') (kk : Gd Y Z k n pc' L st (sh, up2 a b j x, r, g)) : Gd Y Z k n pc L (vi x :: vr b :: st) (sh, a, r, g) := by
  have hk : g_fk c j = 3 := by obtain ⟨_, _, _, _, _, hk, _⟩ := hf; exact hk
  exact g_put (h' := (sh, up2 a b j x, r, g)) hf (fun q => by cases q) (fun q => by cases q) hb rfl (g_fk3 hk) (fun aK ad => by rcases hx with rfl | rfl <;> exact ⟨rfl, rfl⟩) (fun aK ad => by simp [g_fv, hk, gc, up2]) (fun ad i hi => by simp [g_fv, up2, hi]) (fun cs ad i hi => g_ce_congr rfl (fun j => up2_k a x hi) (fun j => rfl) (fun j => rfl)) hd kk
theorem Gd_putL (hf : g_F Y.1.cls idx c j nf 1 false) (hb : sh[b]? = some (c, nf)) (hd : g_D Y pc (.putfield idx) 3 pc') (kk : Gd Y Z k n pc' L st (sh, a, r, upL g b j lx)) : Gd Y Z k n pc L (vl lx :: vr b :: st) (sh, a, r, g) := by
  have hk : g_fk c j = 1 := by obtain ⟨_, _, _, _, _, hk, _⟩ := hf; exact hk
  exact g_put (h' := (sh, a, r, upL g b j lx)) hf (fun q => by cases q) (fun q => by cases q) hb rfl (g_fk1 hk) (fun aK ad => ⟨rfl, rfl⟩) (fun aK ad => by simp [g_fv, hk, gc, upL]) (fun ad i hi => by simp [g_fv, upL, hi]) (fun cs ad i hi => g_ce_congr rfl (fun j => rfl) (fun j => rfl) (fun j => by simp [upL, hi])) hd kk
theorem Gd_putR {q : Nat} (hf : g_F Y.1.cls idx c j nf 2 true) (hin : Y.1.name = "<init>") (hdecl : ∀ (C : String) (T : u_T), vwCl[c]? = some (C, T, nf) → (T j).1 = Y.1.cls) (hb : sh[b]? = some (c, nf)) (hd : g_D Y pc (.putfield idx) 3 pc') (kk : Gd Y Z k n pc' L st (sh, a, upR r b j (some q), g)) : Gd Y Z k n pc L (vr q :: vr b :: st) (sh, a, r, g) := by
  have hk : g_fk c j = 2 := by obtain ⟨_, _, _, _, _, hk, _⟩ := hf; exact hk
  exact g_put (h' := (sh, a, upR r b j (some q), g)) hf (fun _ => hin) (fun _ => hdecl) hb rfl rfl (fun aK ad => g_nrR (g_fk2 hk) (ad q)) (fun aK ad => by simp [g_fv, hk, gc, upR]) (fun ad i hi => by simp [g_fv, upR, hi]) (fun cs ad i hi => g_ce_congr rfl (fun j => rfl) (fun j => by simp [upR, hi]) (fun j => rfl)) hd kk
theorem Gd_iald {w9 : Nat} (hb : sh[b]? = some (20, w9)) (hin : vp_in x w9) (hd : g_D Y pc .iaload 1 pc') (kk : Gd Y Z k n pc' L (vi (a b x.toNatClampNeg) :: st) (sh, a, r, g)) : Gd Y Z k n pc L (vi x :: vr b :: st) (sh, a, r, g) := by
  intro p l e R s m args below meth cc D cs aK A ad0 QS H locs ad ls C RR Wd Ad hl
  obtain ⟨hd, rfl⟩ := hd
  exact va_iald (cA := cs 20) (n := w9) (f := a b) C.1 C.2.1 C.2.2.2.2.2.2.2.2.2.1 Wd.1 b 0 (by rw [g_cw_at (g_sh_lt (h := (sh, a, r, g)) hb), g_ce_ia (h := (sh, a, r, g)) hb]) rfl hin hd (kk p l e R s m args below meth cc D cs aK A ad0 QS H locs ad ls C RR Wd Ad hl)
theorem Gd_iast {w9 : Nat} {v : Int32} (hb : sh[b]? = some (20, w9)) (hin : vp_in x w9) (hd : g_D Y pc .iastore 1 pc') (kk : Gd Y Z k n pc' L st (sh, up2 a b x.toNatClampNeg v, r, g)) : Gd Y Z k n pc L (vi v :: vi x :: vr b :: st) (sh, a, r, g) := by
  intro p l e R s m args below meth cc D cs aK A ad0 QS H locs ad ls C RR Wd Ad hl
  obtain ⟨hd, rfl⟩ := hd
  have hset : (g_cw cs ad (sh, a, r, g)).set b (ad b, .inl (cs 20, w9, .inl (upd (a b) x.toNatClampNeg v))) = g_cw cs ad (sh, up2 a b x.toNatClampNeg v, r, g) := by
    refine g_cw_set rfl ?_ (fun i hi => g_ce_congr rfl (fun j => up2_k a v hi) (fun j => rfl) (fun j => rfl))
    rw [g_ce_ia (h := (sh, up2 a b x.toNatClampNeg v, r, g)) hb]
    show _ = Sum.inl (cs 20, w9, Sum.inl (upd (a b) x.toNatClampNeg v))
    rw [← up2_row]
  refine va_iast (cA := cs 20) (n := w9) (f := a b) C.1 C.2.1 C.2.2.2.2.2.2.2.2.2.1 Wd.1 Wd.2.1 Wd.2.2 b 0 (by rw [g_cw_at (g_sh_lt (h := (sh, a, r, g)) hb), g_ce_ia (h := (sh, a, r, g)) hb]) rfl hin hd (fun H1 locs1 hP hD hS => ?_)
  rw [hset] at hP hD
  exact kk p l e R s m args below meth cc D cs aK A ad0 QS H1 locs1 ad ls C RR ⟨hP, hD, hS⟩ Ad hl
/-- the rows of references: 21 of Sheets, 22 of Texts -/
def g_rc (c : Nat) (t : Nat) (ci : Nat) : Prop := (c = 21 ∧ t = 1 ∧ ci = 4) ∨ (c = 22 ∧ t = 2 ∧ ci = 5)
theorem Gd_aald {w9 t ci : Nat} {o : Option Nat} (hc : g_rc c t ci) (hb : sh[b]? = some (c, w9)) (hin : vp_in x w9) (ho : r b x.toNatClampNeg = o) (hd : g_D Y pc .aaload 1 pc') (kk : Gd Y Z k n pc' L (vo o :: st) (sh, a, r, g)) : Gd Y Z k n pc L (vi x :: vr b :: st) (sh, a, r, g) := by
  intro p l e R s m args below meth cc D cs aK A ad0 QS H locs ad ls C RR Wd Ad hl
  obtain ⟨hd, rfl⟩ := hd
  subst ho
  have k1 := kk p l e R s m args below meth cc D cs aK A ad0 QS H locs ad ls C RR Wd Ad hl
  rcases hc with ⟨rfl, rfl, rfl⟩ | ⟨rfl, rfl, rfl⟩
  · exact va_aldq (cA := cs 21) (n := w9) (f := fun j => (r b j).map ad) (C := RX4) C.1 C.2.1 C.2.2.2.2.2.2.2.2.2.1 Wd.1 b 1 (by rw [g_cw_at (g_sh_lt (h := (sh, a, r, g)) hb), g_ce_ra (h := (sh, a, r, g)) hb (by decide)]) rfl hin hd k1
  · exact va_aldq (cA := cs 22) (n := w9) (f := fun j => (r b j).map ad) (C := RX5) C.1 C.2.1 C.2.2.2.2.2.2.2.2.2.1 Wd.1 b 2 (by rw [g_cw_at (g_sh_lt (h := (sh, a, r, g)) hb), g_ce_ra (h := (sh, a, r, g)) hb (by decide)]) rfl hin hd k1
theorem Gd_aast {w9 t ci v nv : Nat} (hc : g_rc c t ci) (hb : sh[b]? = some (c, w9)) (hv : sh[v]? = some (ci, nv)) (hin : vp_in x w9) (hd : g_D Y pc .aastore 1 pc') (kk : Gd Y Z k n pc' L st (sh, a, upR r b x.toNatClampNeg (some v), g)) : Gd Y Z k n pc L (vr v :: vi x :: vr b :: st) (sh, a, r, g) := by
  intro p l e R s m args below meth cc D cs aK A ad0 QS H locs ad ls C RR Wd Ad hl
  obtain ⟨hd, rfl⟩ := hd
  have h20 : 20 < c := by rcases hc with ⟨rfl, -⟩ | ⟨rfl, -⟩ <;> decide
  have hset : (g_cw cs ad (sh, a, r, g)).set b (ad b, .inl (cs c, w9, .inr (.inr (.inr (.inr (va_up (fun j => (r b j).map ad) x.toNatClampNeg (some (ad v)))))))) = g_cw cs ad (sh, a, upR r b x.toNatClampNeg (some v), g) := by
    refine g_cw_set rfl ?_ (fun i hi => g_ce_congr rfl (fun j => rfl) (fun j => by simp [upR, hi]) (fun j => rfl))
    rw [g_ce_ra (h := (sh, a, upR r b x.toNatClampNeg (some v), g)) hb h20]
    congr 7
    funext i
    by_cases hi : i = x.toNatClampNeg
    · simp [upR, va_up, hi]
    · simp [upR, va_up, hi]
  have fin : ∀ (H1 : Heap) (locs1 : List Loc), va_P D vwCl ((g_cw cs ad (sh, a, r, g)).set b (ad b, .inl (cs c, w9, .inr (.inr (.inr (.inr (va_up (fun j => (r b j).map ad) x.toNatClampNeg (some (ad v))))))))) H1 → va_D A ((g_cw cs ad (sh, a, r, g)).set b (ad b, .inl (cs c, w9, .inr (.inr (.inr (.inr (va_up (fun j => (r b j).map ad) x.toNatClampNeg (some (ad v))))))))) → va_S A s.heap H1 locs1 → W p l e R s m args below meth cc H1 locs1 k n QS (F0 m (pc + 1) ls (st.map (gc aK ad))) := by
    intro H1 locs1 hP hD hS
    rw [hset] at hP hD
    exact kk p l e R s m args below meth cc D cs aK A ad0 QS H1 locs1 ad ls C RR ⟨hP, hD, hS⟩ Ad hl
  rcases hc with ⟨rfl, rfl, rfl⟩ | ⟨rfl, rfl, rfl⟩
  · exact va_astq (cA := cs 21) (n := w9) (f := fun j => (r b j).map ad) (vs := (List.range nv).map (g_fv ad (sh, a, r, g) 4 v)) (r := (RX4, TX4, 3)) (ci := 4) C.1 C.2.1 C.2.2.2.2.2.2.2.2.2.1 Wd.1 Wd.2.1 Wd.2.2 b 1 v (by rw [g_cw_at (g_sh_lt (h := (sh, a, r, g)) hb), g_ce_ra (h := (sh, a, r, g)) hb (by decide)]) rfl (by rw [g_cw_at (g_sh_lt (h := (sh, a, r, g)) hv), g_ce_ob (h := (sh, a, r, g)) hv (by decide)]) rfl hin hd fin
  · exact va_astq (cA := cs 22) (n := w9) (f := fun j => (r b j).map ad) (vs := (List.range nv).map (g_fv ad (sh, a, r, g) 5 v)) (r := (RX5, TX5, 2)) (ci := 5) C.1 C.2.1 C.2.2.2.2.2.2.2.2.2.1 Wd.1 Wd.2.1 Wd.2.2 b 2 v (by rw [g_cw_at (g_sh_lt (h := (sh, a, r, g)) hb), g_ce_ra (h := (sh, a, r, g)) hb (by decide)]) rfl (by rw [g_cw_at (g_sh_lt (h := (sh, a, r, g)) hv), g_ce_ob (h := (sh, a, r, g)) hv (by decide)]) rfl hin hd fin
theorem Gd_alen {w9 : Nat} {v : Int32} (hb : sh[b]? = some (20, w9)) (hv : Int32.ofNat w9 = v) (hd : g_D Y pc .arraylength 1 pc') (kk : Gd Y Z k n pc' L (vi v :: st) (sh, a, r, g)) : Gd Y Z k n pc L (vr b :: st) (sh, a, r, g) := by
  intro p l e R s m args below meth cc D cs aK A ad0 QS H locs ad ls C RR Wd Ad hl
  obtain ⟨hd, rfl⟩ := hd
  exact va_alen (cA := cs 20) C.1 C.2.1 C.2.2.2.2.2.2.2.2.2.1 Wd.1 b 0 (x := (w9, .inl (a b))) (by rw [g_cw_at (g_sh_lt (h := (sh, a, r, g)) hb), g_ce_ia (h := (sh, a, r, g)) hb]) (ty := .int) rfl hv hd (kk p l e R s m args below meth cc D cs aK A ad0 QS H locs ad ls C RR Wd Ad hl)
end GH2
end
section
/-- no reference points beyond N -/
def g_okv (N : Nat) : g_V → Prop
  | .inr (.inr (.inl (some p))) => p < N
  | _ => True
def g_okL (N : Nat) (L : List (Option g_V)) : Prop := ∀ v, some v ∈ L → g_okv N v
def g_okS (N : Nat) (st : List g_V) : Prop := ∀ v ∈ st, g_okv N v
def g_okR (N : Nat) (r : Nat → Nat → Option Nat) : Prop := ∀ x y p, r x y = some p → p < N
/-- the heap with one more cell, all 0 -/
def g_nw (h : g_H) (x : Nat × Nat) : g_H := (h.1 ++ [x], va_up h.2.1 h.1.length (fun _ => 0), va_up h.2.2.1 h.1.length (fun _ => none), va_up h.2.2.2 h.1.length (fun _ => 0))
theorem gc_up {aK : Nat → Value} {ad : Nat → Nat} {N q : Nat} {v : g_V} (h : g_okv N v) : gc aK (va_up ad N q) v = gc aK ad v := by
  rcases v with x | x | r | k
  · rfl
  · rfl
  · cases r with
    | none => rfl
    | some p =>
      have h : p < N := h
      show va_rf (some (va_up ad N q p)) = va_rf (some (ad p))
      rw [show va_up ad N q p = ad p by simp [va_up, Nat.ne_of_lt h]]
  · rfl
theorem gc_upS {aK : Nat → Value} {ad : Nat → Nat} {N q : Nat} {st : List g_V} (h : g_okS N st) : st.map (gc aK (va_up ad N q)) = st.map (gc aK ad) := List.map_congr_left fun v hv => gc_up (h v hv)
theorem g_L_up {aK : Nat → Value} {ad : Nat → Nat} {ls : Array Slot} {nL N q : Nat} {L : List (Option g_V)} (h : g_L aK ad ls nL L) (hL : g_okL N L) : g_L aK (va_up ad N q) ls nL L :=
  g_L_sub h.1 h.2 (fun j w hj => (g_ll_mem L 0 _).mpr ⟨j, w, hj, by rw [gc_up (hL w (List.mem_of_getElem? hj))]; simp⟩)
theorem g_ce_up {cs : Nat → ClassId} {ad : Nat → Nat} {h : g_H} {x : Nat × Nat} {q i : Nat} {a' : Nat → Nat → Int32} {r' : Nat → Nat → Option Nat} {g' : Nat → Nat → Int64} (hr : g_okR h.1.length h.2.2.1) (hi : i < h.1.length) (ha : a' i = h.2.1 i) (hr' : r' i = h.2.2.1 i) (hg : g' i = h.2.2.2 i) : g_ce cs (va_up ad h.1.length q) (h.1 ++ [x], a', r', g') i = g_ce cs ad h i := by
  refine g_ce_congr ?_ (fun j => by show a' i j = _; rw [ha]) (fun j => ?_) (fun j => by show g' i j = _; rw [hg])
  · show (h.1 ++ [x]).getD i (0, 0) = _
    rw [List.getD_eq_getElem?_getD, List.getD_eq_getElem?_getD, List.getElem?_append_left hi]
  · show (r' i j).map _ = _
    rw [hr']
    cases hh : h.2.2.1 i j with
    | none => rfl
    | some p =>
      have := hr i j p hh
      simp [va_up, Nat.ne_of_lt this]
theorem g_sh_last (sh : List (Nat × Nat)) (x : Nat × Nat) : (sh ++ [x])[sh.length]? = some x := by simp
theorem va_up_s {α : Type} (f : Nat → α) (k : Nat) (v : α) : va_up f k v k = v := by simp [va_up]
theorem va_up_n {α : Type} (f : Nat → α) {k j : Nat} (v : α) (h : j ≠ k) : va_up f k v j = f j := by simp [va_up, h]
theorem g_A_up {N0 N q : Nat} {ad0 ad : Nat → Nat} (h : g_A N0 ad0 ad N) : g_A N0 ad0 (va_up ad N q) (N + 1) := by
  obtain ⟨h1, h2, h3⟩ := h
  exact ⟨fun i hi => by rw [va_up_n _ _ (by omega)]; exact h1 i hi, fun e => by omega, by omega⟩
section GA
variable {Y : g_Y} {Z : g_Z} {k n pc pc' : Nat} {L : List (Option g_V)} {st : List g_V} {sh : List (Nat × Nat)} {a : Nat → Nat → Int32} {r : Nat → Nat → Option Nat} {g : Nat → Nat → Int64} {b idx c j nf : Nat} {fin : Bool} {x : Int32} {lx : Int64}
theorem Gd_newa {N' : Nat} (hn : ¬ x < 0) (hN : x.toNatClampNeg = N') (hbig : N' * 4 ≤ 536870912) (hc : k + 1 ≤ Z.2.1) (hs : n + N' ≤ Z.2.2.1) (okr : g_okR sh.length r) (okl : g_okL sh.length L) (oks : g_okS sh.length st) (hw : Cond.arrayClass .int ∈ g_T)
    (hd : g_D Y pc (.newarray .int) 2 pc') (kk : Gd Y Z (k + 1) (n + N') pc' L (vr sh.length :: st) (g_nw (sh, a, r, g) (20, N'))) : Gd Y Z k n pc L (vi x :: st) (sh, a, r, g) := by
  intro p l e R s m args below meth cc D cs aK A ad0 QS H locs ad ls C RR Wd Ad hl
  obtain ⟨hd, rfl⟩ := hd
  have hKt := C.2.2.2.2.2.2.2.2.2.1
  refine va_newa (atype := .int) (ty := .int) (a0 := (N', .inl (fun _ => 0))) C.1 C.2.1 (C.2.2.2.2.1 _ hw) rfl hKt Wd.1 Wd.2.1 Wd.2.2 C.2.2.2.2.2.2.2.1 (fun cA => by rw [vp_cell_i]; rfl) hn hN hbig (Nat.le_trans hc C.2.2.2.2.2.1.2.2.1) (Nat.le_trans hs C.2.2.2.2.2.1.2.2.2) hd (fun q cA H1 hK hP hD hS => ?_)
  have e1 : cA = cs 20 := by
    have h1 := (hK.2 3 (cA, .int) rfl).2
    have h2 := (hKt.2 0 (cs 20, .int) rfl).2
    exact Option.some.inj (h1.symm.trans h2)
  subst e1
  have hpush : g_cw cs ad (sh, a, r, g) ++ [(q, .inl (cs 20, N', .inl (fun _ => 0)))] = g_cw cs (va_up ad sh.length q) (g_nw (sh, a, r, g) (20, N')) := by
    refine g_cw_push (h := (sh, a, r, g)) (x := (20, N')) rfl ?_ (fun i hi => g_ce_up (h := (sh, a, r, g)) okr hi (va_up_n _ _ (Nat.ne_of_lt hi)) (va_up_n _ _ (Nat.ne_of_lt hi)) (va_up_n _ _ (Nat.ne_of_lt hi)))
    rw [g_ce_ia (h := g_nw (sh, a, r, g) (20, N')) (n := N') (g_sh_last _ _)]
    show Sum.inl (cs 20, N', Sum.inl (va_up a sh.length (fun _ => 0) sh.length)) = _
    rw [va_up_s]
  rw [hpush] at hP hD
  have k1 := kk p l e R s m args below meth cc D cs aK A ad0 QS H1 locs (va_up ad sh.length q) ls C RR ⟨hP, hD, hS⟩ (by have := g_A_up (q := q) Ad; simpa [g_nw] using this) (g_L_up hl okl)
  have e2 : (vr sh.length :: st).map (gc aK (va_up ad sh.length q)) = .ref q :: st.map (gc aK ad) := by
    rw [List.map_cons, gc_upS oks]
    show va_rf (some (va_up ad sh.length q sh.length)) :: _ = _
    rw [va_up_s]
    rfl
  rw [e2] at k1
  exact k1
theorem Gd_newq {N' t ci : Nat} {CC : String} (hrc : g_rc c t ci) (hCC : CC = (if c = 21 then RX4 else RX5)) (hn : ¬ x < 0) (hN : x.toNatClampNeg = N') (hbig : N' * 4 ≤ 536870912) (hc : k + 1 ≤ Z.2.1) (hs : n + N' ≤ Z.2.2.1) (okr : g_okR sh.length r) (okl : g_okL sh.length L) (oks : g_okS sh.length st) (hw : Cond.classLink Y.1.cls idx CC ∈ g_T)
    (hd : g_D Y pc (.anewarray idx) 3 pc') (kk : Gd Y Z (k + 1) (n + N') pc' L (vr sh.length :: st) (g_nw (sh, a, r, g) (c, N'))) : Gd Y Z k n pc L (vi x :: st) (sh, a, r, g) := by
  intro p l e R s m args below meth cc D cs aK A ad0 QS H locs ad ls C RR Wd Ad hl
  obtain ⟨hd, rfl⟩ := hd
  have hKt := C.2.2.2.2.2.2.2.2.2.1
  have hO : va_AO CC s := by
    rcases hrc with ⟨rfl, rfl, rfl⟩ | ⟨rfl, rfl, rfl⟩
    · rw [hCC]; exact C.2.2.2.2.2.2.2.2.1.2.2.2.2.2.2.2.1
    · rw [hCC]; exact C.2.2.2.2.2.2.2.2.1.2.2.2.2.2.2.2.2
  have h20 : 20 < c := by rcases hrc with ⟨rfl, -⟩ | ⟨rfl, -⟩ <;> decide
  refine va_newq C.1 C.2.1 C.2.2.2.1 (C.2.2.2.2.1 _ hw) hO hKt Wd.1 Wd.2.1 Wd.2.2 C.2.2.2.2.2.2.2.1 hn hN hbig (Nat.le_trans hc C.2.2.2.2.2.1.2.2.1) (Nat.le_trans hs C.2.2.2.2.2.1.2.2.2) hd (fun q cA H1 hK hP hD hS => ?_)
  have e1 : cA = cs c := by
    obtain ⟨kA, comp, k1, k2, k3, k4⟩ := (hK.2 3 (cA, .object CC) rfl).2
    rcases hrc with ⟨rfl, rfl, rfl⟩ | ⟨rfl, rfl, rfl⟩
    · obtain ⟨kA', comp', k1', k2', k3', k4'⟩ := (hKt.2 1 (cs 21, .object RX4) rfl).2
      rw [hCC] at k4
      exact Option.some.inj (k4.symm.trans k4')
    · obtain ⟨kA', comp', k1', k2', k3', k4'⟩ := (hKt.2 2 (cs 22, .object RX5) rfl).2
      rw [hCC] at k4
      exact Option.some.inj (k4.symm.trans k4')
  subst e1
  have hpush : g_cw cs ad (sh, a, r, g) ++ [(q, .inl (cs c, N', .inr (.inr (.inr (.inr (fun _ => none))))))] = g_cw cs (va_up ad sh.length q) (g_nw (sh, a, r, g) (c, N')) := by
    refine g_cw_push (h := (sh, a, r, g)) (x := (c, N')) rfl ?_ (fun i hi => g_ce_up (h := (sh, a, r, g)) okr hi (va_up_n _ _ (Nat.ne_of_lt hi)) (va_up_n _ _ (Nat.ne_of_lt hi)) (va_up_n _ _ (Nat.ne_of_lt hi)))
    rw [g_ce_ra (h := g_nw (sh, a, r, g) (c, N')) (n := N') (g_sh_last _ _) h20]
    show Sum.inl (cs c, N', Sum.inr (Sum.inr (Sum.inr (Sum.inr (fun j => (va_up r sh.length (fun _ => none) sh.length j).map (va_up ad sh.length q)))))) = _
    rw [va_up_s]
    rfl
  rw [hpush] at hP hD
  have k1 := kk p l e R s m args below meth cc D cs aK A ad0 QS H1 locs (va_up ad sh.length q) ls C RR ⟨hP, hD, hS⟩ (by have := g_A_up (q := q) Ad; simpa [g_nw] using this) (g_L_up hl okl)
  have e2 : (vr sh.length :: st).map (gc aK (va_up ad sh.length q)) = .ref q :: st.map (gc aK ad) := by
    rw [List.map_cons, gc_upS oks]
    show va_rf (some (va_up ad sh.length q sh.length)) :: _ = _
    rw [va_up_s]
    rfl
  rw [e2] at k1
  exact k1
theorem g_dflt {c j : Nat} {ad : Nat → Nat} {h : g_H} {b : Nat} (hk : g_fk c j = 0 ∨ g_fk c j = 1 ∨ g_fk c j = 2 ∨ g_fk c j = 3) (ha : h.2.1 b j = 0) (hr : h.2.2.1 b j = none) (hg : h.2.2.2 b j = 0) : defaultValue (g_ty c j) = g_fv ad h c b j := by
  rcases hk with hk | hk | hk | hk
  · rw [g_fk0 hk]; simp [g_fv, hk, ha]; rfl
  · rw [g_fk1 hk]; simp [g_fv, hk, hg]; rfl
  · simp only [g_fv, hk, hr]
    rcases g_fk2 hk with ⟨q, e⟩ | ⟨q, e⟩ <;> rw [e] <;> rfl
  · rw [g_fk3 hk]; simp [g_fv, hk, ha]; rfl
theorem Gd_new {CC : String} {T : u_T} (hcl : vwCl[c]? = some (CC, T, nf)) (hc20 : c < 20) (hfk : ∀ j, j < nf → g_fk c j = 0 ∨ g_fk c j = 1 ∨ g_fk c j = 2 ∨ g_fk c j = 3) (hc : k + 1 ≤ Z.2.1) (hs : n + nf ≤ Z.2.2.1) (okr : g_okR sh.length r) (okl : g_okL sh.length L) (oks : g_okS sh.length st) (hw1 : Cond.classLink Y.1.cls idx CC ∈ g_T) (hw2 : Cond.instantiable CC nf ∈ g_T) (hw3 : Cond.initialized CC ∈ g_T)
    (hd : g_D Y pc (.new idx) 3 pc') (kk : Gd Y Z (k + 1) (n + nf) pc' L (vr sh.length :: st) (g_nw (sh, a, r, g) (c, nf))) : Gd Y Z k n pc L st (sh, a, r, g) := by
  intro p l e R s m args below meth cc D cs aK A ad0 QS H locs ad ls C RR Wd Ad hl
  obtain ⟨hd, rfl⟩ := hd
  obtain ⟨c1, c2, c3⟩ := g_cls hcl
  refine va_new (ci := c) (C := CC) (T := T) (N := nf) (Ts := g_T) (fs := (List.range nf).map (g_fv ad (g_nw (sh, a, r, g) (c, nf)) c sh.length)) C.1 C.2.1 C.2.2.2.2.1 c1 (g_ty c) c2 C.2.2.2.1 (C.2.2.2.2.1 _ hw1) (C.2.2.2.2.1 _ hw2) (C.2.2.2.2.1 _ hw3) C.2.2.2.2.2.2.2.2.2.1 Wd.1 Wd.2.1 Wd.2.2 C.2.2.2.2.2.2.2.1 hcl (fun j hj => ?_) (Nat.le_trans hc C.2.2.2.2.2.1.2.2.1) (Nat.le_trans hs C.2.2.2.2.2.1.2.2.2) hd (fun q H1 hP hD hS => ?_)
  · rw [g_dflt (ad := ad) (h := g_nw (sh, a, r, g) (c, nf)) (b := sh.length) (hfk j hj) (by simp [g_nw, va_up]) (by simp [g_nw, va_up]) (by simp [g_nw, va_up])]
    simp [vp_V, hj]
  have hpush : g_cw cs ad (sh, a, r, g) ++ [(q, .inr (c, (List.range nf).map (g_fv ad (g_nw (sh, a, r, g) (c, nf)) c sh.length)))] = g_cw cs (va_up ad sh.length q) (g_nw (sh, a, r, g) (c, nf)) := by
    refine g_cw_push (h := (sh, a, r, g)) (x := (c, nf)) rfl ?_ (fun i hi => g_ce_up (h := (sh, a, r, g)) okr hi (va_up_n _ _ (Nat.ne_of_lt hi)) (va_up_n _ _ (Nat.ne_of_lt hi)) (va_up_n _ _ (Nat.ne_of_lt hi)))
    rw [g_ce_ob (h := g_nw (sh, a, r, g) (c, nf)) (n := nf) (g_sh_last _ _) hc20]
    congr 2
    refine List.map_congr_left fun j _ => ?_
    simp [g_fv, g_nw, va_up]
  rw [hpush] at hP hD
  have k1 := kk p l e R s m args below meth cc D cs aK A ad0 QS H1 locs (va_up ad sh.length q) ls C RR ⟨hP, hD, hS⟩ (by have := g_A_up (q := q) Ad; simpa [g_nw] using this) (g_L_up hl okl)
  have e2 : (vr sh.length :: st).map (gc aK (va_up ad sh.length q)) = .ref q :: st.map (gc aK ad) := by
    rw [List.map_cons, gc_upS oks]
    show va_rf (some (va_up ad sh.length q sh.length)) :: _ = _
    rw [va_up_s]
    rfl
  rw [e2] at k1
  exact k1
end GA
end
section
section GC
variable {Y : g_Y} {Z : g_Z} {k n pc pc' : Nat} {L : List (Option g_V)} {st : List g_V} {sh : List (Nat × Nat)} {a : Nat → Nat → Int32} {r : Nat → Nat → Option Nat} {g : Nat → Nat → Int64} {b idx c j nf : Nat} {fin : Bool} {x : Int32} {lx : Int64} {h : g_H}
-- answers
theorem Gd_ret {v : Option g_V} {i : Instr} (hd : g_D Y pc i 1 pc') (hi : g_ri Y.2.2.2 v i) (hk : k ≤ Z.2.1) (hn : n ≤ Z.2.2.1) (hq : Z.2.2.2.2.2 v h) : Gd Y Z k n pc L v.toList h := by
  intro p l e R s m args below meth cc D cs aK A ad0 QS H locs ad ls C RR Wd Ad hl
  exact RR H locs k n pc pc' ls v h ad i hd hi hk hn Wd Ad hq
theorem Gd_ireturn (hd : g_D Y pc .ireturn 1 pc') (ht : Y.2.2.2 = some .int) (hk : k ≤ Z.2.1) (hn : n ≤ Z.2.2.1) (hq : Z.2.2.2.2.2 (some (vi x)) h) : Gd Y Z k n pc L [vi x] h :=
  Gd_ret (v := some (vi x)) hd ⟨rfl, _, ht, vp_nar_int x⟩ hk hn hq
theorem Gd_zreturn (hd : g_D Y pc .ireturn 1 pc') (ht : Y.2.2.2 = some .boolean) (hx : x = 0 ∨ x = 1) (hk : k ≤ Z.2.1) (hn : n ≤ Z.2.2.1) (hq : Z.2.2.2.2.2 (some (vi x)) h) : Gd Y Z k n pc L [vi x] h :=
  Gd_ret (v := some (vi x)) hd ⟨rfl, _, ht, by rcases hx with rfl | rfl <;> rfl⟩ hk hn hq
theorem Gd_nreturn {ty : FieldType} (hd : g_D Y pc .ireturn 1 pc') (ht : Y.2.2.2 = some ty) (hx : narrow ty (.int x) = .int x) (hk : k ≤ Z.2.1) (hn : n ≤ Z.2.2.1) (hq : Z.2.2.2.2.2 (some (vi x)) h) : Gd Y Z k n pc L [vi x] h :=
  Gd_ret (v := some (vi x)) hd ⟨rfl, _, ht, hx⟩ hk hn hq
theorem Gd_lreturn (hd : g_D Y pc .lreturn 1 pc') (ht : Y.2.2.2 = some .long) (hk : k ≤ Z.2.1) (hn : n ≤ Z.2.2.1) (hq : Z.2.2.2.2.2 (some (vl lx)) h) : Gd Y Z k n pc L [vl lx] h :=
  Gd_ret (v := some (vl lx)) hd ⟨rfl, ht⟩ hk hn hq
theorem Gd_return (hd : g_D Y pc .return_ 1 pc') (ht : Y.2.2.2 = none) (hk : k ≤ Z.2.1) (hn : n ≤ Z.2.2.1) (hq : Z.2.2.2.2.2 none h) : Gd Y Z k n pc L [] h :=
  Gd_ret (v := none) hd ⟨ht, rfl⟩ hk hn hq
theorem Gd_areturn {C : String} (hd : g_D Y pc .areturn 1 pc') (ht : Y.2.2.2 = some (.object C)) (hk : k ≤ Z.2.1) (hn : n ≤ Z.2.2.1) (hq : Z.2.2.2.2.2 (some (vr b)) h) : Gd Y Z k n pc L [vr b] h :=
  Gd_ret (v := some (vr b)) hd ⟨rfl, _, ht, Or.inl ⟨_, rfl⟩⟩ hk hn hq
-- a contract out of a walk
/-- the locals with which a method begins -/
def g_en : List g_V → List (Option g_V)
  | [] => []
  | .inr (.inl x) :: as => some (vl x) :: none :: g_en as
  | v :: as => some v :: g_en as
theorem g_en_mem {aK : Nat → Value} {ad : Nat → Nat} (hK : ∀ k : Nat, ∃ r : Option Nat, aK k = va_rf r) : ∀ (as : List g_V) (i j : Nat) (w : g_V), (g_en as)[j]? = some (some w) → (i + j, gc aK ad w) ∈ lv_args i (as.map (gc aK ad))
  | [], i, j, w, h => by simp [g_en] at h
  | .inr (.inl x) :: as, i, 0, w, h => by
    simp [g_en] at h
    subst h
    exact List.mem_cons_self
  | .inr (.inl x) :: as, i, 1, w, h => by simp [g_en] at h
  | .inr (.inl x) :: as, i, j + 2, w, h => by
    have h1 : (g_en as)[j]? = some (some w) := by simpa [g_en] using h
    have := g_en_mem (ad := ad) hK as (i + 2) j w h1
    refine List.mem_cons_of_mem _ ?_
    rw [gc_cat hK]
    rw [show i + (j + 2) = i + 2 + j by omega]
    exact this
  | .inl x :: as, i, 0, w, h => by
    simp [g_en] at h
    subst h
    exact List.mem_cons_self
  | .inl x :: as, i, j + 1, w, h => by
    have h1 : (g_en as)[j]? = some (some w) := by simpa [g_en] using h
    have := g_en_mem (ad := ad) hK as (i + 1) j w h1
    refine List.mem_cons_of_mem _ ?_
    rw [gc_cat hK]
    rw [show i + (j + 1) = i + 1 + j by omega]
    exact this
  | .inr (.inr u) :: as, i, 0, w, h => by
    simp [g_en] at h
    subst h
    exact List.mem_cons_self
  | .inr (.inr u) :: as, i, j + 1, w, h => by
    have h1 : (g_en as)[j]? = some (some w) := by simpa [g_en] using h
    have := g_en_mem (ad := ad) hK as (i + 1) j w h1
    refine List.mem_cons_of_mem _ ?_
    rw [gc_cat hK]
    rw [show i + (j + 1) = i + 1 + j by omega]
    exact this
theorem g_en_len {aK : Nat → Value} {ad : Nat → Nat} (hK : ∀ k : Nat, ∃ r : Option Nat, aK k = va_rf r) : ∀ as : List g_V, (lg_sl (as.map (gc aK ad))).length = (g_en as).length
  | [] => rfl
  | .inr (.inl x) :: as => by
    have := g_en_len (ad := ad) hK as
    simp [lg_sl, g_en, gc, Value.category] at this ⊢
    exact this
  | .inl x :: as => by
    have := g_en_len (ad := ad) hK as
    simp [lg_sl, g_en, gc, Value.category] at this ⊢
    exact this
  | .inr (.inr u) :: as => by
    have := g_en_len (ad := ad) hK as
    have hc := gc_cat (ad := ad) hK (.inr (.inr u))
    have hc : (gc aK ad (.inr (.inr u))).category = 1 := by rw [hc]; rcases u with r | k <;> rfl
    simp [lg_sl, g_en, hc] at this ⊢
    exact this
theorem Mt_of {d mc ms : Nat} {as : List g_V} {Q : Option g_V → g_H → Prop} {L0 : List (Option g_V)} (hy : plainName Y.1.cls = true) (hlen : (g_en as).length ≤ Y.2.2.1) (hL0 : g_en as ++ List.replicate (Y.2.2.1 - (g_en as).length) none = L0)
    (kk : Gd Y (d, mc, ms, h.1.length, (0, fun _ => 0), Q) 0 0 0 L0 [] h) : Mt Y d mc ms as h Q := by
  intro l D cs aK ad sz
  refine Met.ofW (cc := Y.2.1) (maxL := Y.2.2.1) (ret := Y.2.2.2) hy rfl ?_
  intro p e s m args below meth c s₁ B hml hv
  obtain ⟨rfl, hsz, hP, hK, hD0, hSS⟩ := hv
  have hts := atoms_spec (ws := g_ws Y) B.pre
  have hown : s.vm.findClass Y.1.cls = some m.cls := findClass_of_methodNamed B.named
  subst hsz
  have hD := hD0.self (sz := s.heap.size)
  have hAK := hSS.2.1
  have hl := lv_entry (as.map (gc aK ad)) (n := Y.2.2.1) (by rw [g_en_len hAK]; exact hlen)
  rw [lg_entry_eq]
  generalize (lg_sl (as.map (gc aK ad)) ++ List.replicate (Y.2.2.1 - (lg_sl (as.map (gc aK ad))).length) Slot.unset).toArray = ls at hl ⊢
  have hgl : g_L aK ad ls Y.2.2.1 L0 := by
    subst hL0
    refine g_L_sub hl (by simp; omega) (fun j w hj => ?_)
    by_cases q : j < (g_en as).length
    · rw [List.getElem?_append_left q] at hj
      have := g_en_mem (ad := ad) hAK as 0 j w hj
      simpa using this
    · rw [List.getElem?_append_right (by omega), List.getElem?_replicate] at hj
      split at hj <;> simp at hj
  refine kk p l e _ s m _ below meth c D cs aK (va_A (g_cw cs ad h) s.heap.size) ad _ s.heap [] ad ls ⟨B.exec, B.bytes, hml, hown, fun w hw => hts w (List.mem_cons_of_mem _ hw), ⟨Nat.le_refl _, Nat.le_refl _, Nat.le_refl _, Nat.le_refl _⟩, (name_of_methodNamed B.named B.method).1, fun q hq => Or.inr hq, hSS, hK, fun q => absurd rfl q⟩ ?_ ⟨hP, hD, va_S.rf⟩ ⟨fun _ _ => rfl, fun _ => rfl, Nat.le_refl _⟩ hgl
  intro H locs k n pc pc' ls v h' ad' i hd hi hk hn Wd Ad hq
  refine W.widen hk hn ?_
  obtain ⟨hd, -⟩ := hd
  have post : ∀ t : State, t.heap = H → s.WarmedH t.vm → g_QC D cs aK ad h.1.length Q (va_A (g_cw cs ad h) s.heap.size) (as.map (gc aK ad)).toArray s (.returned (v.map (gc aK ad'))) t := fun t ht hW =>
    ⟨⟨v, h', ad', rfl, hq, Ad, by rw [ht]; exact Wd.1, Wd.2.1⟩, Wd.2.2.F ht⟩
  rcases v with _ | x | x | u
  · obtain ⟨e1, rfl⟩ := hi
    exact W.vret B.exec B.bytes (by rw [B.returns]; exact e1) post Wd.2.2.2.2 hd B.notSynchronized
  · obtain ⟨rfl, ty, e1, e2⟩ := hi
    exact W.zret B.exec B.bytes (by rw [B.returns]; exact e1) e2 post Wd.2.2.2.2 hd B.notSynchronized
  · obtain ⟨rfl, e1⟩ := hi
    exact W.lret B.exec B.bytes (by rw [B.returns]; exact e1) post Wd.2.2.2.2 hd B.notSynchronized
  · obtain ⟨rfl, ty, e1, e2⟩ := hi
    refine W.aret B.exec B.bytes (by rw [B.returns]; exact e1) e2 ?_ post Wd.2.2.2.2 hd B.notSynchronized
    obtain ⟨r, hr⟩ : ∃ r : Option Nat, gc aK ad' (.inr (.inr u)) = va_rf r := by
      rcases u with r | q
      · exact ⟨r.map ad', rfl⟩
      · exact hAK q
    rw [hr]
    cases r with
    | none => exact Or.inl rfl
    | some q => exact Or.inr ⟨q, rfl⟩
end GC
end
section
def g_ok (Y : g_Y) (np : Nat) : Prop := Cond.code Y.1 Y.2.1 Y.2.2.1 Y.2.2.2 ∈ g_T ∧ Cond.initialized Y.1.cls ∈ g_T ∧ (Y.1.cls ≠ "java/lang/invoke/MethodHandle" ∧ Y.1.cls ≠ "java/lang/invoke/VarHandle" ∧ (parseMethodDescriptor Y.1.desc).map (fun d => d.parameters.length) = some np) ∧ Y.2.2.1 ≤ 45
def g_okV (Y : g_Y) (np : Nat) : Prop := g_ok Y np ∧ Cond.instanceMethod Y.1 ∈ g_T ∧ Cond.selects Y.1.cls Y.1 Y.1 ∈ g_T
def g_okT (Y : g_Y) (np : Nat) : Prop := g_ok Y np ∧ Cond.static Y.1 ∈ g_T
def g_okI (Y : g_Y) (np : Nat) : Prop := g_ok Y np ∧ Cond.instanceMethod Y.1 ∈ g_T ∧ Y.1.name = "<init>" ∧ Y.2.2.2 = none
def g_wd (st : List g_V) : Nat := (st.map fun v => if g_isl (some v) then 2 else 1).sum
theorem g_wd_eq {aK : Nat → Value} {ad : Nat → Nat} (hK : ∀ k : Nat, ∃ r : Option Nat, aK k = va_rf r) (st : List g_V) : ((st.map (gc aK ad)).map fun v => v.category).sum = g_wd st := by
  unfold g_wd
  rw [List.map_map]
  congr 1
  exact List.map_congr_left fun v _ => gc_cat hK v
theorem gc_ag {aK : Nat → Value} {ad ad' : Nat → Nat} {N : Nat} {v : g_V} (h : ∀ q, q < N → ad' q = ad q) (hv : g_okv N v) : gc aK ad' v = gc aK ad v := by
  rcases v with x | x | r | k
  · rfl
  · rfl
  · cases r with
    | none => rfl
    | some p =>
      show va_rf (some (ad' p)) = va_rf (some (ad p))
      rw [h p hv]
  · rfl
section GCC
variable {p : Program} {l : Launch} {e : Env} {R : Room} {s : State} {m : MethodId} {args : Array Value} {below : List Frame} {meth : Method} {c : Code} {D : va_G} {cs : Nat → ClassId} {aK : Nat → Value} {A : Nat → Prop} {ad : Nat → Nat} {QS : State → Prop} {H : Heap} {locs : List Loc} {ls : Array Slot} {h : g_H} {k n pc mc ms d N : Nat} {st0 rest : List Value} {Qc : Option g_V → g_H → Prop} {arr : Array Value}
theorem g_callC (hr : va_Run p l e R s m args below meth c H locs k n mc ms (F0 m pc ls st0) rest (g_QC D cs aK ad N Qc (va_A (g_cw cs ad h) H.size) arr) (va_A (g_cw cs ad h) H.size)) (hS : va_S A s.heap H locs) (hA : ∀ q, va_A (g_cw cs ad h) H.size q → A q)
    (kk : ∀ (r : Option g_V) (h' : g_H) (ad' : Nat → Nat) (H1 : Heap) (locs1 : List Loc), Qc r h' → g_A N ad ad' h'.1.length → g_W D cs ad' h' A s H1 locs1 → W p l e R s m args below meth c H1 locs1 (k + mc) (n + ms) QS (F0 m (pc + 3) ls ((r.map (gc aK ad')).toList ++ rest))) : W p l e R s m args below meth c H locs k n QS (F0 m pc ls st0) := by
  intro T hT X
  obtain ⟨v, st₀, t, T', Lc, h0, X', hL, e1, e2, ⟨⟨r, h', ad', hv, hq, hg, hP, hD⟩, hz, hk⟩, st⟩ := hr T hT X
  cases hv
  rw [h0] at hz hk
  have hS1 : va_S A s.heap T'.heap (locs ++ Lc) := ⟨Nat.le_trans hS.1 (by rw [e1]; exact hz), fun q h1 h2 => by rw [e1, hk q (Nat.lt_of_lt_of_le h1 hS.1) (fun z => h2 (hA q z))]; exact hS.2.1 q h1 h2, fun q hq => by
      rcases List.mem_append.mp hq with h | h
      · exact hS.2.2 q h
      · exact hA _ (hL q h)⟩
  obtain ⟨t2, a1, b1⟩ := kk r h' ad' T'.heap (locs ++ Lc) hq hg ⟨by rw [e1]; exact hP, hD.weaken (fun _ q _ z => hA q.1 z), hS1⟩ T' rfl X'
  exact ⟨t2, st t2 a1, b1⟩
theorem g_Pre_ok {sz : Nat} {as : List g_V} {Av : List Value} (hAv : Av = as.map (gc aK ad)) (hsz : H.size = sz) (hP : va_P D vwCl (g_cw cs ad h) H) (hD : va_D A (g_cw cs ad h)) (hK : va_K D vwCl (g_tys cs) s) (hSS : g_S aK A s s.heap) (hS : va_S A s.heap H locs) (hA : ∀ q, va_A (g_cw cs ad h) sz q → A q) : ∀ U : State, U.heap = H → s.WarmedH U.vm → g_Pre D cs aK ad h sz as Av.toArray U := by
  intro U hU hW
  subst hAv
  exact ⟨rfl, by rw [hU]; exact hsz, by rw [hU]; exact hP, va_K.moved hW.alike hK, hD.weaken (fun _ _ _ _ => trivial), g_S_go hSS hS hW hU hA⟩
end GCC
section GCD
variable {Y Y' : g_Y} {Z : g_Z} {k n pc pc' d mc ms np : Nat} {L : List (Option g_V)} {st rest as : List g_V} {h : g_H} {b idx c nf : Nat} {Qc : Option g_V → g_H → Prop}
theorem g_A_of {D : va_G} {cs : Nat → ClassId} {ad : Nat → Nat} {A : Nat → Prop} {s : State} {H : Heap} {locs : List Loc} (Wd : g_W D cs ad h A s H locs) (hA : ∀ q, s.heap.size ≤ q → A q) : ∀ q, va_A (g_cw cs ad h) H.size q → A q := by
  intro q hq
  rcases hq with ⟨k, e, hk⟩ | hq
  · exact Wd.2.1.2 k (q, e) hk
  · exact hA q (Nat.le_trans Wd.2.2.1 hq)
theorem g_rooms {R : Room} (hd1 : Z.1 ≤ R.frames) (hd2 : 64 * Z.1 ≤ R.locals) (hd : d + 1 ≤ Z.1) (hL : Y'.2.2.1 ≤ 45) : (g_rm d mc ms).frames + 1 ≤ R.frames ∧ 8 + (Y'.2.2.1 + 11) + (g_rm d mc ms).locals ≤ R.locals := by
  refine ⟨Nat.le_trans hd hd1, ?_⟩
  show 8 + (Y'.2.2.1 + 11) + 64 * d ≤ R.locals
  omega
/-- what a call's run is: the callee's contract used, its frame, receiver, link -/
def g_Call (Y : g_Y) (Z : g_Z) (k n pc : Nat) (L : List (Option g_V)) (st rest : List g_V) (h : g_H) (mc ms : Nat) (Qc : Option g_V → g_H → Prop) (pc' : Nat) : Prop :=
  pc + 3 = pc' ∧ ∀ (p : Program) (l : Launch) (e : Env) (R : Room) (s : State) (m : MethodId) (args : Array Value) (below : List Frame) (meth : Method) (c : Code) (D : va_G) (cs : Nat → ClassId) (aK : Nat → Value) (A : Nat → Prop) (H : Heap) (locs : List Loc) (ad : Nat → Nat) (ls : Array Slot),
    g_Cx Y Z p R s m args meth c D cs aK A → g_W D cs ad h A s H locs → g_L aK ad ls Y.2.2.1 L →
    ∃ arr : Array Value, va_Run p l e R s m args below meth c H locs k n mc ms (F0 m pc ls (st.map (gc aK ad))) (rest.map (gc aK ad)) (g_QC D cs aK ad h.1.length Qc (va_A (g_cw cs ad h) H.size) arr) (va_A (g_cw cs ad h) H.size)
theorem g_call0 (hc : g_Call Y Z k n pc L st rest h 0 0 Qc pc') (kk : ∀ r h', Qc r h' → h'.1 = h.1 ∧ Gd Y Z k n pc' L (r.toList ++ rest) h') : Gd Y Z k n pc L st h := by
  intro p l e R s m args below meth cc D cs aK A ad0 QS H locs ad ls C RR Wd Ad hl
  obtain ⟨rfl, hc⟩ := hc
  obtain ⟨arr, hr⟩ := hc p l e R s m args below meth cc D cs aK A H locs ad ls C Wd hl
  refine g_callC hr Wd.2.2 (g_A_of Wd C.2.2.2.2.2.2.2.1) (fun r h' ad' H1 locs1 hq hg hW1 => ?_)
  obtain ⟨e1, kk1⟩ := kk r h' hq
  have e2 : ad' = ad := hg.2.1 (by rw [e1])
  subst e2
  have k1 := kk1 p l e R s m args below meth cc D cs aK A ad0 QS H1 locs1 ad' ls C RR hW1 (by rw [e1]; exact Ad) hl
  have e3 : (r.toList ++ rest).map (gc aK ad') = (r.map (gc aK ad')).toList ++ rest.map (gc aK ad') := by
    cases r <;> simp
  rw [e3] at k1
  exact k1
theorem g_call1 (hc : g_Call Y Z k n pc L st rest h mc ms Qc pc') (okl : g_okL h.1.length L) (oks : g_okS h.1.length rest) (kk : ∀ r h', Qc r h' → Gd Y Z (k + mc) (n + ms) pc' L (r.toList ++ rest) h') : Gd Y Z k n pc L st h := by
  intro p l e R s m args below meth cc D cs aK A ad0 QS H locs ad ls C RR Wd Ad hl
  obtain ⟨rfl, hc⟩ := hc
  obtain ⟨arr, hr⟩ := hc p l e R s m args below meth cc D cs aK A H locs ad ls C Wd hl
  refine g_callC hr Wd.2.2 (g_A_of Wd C.2.2.2.2.2.2.2.1) (fun r h' ad' H1 locs1 hq hg hW1 => ?_)
  have Ad' : g_A Z.2.2.2.1 ad0 ad' h'.1.length := by
    obtain ⟨q1, q2, q3⟩ := hg
    obtain ⟨w1, w2, w3⟩ := Ad
    refine ⟨fun q hq => ?_, fun hq => ?_, Nat.le_trans w3 q3⟩
    · rw [q1 q (Nat.lt_of_lt_of_le hq w3), w1 q hq]
    · have e1 : h.1.length = Z.2.2.2.1 := by omega
      rw [q2 (by omega), w2 e1]
  have hl' : g_L aK ad' ls Y.2.2.1 L := g_L_sub hl.1 hl.2 (fun j w hj => (g_ll_mem L 0 _).mpr ⟨j, w, hj, by rw [gc_ag hg.1 (okl w (List.mem_of_getElem? hj))]; simp⟩)
  have k1 := kk r h' hq p l e R s m args below meth cc D cs aK A ad0 QS H1 locs1 ad' ls C RR hW1 Ad' hl'
  have e3 : (r.toList ++ rest).map (gc aK ad') = (r.map (gc aK ad')).toList ++ rest.map (gc aK ad) := by
    have e4 : rest.map (gc aK ad') = rest.map (gc aK ad) := List.map_congr_left fun v hv => gc_ag hg.1 (oks v hv)
    cases r <;> simp [e4]
  rw [e3] at k1
  exact k1
theorem g_cV (hM : Mt Y' d mc ms (vr b :: as) h Qc) (hk : g_okV Y' np) (hl : Cond.methodLink Y.1.cls idx Y'.1 ∈ g_T) (hb : h.1[b]? = some (c, nf)) (hcl : ∃ T N, vwCl[c]? = some (Y'.1.cls, T, N)) (hst : st = as.reverse ++ vr b :: rest) (hn : as.length = np) (hw : g_wd rest ≤ 8) (hd : d + 1 ≤ Z.1) (hmc : k + mc ≤ Z.2.1) (hms : n + ms ≤ Z.2.2.1) (hdg : g_D Y pc (.invokevirtual idx) 3 pc') : g_Call Y Z k n pc L st rest h mc ms Qc pc' := by
  refine ⟨hdg.2, fun p l e R s m args below meth cc D cs aK A H locs ad ls C Wd hl' => ⟨(Value.ref (ad b) :: as.map (gc aK ad)).toArray, ?_⟩⟩
  obtain ⟨⟨k1, k2, k3, k4⟩, k5, k6⟩ := hk
  obtain ⟨T, N, hcl⟩ := hcl
  have hc20 : c < 20 := by
    have := (List.getElem?_eq_some_iff.mp hcl).1
    simp [vwCl] at this
    omega
  have hAA := g_A_of Wd C.2.2.2.2.2.2.2.1
  have hAK := C.2.2.2.2.2.2.2.2.1.2.1
  have hK := C.2.2.2.2.2.2.2.2.2.1
  exact va_runV (As := as.map (gc aK ad)) (rest := rest.map (gc aK ad)) (b := ad b) (C := Y'.1.cls) (nL := Y.2.2.1) ⟨C.1, C.2.1, C.2.2.1, C.2.2.2.1, C.2.2.2.2.1⟩ (hM l D cs aK ad H.size)
    (cwV (ws' := g_T) np C.2.2.2.2.1 (g_good1 (fun w hw => by
      simp only [wsV, List.mem_append, List.mem_cons, List.not_mem_nil, or_false] at hw
      rcases hw with (rfl | rfl | rfl | rfl) | hw
      · exact hl
      · exact k5
      · exact k6
      · exact k2
      · rcases List.mem_cons.mp hw with rfl | hw
        · exact k1
        · exact hw)) rfl rfl rfl ⟨rfl, k3⟩ (g_rooms C.2.2.2.2.2.1.1 C.2.2.2.2.2.1.2.1 hd k4))
    ⟨g_Pre_blind, va_recv hK Wd.1 (ci := c) (q0 := b) hcl (by rw [g_cw_at (g_sh_lt hb), g_ce_ob hb hc20]), g_Pre_ok (as := vr b :: as) rfl rfl Wd.1 Wd.2.1 hK C.2.2.2.2.2.2.2.2.1 Wd.2.2 hAA⟩ rfl (by rw [List.length_map]; exact hn) hl'.1.1 (by subst hst; simp [gc]; rfl) (lv_room (by rw [g_wd_eq hAK]; exact hw)) hdg.1 ⟨Nat.le_trans hmc C.2.2.2.2.2.1.2.2.1, Nat.le_trans hms C.2.2.2.2.2.1.2.2.2⟩
theorem g_cS (hM : Mt Y' d mc ms as h Qc) (hk : g_okT Y' np) (hl : Cond.methodLink Y.1.cls idx Y'.1 ∈ g_T) (hst : st = as.reverse ++ rest) (hn : as.length = np) (hw : g_wd rest ≤ 8) (hd : d + 1 ≤ Z.1) (hmc : k + mc ≤ Z.2.1) (hms : n + ms ≤ Z.2.2.1) (hdg : g_D Y pc (.invokestatic idx) 3 pc') : g_Call Y Z k n pc L st rest h mc ms Qc pc' := by
  refine ⟨hdg.2, fun p l e R s m args below meth cc D cs aK A H locs ad ls C Wd hl' => ⟨(as.map (gc aK ad)).toArray, ?_⟩⟩
  obtain ⟨⟨k1, k2, k3, k4⟩, k5⟩ := hk
  have hAA := g_A_of Wd C.2.2.2.2.2.2.2.1
  have hAK := C.2.2.2.2.2.2.2.2.1.2.1
  have hK := C.2.2.2.2.2.2.2.2.2.1
  exact va_runS (As := as.map (gc aK ad)) (rest := rest.map (gc aK ad)) (nL := Y.2.2.1) ⟨C.1, C.2.1, C.2.2.1, C.2.2.2.1, C.2.2.2.2.1⟩ (hM l D cs aK ad H.size)
    (va_cwS (ws' := g_T) np C.2.2.2.2.1 (g_good1 (fun w hw => by
      simp only [va_wsS, List.mem_append, List.mem_cons, List.not_mem_nil, or_false] at hw
      rcases hw with (rfl | rfl | rfl) | hw
      · exact hl
      · exact k5
      · exact k2
      · rcases List.mem_cons.mp hw with rfl | hw
        · exact k1
        · exact hw)) rfl rfl rfl k3 (g_rooms C.2.2.2.2.2.1.1 C.2.2.2.2.2.1.2.1 hd k4))
    ⟨g_Pre_blind, g_Pre_ok (as := as) rfl rfl Wd.1 Wd.2.1 hK C.2.2.2.2.2.2.2.2.1 Wd.2.2 hAA⟩ rfl (by rw [List.length_map]; exact hn) hl'.1.1 (by subst hst; simp) (lv_room (by rw [g_wd_eq hAK]; exact hw)) hdg.1 ⟨Nat.le_trans hmc C.2.2.2.2.2.1.2.2.1, Nat.le_trans hms C.2.2.2.2.2.1.2.2.2⟩
theorem g_wsGood {Y' : g_Y} (k1 : Cond.code Y'.1 Y'.2.1 Y'.2.2.1 Y'.2.2.2 ∈ g_T) : GoodIn g_T (g_ws Y') := g_good1 (fun w hw => by
  rcases List.mem_cons.mp hw with rfl | hw
  · exact k1
  · exact hw)
theorem g_cI (hM : Mt Y' d mc ms (vr b :: as) h Qc) (hk : g_okI Y' np) (hl : Cond.methodLink Y.1.cls idx Y'.1 ∈ g_T) (hst : st = as.reverse ++ vr b :: rest) (hn : as.length = np) (hw : g_wd rest ≤ 8) (hd : d + 1 ≤ Z.1) (hmc : k + mc ≤ Z.2.1) (hms : n + ms ≤ Z.2.2.1) (hdg : g_D Y pc (.invokespecial idx) 3 pc') : g_Call Y Z k n pc L st rest h mc ms Qc pc' := by
  refine ⟨hdg.2, fun p l e R s m args below meth cc D cs aK A H locs ad ls C Wd hl' => ⟨(Value.ref (ad b) :: as.map (gc aK ad)).toArray, ?_⟩⟩
  obtain ⟨⟨k1, k2, k3, k4⟩, k5, k6, k7⟩ := hk
  have hAA := g_A_of Wd C.2.2.2.2.2.2.2.1
  have hAK := C.2.2.2.2.2.2.2.2.1.2.1
  have hK := C.2.2.2.2.2.2.2.2.2.1
  exact va_runI (As := as.map (gc aK ad)) (rest := rest.map (gc aK ad)) (b := ad b) (nL := Y.2.2.1) ⟨C.1, C.2.1, C.2.2.1, C.2.2.2.1, C.2.2.2.2.1⟩ (hM l D cs aK ad H.size)
    (cwI (ws' := g_T) np C.2.2.2.2.1 (g_wsGood k1) (by rw [← k7]; rfl) rfl rfl (C.2.2.2.2.1 _ k2) (C.2.2.2.2.1 _ hl) (C.2.2.2.2.1 _ k5) k6 k3 (g_rooms C.2.2.2.2.2.1.1 C.2.2.2.2.2.1.2.1 hd k4))
    ⟨g_Pre_blind, g_Pre_ok (as := vr b :: as) rfl rfl Wd.1 Wd.2.1 hK C.2.2.2.2.2.2.2.2.1 Wd.2.2 hAA⟩ rfl (by rw [List.length_map]; exact hn) hl'.1.1 (by subst hst; simp [gc]; rfl) (lv_room (by rw [g_wd_eq hAK]; exact hw)) hdg.1 ⟨Nat.le_trans hmc C.2.2.2.2.2.1.2.2.1, Nat.le_trans hms C.2.2.2.2.2.1.2.2.2⟩
theorem g_cIN (hM : Mt Y' d mc ms (vr b :: as) h Qc) (hk : g_okI Y' np) (hl : (Y.1.cls, idx, Y'.1) ∈ g_nests) (hst : st = as.reverse ++ vr b :: rest) (hn : as.length = np) (hw : g_wd rest ≤ 8) (hd : d + 1 ≤ Z.1) (hmc : k + mc ≤ Z.2.1) (hms : n + ms ≤ Z.2.2.1) (hdg : g_D Y pc (.invokespecial idx) 3 pc') : g_Call Y Z k n pc L st rest h mc ms Qc pc' := by
  refine ⟨hdg.2, fun p l e R s m args below meth cc D cs aK A H locs ad ls C Wd hl' => ⟨(Value.ref (ad b) :: as.map (gc aK ad)).toArray, ?_⟩⟩
  obtain ⟨⟨k1, k2, k3, k4⟩, k5, k6, k7⟩ := hk
  have hAA := g_A_of Wd C.2.2.2.2.2.2.2.1
  have hAK := C.2.2.2.2.2.2.2.2.1.2.1
  have hK := C.2.2.2.2.2.2.2.2.2.1
  exact va_runIN (host := RX7) (bytes := Y'.2.1) (maxL := Y'.2.2.1) (As := as.map (gc aK ad)) (rest := rest.map (gc aK ad)) (b := ad b) (nL := Y.2.2.1) ⟨C.1, C.2.1, C.2.2.1, C.2.2.2.1, C.2.2.2.2.1⟩ (hM l D cs aK ad H.size)
    ⟨va_cnB (ws' := g_T) np C.2.2.2.2.1 (g_wsGood k1) (by rw [← k7]; rfl) rfl rfl (C.2.2.2.2.2.2.2.2.1.2.2.2.2.2.1 _ hl) (C.2.2.2.2.1 _ k2) k3 (g_rooms C.2.2.2.2.2.1.1 C.2.2.2.2.2.1.2.1 hd k4), k6, C.2.2.2.2.1 _ k5⟩
    ⟨g_Pre_blind, g_Pre_ok (as := vr b :: as) rfl rfl Wd.1 Wd.2.1 hK C.2.2.2.2.2.2.2.2.1 Wd.2.2 hAA⟩ rfl (by rw [List.length_map]; exact hn) hl'.1.1 (by subst hst; simp [gc]; rfl) (lv_room (by rw [g_wd_eq hAK]; exact hw)) hdg.1 ⟨Nat.le_trans hmc C.2.2.2.2.2.1.2.2.1, Nat.le_trans hms C.2.2.2.2.2.1.2.2.2⟩
theorem g_cSN (hM : Mt Y' d mc ms as h Qc) (hk : g_okT Y' np) (hl : (Y.1.cls, idx, Y'.1) ∈ g_nests) (hst : st = as.reverse ++ rest) (hn : as.length = np) (hw : g_wd rest ≤ 8) (hd : d + 1 ≤ Z.1) (hmc : k + mc ≤ Z.2.1) (hms : n + ms ≤ Z.2.2.1) (hdg : g_D Y pc (.invokestatic idx) 3 pc') : g_Call Y Z k n pc L st rest h mc ms Qc pc' := by
  refine ⟨hdg.2, fun p l e R s m args below meth cc D cs aK A H locs ad ls C Wd hl' => ⟨(as.map (gc aK ad)).toArray, ?_⟩⟩
  obtain ⟨⟨k1, k2, k3, k4⟩, k5⟩ := hk
  have hAA := g_A_of Wd C.2.2.2.2.2.2.2.1
  have hAK := C.2.2.2.2.2.2.2.2.1.2.1
  have hK := C.2.2.2.2.2.2.2.2.2.1
  exact va_runSN (host := RX7) (bytes := Y'.2.1) (maxL := Y'.2.2.1) (ret := Y'.2.2.2) (As := as.map (gc aK ad)) (rest := rest.map (gc aK ad)) (nL := Y.2.2.1) ⟨C.1, C.2.1, C.2.2.1, C.2.2.2.1, C.2.2.2.2.1⟩ (hM l D cs aK ad H.size)
    ⟨va_cnB (ws' := g_T) np C.2.2.2.2.1 (g_wsGood k1) rfl rfl rfl (C.2.2.2.2.2.2.2.2.1.2.2.2.2.2.1 _ hl) (C.2.2.2.2.1 _ k2) k3 (g_rooms C.2.2.2.2.2.1.1 C.2.2.2.2.2.1.2.1 hd k4), C.2.2.2.2.1 _ k5, trivial⟩
    ⟨g_Pre_blind, g_Pre_ok (as := as) rfl rfl Wd.1 Wd.2.1 hK C.2.2.2.2.2.2.2.2.1 Wd.2.2 hAA⟩ rfl (by rw [List.length_map]; exact hn) hl'.1.1 (by subst hst; simp) (lv_room (by rw [g_wd_eq hAK]; exact hw)) hdg.1 ⟨Nat.le_trans hmc C.2.2.2.2.2.1.2.2.1, Nat.le_trans hms C.2.2.2.2.2.1.2.2.2⟩
/-- a call on a text -/
theorem g_cVt {q : Nat} (hq : q < 13) (hM : Mt Y' d mc ms (vc q :: as) h Qc) (hk : g_okV Y' np) (hcl : Y'.1.cls = "java/lang/String") (hl : Cond.methodLink Y.1.cls idx Y'.1 ∈ g_T) (hst : st = as.reverse ++ vc q :: rest) (hn : as.length = np) (hw : g_wd rest ≤ 8) (hd : d + 1 ≤ Z.1) (hmc : k + mc ≤ Z.2.1) (hms : n + ms ≤ Z.2.2.1) (hdg : g_D Y pc (.invokevirtual idx) 3 pc') : g_Call Y Z k n pc L st rest h mc ms Qc pc' := by
  refine ⟨hdg.2, fun p l e R s m args below meth cc D cs aK A H locs ad ls C Wd hl' => ?_⟩
  obtain ⟨⟨k1, k2, k3, k4⟩, k5, k6⟩ := hk
  have hAA := g_A_of Wd C.2.2.2.2.2.2.2.1
  have hAK := C.2.2.2.2.2.2.2.2.1.2.1
  have hK := C.2.2.2.2.2.2.2.2.2.1
  obtain ⟨adK, adV, hvk, hkv⟩ := C.2.2.2.2.2.2.2.2.1.1
  have e1 : gc aK ad (vc q) = .ref (adK q) := (hkv q hq).1
  refine ⟨(Value.ref (adK q) :: as.map (gc aK ad)).toArray, ?_⟩
  exact va_runV (As := as.map (gc aK ad)) (rest := rest.map (gc aK ad)) (b := adK q) (C := Y'.1.cls) (nL := Y.2.2.1) ⟨C.1, C.2.1, C.2.2.1, C.2.2.2.1, C.2.2.2.2.1⟩ (hM l D cs aK ad H.size)
    (cwV (ws' := g_T) np C.2.2.2.2.1 (g_good1 (fun w hw => by
      simp only [wsV, List.mem_append, List.mem_cons, List.not_mem_nil, or_false] at hw
      rcases hw with (rfl | rfl | rfl | rfl) | hw
      · exact hl
      · exact k5
      · exact k6
      · exact k2
      · rcases List.mem_cons.mp hw with rfl | hw
        · exact k1
        · exact hw)) rfl rfl rfl ⟨rfl, k3⟩ (g_rooms C.2.2.2.2.2.1.1 C.2.2.2.2.2.1.2.1 hd k4))
    ⟨g_Pre_blind, by rw [hcl]; exact vk_recv hvk hq Wd.2.2, g_Pre_ok (as := vc q :: as) (by rw [List.map_cons, e1]) rfl Wd.1 Wd.2.1 hK C.2.2.2.2.2.2.2.2.1 Wd.2.2 hAA⟩ rfl (by rw [List.length_map]; exact hn) hl'.1.1 (by subst hst; simp [e1]) (lv_room (by rw [g_wd_eq hAK]; exact hw)) hdg.1 ⟨Nat.le_trans hmc C.2.2.2.2.2.1.2.2.1, Nat.le_trans hms C.2.2.2.2.2.1.2.2.2⟩
end GCD
end
section
section GM
variable {Y : g_Y} {Z : g_Z} {k n pc pc' : Nat} {L : List (Option g_V)} {st : List g_V} {sh : List (Nat × Nat)} {a : Nat → Nat → Int32} {r : Nat → Nat → Option Nat} {g : Nat → Nat → Int64} {b idx c j nf : Nat} {x : Int32} {h : g_H}
theorem Gd_objInit {v : g_V} {q : Nat} (hv : v = vr q) (hl : Cond.methodLink Y.1.cls idx Lib.objectInit ∈ g_T) (h1 : Cond.instanceMethod Lib.objectInit ∈ g_T) (h2 : Cond.code Lib.objectInit ⟨#[0xb1]⟩ 1 none ∈ g_T) (hd1 : 1 ≤ Z.1) (hw : g_wd st ≤ 8) (hd : g_D Y pc (.invokespecial idx) 3 pc') (kk : Gd Y Z k n pc' L st h) : Gd Y Z k n pc L (v :: st) h := by
  intro p l e R s m args below meth cc D cs aK A ad0 QS H locs ad ls C RR Wd Ad hl'
  obtain ⟨hd, rfl⟩ := hd
  subst hv
  have hfr := C.2.2.2.2.2.1.1
  have hlo := C.2.2.2.2.2.1.2.1
  have hsum := g_wd_eq (ad := ad) C.2.2.2.2.2.2.2.2.1.2.1 st
  exact W.objInit (idx := idx) (a := ad q) (rest := st.map (gc aK ad)) C.1 C.2.1 C.2.2.2.1 (C.2.2.2.2.1 _ hl) (C.2.2.2.2.1 _ h1) (C.2.2.2.2.1 _ h2) rfl (by rw [C.2.2.1]; exact hl'.1.1) rfl hd (Nat.le_trans hd1 hfr) (by show 2 * 0 + _ + 12 ≤ _; omega) (kk p l e R s m args below meth cc D cs aK A ad0 QS H locs ad ls C RR Wd Ad hl')
theorem Gd_copy {b0 b1 m0 m1 : Nat} {sp dp w : Int32} (hb0 : sh[b0]? = some (20, m0)) (hb1 : sh[b1]? = some (20, m1)) (h1 : ¬ sp < 0) (h2 : ¬ dp < 0) (h3 : ¬ w < 0) (h4 : sp.toNatClampNeg + w.toNatClampNeg ≤ m0) (h5 : dp.toNatClampNeg + w.toNatClampNeg ≤ m1)
    (hl : Cond.methodLink Y.1.cls idx arraycopyName ∈ g_T) (hn1 : Cond.native arraycopyName ∈ g_T) (hn2 : Cond.static arraycopyName ∈ g_T) (hn3 : Cond.initialized "java/lang/System" ∈ g_T) (hd1 : 1 ≤ Z.1) (hw : g_wd st ≤ 8) (hd : g_D Y pc (.invokestatic idx) 3 pc')
    (kk : Gd Y Z k n pc' L st (sh, va_up a b1 (va_cpy (a b0) (a b1) sp.toNatClampNeg dp.toNatClampNeg w.toNatClampNeg), r, g)) : Gd Y Z k n pc L (vi w :: vi dp :: vr b1 :: vi sp :: vr b0 :: st) (sh, a, r, g) := by
  intro p l e R s m args below meth cc D cs aK A ad0 QS H locs ad ls C RR Wd Ad hl'
  obtain ⟨hd, rfl⟩ := hd
  have hfr := C.2.2.2.2.2.1.1
  have hlo := C.2.2.2.2.2.1.2.1
  have hsum := g_wd_eq (ad := ad) C.2.2.2.2.2.2.2.2.1.2.1 st
  have hnf : nativeFrameWords "java/lang/System" "arraycopy" 5 = 7 := by decide +kernel
  have hset : (g_cw cs ad (sh, a, r, g)).set b1 (ad b1, .inl (cs 20, m1, .inl (va_cpy (a b0) (a b1) sp.toNatClampNeg dp.toNatClampNeg w.toNatClampNeg))) = g_cw cs ad (sh, va_up a b1 (va_cpy (a b0) (a b1) sp.toNatClampNeg dp.toNatClampNeg w.toNatClampNeg), r, g) := by
    refine g_cw_set rfl ?_ (fun i hi => g_ce_congr rfl (fun j => by show va_up a b1 _ i j = a i j; rw [va_up_n _ _ hi]) (fun j => rfl) (fun j => rfl))
    rw [g_ce_ia (h := (sh, va_up a b1 (va_cpy (a b0) (a b1) sp.toNatClampNeg dp.toNatClampNeg w.toNatClampNeg), r, g)) hb1]
    show Sum.inl (cs 20, m1, Sum.inl (va_up a b1 _ b1)) = _
    rw [va_up_s]
  refine va_copyi (c0 := cs 20) (c1 := cs 20) (n0 := m0) (n1 := m1) (f := a b0) (g := a b1) (ty := .int) C.1 C.2.1 (by rw [C.2.2.1]; exact hl'.1.1.symm) C.2.2.2.1 (C.2.2.2.2.1 _ hl) (C.2.2.2.2.1 _ hn1) (C.2.2.2.2.1 _ hn2) (C.2.2.2.2.1 _ hn3) C.2.2.2.2.2.2.2.2.2.1 Wd.1 Wd.2.1 Wd.2.2 b0 b1 0 0 (a0 := ad b0) (a := ad b1)
    (by rw [g_cw_at (g_sh_lt (h := (sh, a, r, g)) hb0), g_ce_ia (h := (sh, a, r, g)) hb0]) (by rw [g_cw_at (g_sh_lt (h := (sh, a, r, g)) hb1), g_ce_ia (h := (sh, a, r, g)) hb1]) rfl rfl rfl h1 h2 h3 h4 h5 (fun _ _ => rfl) (Nat.le_trans hd1 hfr) (by rw [hnf]; omega) hd (fun H1 locs1 hP hD hS => ?_)
  rw [hset] at hP hD
  exact kk p l e R s m args below meth cc D cs aK A ad0 QS H1 locs1 ad ls C RR ⟨hP, hD, hS⟩ Ad hl'
theorem g_find {s : State} {D : va_G} {cs : Nat → ClassId} (hK : va_K D vwCl (g_tys cs) s) : s.vm.findClass "[I" = some (cs 20) := (hK.2 0 (cs 20, .int) rfl).2
theorem Gd_clone {m0 : Nat} (hb : sh[b]? = some (20, m0)) (hc : k + 1 ≤ Z.2.1) (hs : n + m0 ≤ Z.2.2.1) (okr : g_okR sh.length r) (okl : g_okL sh.length L) (oks : g_okS sh.length st)
    (hl : Cond.methodLink Y.1.cls idx ⟨"[I", "clone", "()Ljava/lang/Object;"⟩ ∈ g_T) (h1 : Cond.sameMethod "[I" "java/lang/Object" "clone" "()Ljava/lang/Object;" ∈ g_T) (h2 : Cond.native ⟨"java/lang/Object", "clone", "()Ljava/lang/Object;"⟩ ∈ g_T) (h3 : Cond.instanceMethod ⟨"java/lang/Object", "clone", "()Ljava/lang/Object;"⟩ ∈ g_T) (h4 : Cond.selects "[I" ⟨"[I", "clone", "()Ljava/lang/Object;"⟩ ⟨"java/lang/Object", "clone", "()Ljava/lang/Object;"⟩ ∈ g_T) (hd1 : 1 ≤ Z.1) (hw : g_wd st ≤ 8)
    (hd : g_D Y pc (.invokevirtual idx) 3 pc') (kk : Gd Y Z (k + 1) (n + m0) pc' L (vr sh.length :: st) (sh ++ [(20, m0)], va_up a sh.length (a b), va_up r sh.length (fun _ => none), va_up g sh.length (fun _ => 0))) : Gd Y Z k n pc L (vr b :: st) (sh, a, r, g) := by
  intro p l e R s m args below meth cc D cs aK A ad0 QS H locs ad ls C RR Wd Ad hl'
  obtain ⟨hd, rfl⟩ := hd
  have hfr := C.2.2.2.2.2.1.1
  have hlo := C.2.2.2.2.2.1.2.1
  have hsum := g_wd_eq (ad := ad) C.2.2.2.2.2.2.2.2.1.2.1 st
  have hKt := C.2.2.2.2.2.2.2.2.2.1
  refine va_clone (ad := "[I") (x := (m0, .inl (a b))) (cA := cs 20) (ty := .int) C.1 C.2.1 (by rw [C.2.2.1]; exact hl'.1.1.symm) C.2.2.2.1 (C.2.2.2.2.1 _ hl) (C.2.2.2.2.1 _ h1) (C.2.2.2.2.1 _ h2) (C.2.2.2.2.1 _ h3) (C.2.2.2.2.1 _ h4) C.2.2.2.2.2.2.2.2.1.2.2.2.2.2.2.1 hKt Wd.1 Wd.2.1 Wd.2.2 C.2.2.2.2.2.2.2.1 b 0 (a := ad b)
    (by rw [g_cw_at (g_sh_lt (h := (sh, a, r, g)) hb), g_ce_ia (h := (sh, a, r, g)) hb]) rfl (g_find hKt) (fun i v hv => ?_) (Nat.le_trans hd1 hfr) (by omega) (Nat.le_trans hc C.2.2.2.2.2.1.2.2.1) (Nat.le_trans hs C.2.2.2.2.2.1.2.2.2) hd (fun q H1 hK hP hD hS => ?_)
  · rw [vp_cell_i] at hv
    have hlt := (Array.getElem?_eq_some_iff.mp hv).1
    rw [arrV_size] at hlt
    rw [arrV_read _ _ hlt] at hv
    cases hv
    rfl
  have hpush : g_cw cs ad (sh, a, r, g) ++ [(q, .inl (cs 20, m0, .inl (a b)))] = g_cw cs (va_up ad sh.length q) (sh ++ [(20, m0)], va_up a sh.length (a b), va_up r sh.length (fun _ => none), va_up g sh.length (fun _ => 0)) := by
    refine g_cw_push (h := (sh, a, r, g)) (x := (20, m0)) rfl ?_ (fun i hi => g_ce_up (h := (sh, a, r, g)) okr hi (va_up_n _ _ (Nat.ne_of_lt hi)) (va_up_n _ _ (Nat.ne_of_lt hi)) (va_up_n _ _ (Nat.ne_of_lt hi)))
    rw [g_ce_ia (h := (sh ++ [(20, m0)], va_up a sh.length (a b), va_up r sh.length (fun _ => none), va_up g sh.length (fun _ => 0))) (n := m0) (g_sh_last _ _)]
    show Sum.inl (cs 20, m0, Sum.inl (va_up a sh.length (a b) sh.length)) = _
    rw [va_up_s]
  rw [hpush] at hP hD
  have k1 := kk p l e R s m args below meth cc D cs aK A ad0 QS H1 locs (va_up ad sh.length q) ls C RR ⟨hP, hD, hS⟩ (by have := g_A_up (q := q) Ad; simpa using this) (g_L_up hl' okl)
  have e2 : (vr sh.length :: st).map (gc aK (va_up ad sh.length q)) = .ref q :: st.map (gc aK ad) := by
    rw [List.map_cons, gc_upS oks]
    show va_rf (some (va_up ad sh.length q sh.length)) :: _ = _
    rw [va_up_s]
    rfl
  rw [e2] at k1
  exact k1
theorem Gd_castI {m0 : Nat} (hb : sh[b]? = some (20, m0)) (hl : Cond.classLink Y.1.cls idx "[I" ∈ g_T) (hd : g_D Y pc (.checkcast idx) 3 pc') (kk : Gd Y Z k n pc' L (vr b :: st) (sh, a, r, g)) : Gd Y Z k n pc L (vr b :: st) (sh, a, r, g) := by
  intro p l e R s m args below meth cc D cs aK A ad0 QS H locs ad ls C RR Wd Ad hl'
  obtain ⟨hd, rfl⟩ := hd
  exact va_castA (cA := cs 20) (x := (m0, .inl (a b))) C.1 C.2.1 C.2.2.2.1 (C.2.2.2.2.1 _ hl) Wd.1 b (by rw [g_cw_at (g_sh_lt (h := (sh, a, r, g)) hb), g_ce_ia (h := (sh, a, r, g)) hb]) (g_find C.2.2.2.2.2.2.2.2.2.1) hd (kk p l e R s m args below meth cc D cs aK A ad0 QS H locs ad ls C RR Wd Ad hl')
-- statics and texts
theorem Gd_compact (hl : Cond.fieldLink Y.1.cls idx "java/lang/String" "COMPACT_STRINGS" "Z" ∈ g_T) (hd : g_D Y pc (.getstatic idx) 3 pc') (kk : Gd Y Z k n pc' L (vi 1 :: st) h) : Gd Y Z k n pc L st h := by
  intro p l e R s m args below meth cc D cs aK A ad0 QS H locs ad ls C RR Wd Ad hl'
  obtain ⟨hd, rfl⟩ := hd
  exact va_gets C.1 C.2.1 C.2.2.2.2.2.2.2.2.1.2.2.2.1 Wd.2.2 C.2.2.2.1 (C.2.2.2.2.1 _ hl) (fun _ q => q) hd (kk p l e R s m args below meth cc D cs aK A ad0 QS H locs ad ls C RR Wd Ad hl')
theorem Gd_former (hl : Cond.fieldLink Y.1.cls idx "jdk/internal/util/Preconditions" "SIOOBE_FORMATTER" "Ljava/util/function/BiFunction;" ∈ g_T) (hd : g_D Y pc (.getstatic idx) 3 pc') (kk : Gd Y Z k n pc' L (vc 200 :: st) h) : Gd Y Z k n pc L st h := by
  intro p l e R s m args below meth cc D cs aK A ad0 QS H locs ad ls C RR Wd Ad hl'
  obtain ⟨hd, rfl⟩ := hd
  exact va_gets C.1 C.2.1 C.2.2.2.2.2.2.2.2.1.2.2.2.2.1 Wd.2.2 C.2.2.2.1 (C.2.2.2.2.1 _ hl) (fun _ q => q) hd (kk p l e R s m args below meth cc D cs aK A ad0 QS H locs ad ls C RR Wd Ad hl')
theorem Gd_coder {q : Nat} (hq : q < 13) (hl : Cond.fieldLink Y.1.cls idx "java/lang/String" "coder" "B" ∈ g_T) (hd : g_D Y pc (.getfield idx) 3 pc') (kk : Gd Y Z k n pc' L (vi 0 :: st) h) : Gd Y Z k n pc L (vc q :: st) h := by
  intro p l e R s m args below meth cc D cs aK A ad0 QS H locs ad ls C RR Wd Ad hl'
  obtain ⟨hd, rfl⟩ := hd
  obtain ⟨adK, adV, hvk, hkv⟩ := C.2.2.2.2.2.2.2.2.1.1
  have e1 : (vc q :: st : List g_V).map (gc aK ad) = .ref (adK q) :: st.map (gc aK ad) := by
    show aK q :: _ = _
    rw [(hkv q hq).1]
  rw [e1]
  exact vk_getf C.1 C.2.1 (hvk.1 q hq).2.1 Wd.2.2 C.2.2.2.1 (C.2.2.2.2.1 _ hl) (fun _ q => q) hd (kk p l e R s m args below meth cc D cs aK A ad0 QS H locs ad ls C RR Wd Ad hl')
theorem Gd_svalue {q : Nat} (hq : q < 13) (hl : Cond.fieldLink Y.1.cls idx "java/lang/String" "value" "[B" ∈ g_T) (hd : g_D Y pc (.getfield idx) 3 pc') (kk : Gd Y Z k n pc' L (vc (100 + q) :: st) h) : Gd Y Z k n pc L (vc q :: st) h := by
  intro p l e R s m args below meth cc D cs aK A ad0 QS H locs ad ls C RR Wd Ad hl'
  obtain ⟨hd, rfl⟩ := hd
  obtain ⟨adK, adV, hvk, hkv⟩ := C.2.2.2.2.2.2.2.2.1.1
  have e1 : (vc q :: st : List g_V).map (gc aK ad) = .ref (adK q) :: st.map (gc aK ad) := by
    show aK q :: _ = _
    rw [(hkv q hq).1]
  have e2 : (vc (100 + q) :: st : List g_V).map (gc aK ad) = .ref (adV q) :: st.map (gc aK ad) := by
    show aK (100 + q) :: _ = _
    rw [(hkv q hq).2]
  have k1 := kk p l e R s m args below meth cc D cs aK A ad0 QS H locs ad ls C RR Wd Ad hl'
  rw [e2] at k1
  rw [e1]
  exact vk_getf C.1 C.2.1 (hvk.1 q hq).2.2.1 Wd.2.2 C.2.2.2.1 (C.2.2.2.2.1 _ hl) (fun _ q => q) hd k1
theorem Gd_blen {q : Nat} {v : Int32} (hq : q < 13) (hv : Int32.ofNat (g_slen.getD q 0) = v) (hd : g_D Y pc .arraylength 1 pc') (kk : Gd Y Z k n pc' L (vi v :: st) h) : Gd Y Z k n pc L (vc (100 + q) :: st) h := by
  intro p l e R s m args below meth cc D cs aK A ad0 QS H locs ad ls C RR Wd Ad hl'
  obtain ⟨hd, rfl⟩ := hd
  obtain ⟨adK, adV, hvk, hkv⟩ := C.2.2.2.2.2.2.2.2.1.1
  have e2 : (vc (100 + q) :: st : List g_V).map (gc aK ad) = .ref (adV q) :: st.map (gc aK ad) := by
    show aK (100 + q) :: _ = _
    rw [(hkv q hq).2]
  rw [e2]
  exact va_tlen C.1 C.2.1 (hvk.1 q hq).2.2.2 Wd.2.2 hv hd (kk p l e R s m args below meth cc D cs aK A ad0 QS H locs ad ls C RR Wd Ad hl')
theorem Gd_bald {q : Nat} (hq : q < 13) (hin : vp_in x (g_slen.getD q 0)) (hd : g_D Y pc .baload 1 pc') (kk : Gd Y Z k n pc' L (vi ((g_sbyt.getD q []).getD x.toNatClampNeg 0) :: st) h) : Gd Y Z k n pc L (vi x :: vc (100 + q) :: st) h := by
  intro p l e R s m args below meth cc D cs aK A ad0 QS H locs ad ls C RR Wd Ad hl'
  obtain ⟨hd, rfl⟩ := hd
  obtain ⟨adK, adV, hvk, hkv⟩ := C.2.2.2.2.2.2.2.2.1.1
  have e2 : (vi x :: vc (100 + q) :: st : List g_V).map (gc aK ad) = .int x :: .ref (adV q) :: st.map (gc aK ad) := by
    show Value.int x :: aK (100 + q) :: _ = _
    rw [(hkv q hq).2]
  rw [e2]
  exact va_tb C.1 C.2.1 (hvk.1 q hq).2.2.2 Wd.2.2 hin rfl hd (kk p l e R s m args below meth cc D cs aK A ad0 QS H locs ad ls C RR Wd Ad hl')
-- the law's script
theorem Gd_slen {v : Int32} (hz : Z.2.2.2.2.1.1 ≠ 0) (hv : Int32.ofNat Z.2.2.2.2.1.1 = v) (hd : g_D Y pc .arraylength 1 pc') (kk : Gd Y Z k n pc' L (vi v :: st) h) : Gd Y Z k n pc L (vc 300 :: st) h := by
  intro p l e R s m args below meth cc D cs aK A ad0 QS H locs ad ls C RR Wd Ad hl'
  obtain ⟨hd, rfl⟩ := hd
  obtain ⟨bb, h1, h2, h3, h4⟩ := C.2.2.2.2.2.2.2.2.2.2 hz
  have e2 : (vc 300 :: st : List g_V).map (gc aK ad) = .ref bb :: st.map (gc aK ad) := by
    show aK 300 :: _ = _
    rw [h1]
  rw [e2]
  subst hv
  exact va_slen C.1 C.2.1 h2 h3 h4 Wd.2.2 hd (kk p l e R s m args below meth cc D cs aK A ad0 QS H locs ad ls C RR Wd Ad hl')
theorem Gd_sld (hz : Z.2.2.2.2.1.1 ≠ 0) (hin : vp_in x Z.2.2.2.2.1.1) (hd : g_D Y pc .iaload 1 pc') (kk : Gd Y Z k n pc' L (vi (Z.2.2.2.2.1.2 x.toNatClampNeg) :: st) h) : Gd Y Z k n pc L (vi x :: vc 300 :: st) h := by
  intro p l e R s m args below meth cc D cs aK A ad0 QS H locs ad ls C RR Wd Ad hl'
  obtain ⟨hd, rfl⟩ := hd
  obtain ⟨bb, h1, h2, h3, h4⟩ := C.2.2.2.2.2.2.2.2.2.2 hz
  have e2 : (vi x :: vc 300 :: st : List g_V).map (gc aK ad) = .int x :: .ref bb :: st.map (gc aK ad) := by
    show Value.int x :: aK 300 :: _ = _
    rw [h1]
  rw [e2]
  exact va_sld C.1 C.2.1 h2 h3 h4 Wd.2.2 hin hd (kk p l e R s m args below meth cc D cs aK A ad0 QS H locs ad ls C RR Wd Ad hl')
end GM
end
section
theorem g_in2 {w : Cond} {l : List Cond} (i : Nat) (hl : ∀ w ∈ l, w ∈ tables_1) (h : l[i]? = some w) (hg : goodWord w = true) : w ∈ g_T := List.mem_filter.mpr ⟨List.mem_append_right _ (hl w (List.mem_of_getElem? h)), hg⟩
def gl_1_0 : List Cond := [(Jvm.Cond.initialized "HuntersIntroducedLaw"), (Jvm.Cond.initialized "HuntersIntroduced"), (Jvm.Cond.initialized "HuntersIntroduced$Forest"), (Jvm.Cond.initialized "HuntersIntroduced$Reader"), (Jvm.Cond.initialized "HuntersIntroduced$Rules"), (Jvm.Cond.initialized "HuntersIntroduced$Ways"), (Jvm.Cond.initialized "HuntersIntroduced$Lots"), (Jvm.Cond.initialized "HuntersIntroduced$Sheet"), (Jvm.Cond.initialized "java/lang/String"), (Jvm.Cond.initialized "java/lang/StringLatin1"), (Jvm.Cond.initialized "jdk/internal/util/Preconditions"), (Jvm.Cond.initialized "java/lang/StringUTF16"), (Jvm.Cond.initialized "HuntersIntroduced$Text"), (Jvm.Cond.initialized "java/lang/System"), (Jvm.Cond.initialized "HuntersIntroducedModel"), (Jvm.Cond.initialized "java/lang/Integer")]
def gl_1_1 : List Cond := [(Jvm.Cond.initialized "java/lang/Math"), (Jvm.Cond.classLink "HuntersIntroducedLaw" (7 : Nat) "HuntersIntroduced"), (Jvm.Cond.instantiable "HuntersIntroduced" (9 : Nat)), (Jvm.Cond.methodLink "HuntersIntroducedLaw" (9 : Nat) ({ cls := "HuntersIntroduced", name := "<init>", desc := "()V" } : Jvm.MethodName)), (Jvm.Cond.instanceMethod ({ cls := "HuntersIntroduced", name := "<init>", desc := "()V" } : Jvm.MethodName)), (Jvm.Cond.code ({ cls := "HuntersIntroduced", name := "<init>", desc := "()V" } : Jvm.MethodName) prog_1_method_1_code (2 : Nat) (Option.none : Option Jvm.ClassFile.FieldType)), (Jvm.Cond.methodLink "HuntersIntroduced" (1 : Nat) ({ cls := "java/lang/Object", name := "<init>", desc := "()V" } : Jvm.MethodName)), (Jvm.Cond.instanceMethod ({ cls := "java/lang/Object", name := "<init>", desc := "()V" } : Jvm.MethodName)), (Jvm.Cond.code ({ cls := "java/lang/Object", name := "<init>", desc := "()V" } : Jvm.MethodName) object_method_1_code (1 : Nat) (Option.none : Option Jvm.ClassFile.FieldType)), (Jvm.Cond.classLink "HuntersIntroduced" (7 : Nat) "HuntersIntroduced$Forest"), (Jvm.Cond.instantiable "HuntersIntroduced$Forest" (11 : Nat)), (Jvm.Cond.methodLinkNest "HuntersIntroduced" (9 : Nat) ({ cls := "HuntersIntroduced$Forest", name := "<init>", desc := "()V" } : Jvm.MethodName) "HuntersIntroduced"), (Jvm.Cond.instanceMethod ({ cls := "HuntersIntroduced$Forest", name := "<init>", desc := "()V" } : Jvm.MethodName)), (Jvm.Cond.code ({ cls := "HuntersIntroduced$Forest", name := "<init>", desc := "()V" } : Jvm.MethodName) prog_2_method_1_code (1 : Nat) (Option.none : Option Jvm.ClassFile.FieldType)), (Jvm.Cond.methodLink "HuntersIntroduced$Forest" (3 : Nat) ({ cls := "java/lang/Object", name := "<init>", desc := "()V" } : Jvm.MethodName)), (Jvm.Cond.fieldLink "HuntersIntroduced$Forest" (9 : Nat) "HuntersIntroduced$Forest" "shy" "[I")]
def gl_1_2 : List Cond := [(Jvm.Cond.fieldLink "HuntersIntroduced$Rules" (33 : Nat) "HuntersIntroduced$Forest" "shy" "[I"), (Jvm.Cond.fieldLink "HuntersIntroduced" (123 : Nat) "HuntersIntroduced$Forest" "shy" "[I"), (Jvm.Cond.fieldLink "HuntersIntroduced$Forest" (15 : Nat) "HuntersIntroduced$Forest" "alive" "I"), (Jvm.Cond.fieldLink "HuntersIntroduced" (94 : Nat) "HuntersIntroduced$Forest" "alive" "I"), (Jvm.Cond.fieldLink "HuntersIntroduced$Ways" (57 : Nat) "HuntersIntroduced$Forest" "alive" "I"), (Jvm.Cond.fieldLink "HuntersIntroduced$Forest" (19 : Nat) "HuntersIntroduced$Forest" "day" "I"), (Jvm.Cond.fieldLink "HuntersIntroduced" (103 : Nat) "HuntersIntroduced$Forest" "day" "I"), (Jvm.Cond.fieldLink "HuntersIntroduced$Rules" (48 : Nat) "HuntersIntroduced$Forest" "day" "I"), (Jvm.Cond.fieldLink "HuntersIntroduced$Forest" (22 : Nat) "HuntersIntroduced$Forest" "law" "I"), (Jvm.Cond.fieldLink "HuntersIntroduced" (109 : Nat) "HuntersIntroduced$Forest" "law" "I"), (Jvm.Cond.fieldLink "HuntersIntroduced$Rules" (54 : Nat) "HuntersIntroduced$Forest" "law" "I"), (Jvm.Cond.fieldLink "HuntersIntroduced$Forest" (25 : Nat) "HuntersIntroduced$Forest" "hunters" "I"), (Jvm.Cond.fieldLink "HuntersIntroduced$Ways" (19 : Nat) "HuntersIntroduced$Forest" "hunters" "I"), (Jvm.Cond.fieldLink "HuntersIntroduced" (90 : Nat) "HuntersIntroduced$Forest" "hunters" "I"), (Jvm.Cond.fieldLink "HuntersIntroduced$Forest" (28 : Nat) "HuntersIntroduced$Forest" "kind" "[I"), (Jvm.Cond.fieldLink "HuntersIntroduced$Rules" (70 : Nat) "HuntersIntroduced$Forest" "kind" "[I")]
def gl_1_3 : List Cond := [(Jvm.Cond.fieldLink "HuntersIntroduced" (167 : Nat) "HuntersIntroduced$Forest" "kind" "[I"), (Jvm.Cond.fieldLink "HuntersIntroduced$Forest" (31 : Nat) "HuntersIntroduced$Forest" "more" "[I"), (Jvm.Cond.fieldLink "HuntersIntroduced$Rules" (51 : Nat) "HuntersIntroduced$Forest" "more" "[I"), (Jvm.Cond.fieldLink "HuntersIntroduced" (170 : Nat) "HuntersIntroduced$Forest" "more" "[I"), (Jvm.Cond.fieldLink "HuntersIntroduced$Forest" (34 : Nat) "HuntersIntroduced$Forest" "honour" "[I"), (Jvm.Cond.fieldLink "HuntersIntroduced$Rules" (28 : Nat) "HuntersIntroduced$Forest" "honour" "[I"), (Jvm.Cond.fieldLink "HuntersIntroduced" (158 : Nat) "HuntersIntroduced$Forest" "honour" "[I"), (Jvm.Cond.fieldLink "HuntersIntroduced$Forest" (37 : Nat) "HuntersIntroduced$Forest" "met" "[I"), (Jvm.Cond.fieldLink "HuntersIntroduced$Ways" (30 : Nat) "HuntersIntroduced$Forest" "met" "[I"), (Jvm.Cond.fieldLink "HuntersIntroduced$Rules" (36 : Nat) "HuntersIntroduced$Forest" "met" "[I"), (Jvm.Cond.fieldLink "HuntersIntroduced" (164 : Nat) "HuntersIntroduced$Forest" "met" "[I"), (Jvm.Cond.fieldLink "HuntersIntroduced$Forest" (40 : Nat) "HuntersIntroduced$Forest" "cards" "[I"), (Jvm.Cond.fieldLink "HuntersIntroduced$Rules" (45 : Nat) "HuntersIntroduced$Forest" "cards" "[I"), (Jvm.Cond.fieldLink "HuntersIntroduced$Ways" (54 : Nat) "HuntersIntroduced$Forest" "cards" "[I"), (Jvm.Cond.fieldLink "HuntersIntroduced" (161 : Nat) "HuntersIntroduced$Forest" "cards" "[I"), (Jvm.Cond.fieldLink "HuntersIntroduced$Forest" (43 : Nat) "HuntersIntroduced$Forest" "by" "[I")]
def gl_1_4 : List Cond := [(Jvm.Cond.fieldLink "HuntersIntroduced" (181 : Nat) "HuntersIntroduced$Forest" "by" "[I"), (Jvm.Cond.laysFinal "HuntersIntroduced$Forest" "HuntersIntroduced$Forest" "shy" "[I"), (Jvm.Cond.soleField "HuntersIntroduced$Forest" "shy"), (Jvm.Cond.lays "HuntersIntroduced$Forest" "HuntersIntroduced$Forest" "alive" "I"), (Jvm.Cond.soleField "HuntersIntroduced$Forest" "alive"), (Jvm.Cond.lays "HuntersIntroduced$Forest" "HuntersIntroduced$Forest" "day" "I"), (Jvm.Cond.soleField "HuntersIntroduced$Forest" "day"), (Jvm.Cond.lays "HuntersIntroduced$Forest" "HuntersIntroduced$Forest" "law" "I"), (Jvm.Cond.soleField "HuntersIntroduced$Forest" "law"), (Jvm.Cond.lays "HuntersIntroduced$Forest" "HuntersIntroduced$Forest" "hunters" "I"), (Jvm.Cond.soleField "HuntersIntroduced$Forest" "hunters"), (Jvm.Cond.laysFinal "HuntersIntroduced$Forest" "HuntersIntroduced$Forest" "kind" "[I"), (Jvm.Cond.soleField "HuntersIntroduced$Forest" "kind"), (Jvm.Cond.laysFinal "HuntersIntroduced$Forest" "HuntersIntroduced$Forest" "more" "[I"), (Jvm.Cond.soleField "HuntersIntroduced$Forest" "more"), (Jvm.Cond.laysFinal "HuntersIntroduced$Forest" "HuntersIntroduced$Forest" "honour" "[I")]
def gl_1_5 : List Cond := [(Jvm.Cond.soleField "HuntersIntroduced$Forest" "honour"), (Jvm.Cond.laysFinal "HuntersIntroduced$Forest" "HuntersIntroduced$Forest" "met" "[I"), (Jvm.Cond.soleField "HuntersIntroduced$Forest" "met"), (Jvm.Cond.laysFinal "HuntersIntroduced$Forest" "HuntersIntroduced$Forest" "cards" "[I"), (Jvm.Cond.soleField "HuntersIntroduced$Forest" "cards"), (Jvm.Cond.laysFinal "HuntersIntroduced$Forest" "HuntersIntroduced$Forest" "by" "[I"), (Jvm.Cond.soleField "HuntersIntroduced$Forest" "by"), (Jvm.Cond.superclass "HuntersIntroduced$Forest" "java/lang/Object"), (Jvm.Cond.arrayClass Jvm.ClassFile.FieldType.int), (Jvm.Cond.classLink "HuntersIntroduced" (26 : Nat) "HuntersIntroduced$Reader"), (Jvm.Cond.instantiable "HuntersIntroduced$Reader" (11 : Nat)), (Jvm.Cond.methodLinkNest "HuntersIntroduced" (28 : Nat) ({ cls := "HuntersIntroduced$Reader", name := "<init>", desc := "()V" } : Jvm.MethodName) "HuntersIntroduced"), (Jvm.Cond.instanceMethod ({ cls := "HuntersIntroduced$Reader", name := "<init>", desc := "()V" } : Jvm.MethodName)), (Jvm.Cond.code ({ cls := "HuntersIntroduced$Reader", name := "<init>", desc := "()V" } : Jvm.MethodName) prog_4_method_1_code (1 : Nat) (Option.none : Option Jvm.ClassFile.FieldType)), (Jvm.Cond.methodLink "HuntersIntroduced$Reader" (3 : Nat) ({ cls := "java/lang/Object", name := "<init>", desc := "()V" } : Jvm.MethodName)), (Jvm.Cond.fieldLink "HuntersIntroduced$Reader" (9 : Nat) "HuntersIntroduced$Reader" "tape" "[I")]
def gl_1_6 : List Cond := [(Jvm.Cond.fieldLink "HuntersIntroduced$Reader" (15 : Nat) "HuntersIntroduced$Reader" "size" "I"), (Jvm.Cond.fieldLink "HuntersIntroduced" (112 : Nat) "HuntersIntroduced$Reader" "size" "I"), (Jvm.Cond.fieldLink "HuntersIntroduced$Reader" (19 : Nat) "HuntersIntroduced$Reader" "tokens" "[I"), (Jvm.Cond.fieldLink "HuntersIntroduced$Reader" (22 : Nat) "HuntersIntroduced$Reader" "places" "[I"), (Jvm.Cond.fieldLink "HuntersIntroduced$Reader" (25 : Nat) "HuntersIntroduced$Reader" "count" "I"), (Jvm.Cond.fieldLink "HuntersIntroduced$Reader" (28 : Nat) "HuntersIntroduced$Reader" "at" "I"), (Jvm.Cond.fieldLink "HuntersIntroduced$Reader" (31 : Nat) "HuntersIntroduced$Reader" "token" "I"), (Jvm.Cond.fieldLink "HuntersIntroduced$Reader" (34 : Nat) "HuntersIntroduced$Reader" "fault" "I"), (Jvm.Cond.fieldLink "HuntersIntroduced$Reader" (37 : Nat) "HuntersIntroduced$Reader" "code" "[I"), (Jvm.Cond.fieldLink "HuntersIntroduced$Reader" (40 : Nat) "HuntersIntroduced$Reader" "length" "I"), (Jvm.Cond.fieldLink "HuntersIntroduced$Reader" (43 : Nat) "HuntersIntroduced$Reader" "starts" "[I"), (Jvm.Cond.laysFinal "HuntersIntroduced$Reader" "HuntersIntroduced$Reader" "tape" "[I"), (Jvm.Cond.soleField "HuntersIntroduced$Reader" "tape"), (Jvm.Cond.lays "HuntersIntroduced$Reader" "HuntersIntroduced$Reader" "size" "I"), (Jvm.Cond.soleField "HuntersIntroduced$Reader" "size"), (Jvm.Cond.laysFinal "HuntersIntroduced$Reader" "HuntersIntroduced$Reader" "tokens" "[I")]
def gl_1_7 : List Cond := [(Jvm.Cond.soleField "HuntersIntroduced$Reader" "tokens"), (Jvm.Cond.laysFinal "HuntersIntroduced$Reader" "HuntersIntroduced$Reader" "places" "[I"), (Jvm.Cond.soleField "HuntersIntroduced$Reader" "places"), (Jvm.Cond.lays "HuntersIntroduced$Reader" "HuntersIntroduced$Reader" "count" "I"), (Jvm.Cond.soleField "HuntersIntroduced$Reader" "count"), (Jvm.Cond.lays "HuntersIntroduced$Reader" "HuntersIntroduced$Reader" "at" "I"), (Jvm.Cond.soleField "HuntersIntroduced$Reader" "at"), (Jvm.Cond.lays "HuntersIntroduced$Reader" "HuntersIntroduced$Reader" "token" "I"), (Jvm.Cond.soleField "HuntersIntroduced$Reader" "token"), (Jvm.Cond.lays "HuntersIntroduced$Reader" "HuntersIntroduced$Reader" "fault" "I"), (Jvm.Cond.soleField "HuntersIntroduced$Reader" "fault"), (Jvm.Cond.laysFinal "HuntersIntroduced$Reader" "HuntersIntroduced$Reader" "code" "[I"), (Jvm.Cond.soleField "HuntersIntroduced$Reader" "code"), (Jvm.Cond.lays "HuntersIntroduced$Reader" "HuntersIntroduced$Reader" "length" "I"), (Jvm.Cond.soleField "HuntersIntroduced$Reader" "length"), (Jvm.Cond.laysFinal "HuntersIntroduced$Reader" "HuntersIntroduced$Reader" "starts" "[I")]
def gl_1_8 : List Cond := [(Jvm.Cond.soleField "HuntersIntroduced$Reader" "starts"), (Jvm.Cond.superclass "HuntersIntroduced$Reader" "java/lang/Object"), (Jvm.Cond.classLink "HuntersIntroduced" (33 : Nat) "HuntersIntroduced$Rules"), (Jvm.Cond.instantiable "HuntersIntroduced$Rules" (4 : Nat)), (Jvm.Cond.methodLinkNest "HuntersIntroduced" (35 : Nat) ({ cls := "HuntersIntroduced$Rules", name := "<init>", desc := "()V" } : Jvm.MethodName) "HuntersIntroduced"), (Jvm.Cond.instanceMethod ({ cls := "HuntersIntroduced$Rules", name := "<init>", desc := "()V" } : Jvm.MethodName)), (Jvm.Cond.code ({ cls := "HuntersIntroduced$Rules", name := "<init>", desc := "()V" } : Jvm.MethodName) prog_5_method_1_code (1 : Nat) (Option.none : Option Jvm.ClassFile.FieldType)), (Jvm.Cond.methodLink "HuntersIntroduced$Rules" (3 : Nat) ({ cls := "java/lang/Object", name := "<init>", desc := "()V" } : Jvm.MethodName)), (Jvm.Cond.classLink "HuntersIntroduced$Rules" (9 : Nat) "HuntersIntroduced$Text"), (Jvm.Cond.arrayOver (Jvm.ClassFile.FieldType.object "HuntersIntroduced$Text")), (Jvm.Cond.fieldLink "HuntersIntroduced$Rules" (11 : Nat) "HuntersIntroduced$Rules" "all" "[LHuntersIntroduced$Text;"), (Jvm.Cond.fieldLink "HuntersIntroduced$Rules" (17 : Nat) "HuntersIntroduced$Rules" "texts" "I"), (Jvm.Cond.fieldLink "HuntersIntroduced" (106 : Nat) "HuntersIntroduced$Rules" "texts" "I"), (Jvm.Cond.fieldLink "HuntersIntroduced$Rules" (21 : Nat) "HuntersIntroduced$Rules" "names" "[I"), (Jvm.Cond.fieldLink "HuntersIntroduced$Rules" (25 : Nat) "HuntersIntroduced$Rules" "stack" "[I"), (Jvm.Cond.laysFinal "HuntersIntroduced$Rules" "HuntersIntroduced$Rules" "all" "[LHuntersIntroduced$Text;")]
def gl_1_9 : List Cond := [(Jvm.Cond.soleField "HuntersIntroduced$Rules" "all"), (Jvm.Cond.lays "HuntersIntroduced$Rules" "HuntersIntroduced$Rules" "texts" "I"), (Jvm.Cond.soleField "HuntersIntroduced$Rules" "texts"), (Jvm.Cond.laysFinal "HuntersIntroduced$Rules" "HuntersIntroduced$Rules" "names" "[I"), (Jvm.Cond.soleField "HuntersIntroduced$Rules" "names"), (Jvm.Cond.laysFinal "HuntersIntroduced$Rules" "HuntersIntroduced$Rules" "stack" "[I"), (Jvm.Cond.soleField "HuntersIntroduced$Rules" "stack"), (Jvm.Cond.superclass "HuntersIntroduced$Rules" "java/lang/Object"), (Jvm.Cond.classLink "HuntersIntroduced" (40 : Nat) "HuntersIntroduced$Ways"), (Jvm.Cond.instantiable "HuntersIntroduced$Ways" (2 : Nat)), (Jvm.Cond.methodLinkNest "HuntersIntroduced" (42 : Nat) ({ cls := "HuntersIntroduced$Ways", name := "<init>", desc := "()V" } : Jvm.MethodName) "HuntersIntroduced"), (Jvm.Cond.instanceMethod ({ cls := "HuntersIntroduced$Ways", name := "<init>", desc := "()V" } : Jvm.MethodName)), (Jvm.Cond.code ({ cls := "HuntersIntroduced$Ways", name := "<init>", desc := "()V" } : Jvm.MethodName) prog_8_method_1_code (1 : Nat) (Option.none : Option Jvm.ClassFile.FieldType)), (Jvm.Cond.methodLink "HuntersIntroduced$Ways" (3 : Nat) ({ cls := "java/lang/Object", name := "<init>", desc := "()V" } : Jvm.MethodName)), (Jvm.Cond.fieldLink "HuntersIntroduced$Ways" (9 : Nat) "HuntersIntroduced$Ways" "willing" "I"), (Jvm.Cond.fieldLink "HuntersIntroduced$Ways" (15 : Nat) "HuntersIntroduced$Ways" "far" "[I")]
def gl_1_10 : List Cond := [(Jvm.Cond.fieldLink "HuntersIntroduced" (213 : Nat) "HuntersIntroduced$Ways" "far" "[I"), (Jvm.Cond.lays "HuntersIntroduced$Ways" "HuntersIntroduced$Ways" "willing" "I"), (Jvm.Cond.soleField "HuntersIntroduced$Ways" "willing"), (Jvm.Cond.laysFinal "HuntersIntroduced$Ways" "HuntersIntroduced$Ways" "far" "[I"), (Jvm.Cond.soleField "HuntersIntroduced$Ways" "far"), (Jvm.Cond.superclass "HuntersIntroduced$Ways" "java/lang/Object"), (Jvm.Cond.classLink "HuntersIntroduced" (47 : Nat) "HuntersIntroduced$Lots"), (Jvm.Cond.instantiable "HuntersIntroduced$Lots" (1 : Nat)), (Jvm.Cond.methodLinkNest "HuntersIntroduced" (49 : Nat) ({ cls := "HuntersIntroduced$Lots", name := "<init>", desc := "()V" } : Jvm.MethodName) "HuntersIntroduced"), (Jvm.Cond.instanceMethod ({ cls := "HuntersIntroduced$Lots", name := "<init>", desc := "()V" } : Jvm.MethodName)), (Jvm.Cond.code ({ cls := "HuntersIntroduced$Lots", name := "<init>", desc := "()V" } : Jvm.MethodName) prog_3_method_1_code (1 : Nat) (Option.none : Option Jvm.ClassFile.FieldType)), (Jvm.Cond.methodLink "HuntersIntroduced$Lots" (1 : Nat) ({ cls := "java/lang/Object", name := "<init>", desc := "()V" } : Jvm.MethodName)), (Jvm.Cond.fieldLink "HuntersIntroduced$Lots" (7 : Nat) "HuntersIntroduced$Lots" "last" "J"), (Jvm.Cond.lays "HuntersIntroduced$Lots" "HuntersIntroduced$Lots" "last" "J"), (Jvm.Cond.soleField "HuntersIntroduced$Lots" "last"), (Jvm.Cond.superclass "HuntersIntroduced$Lots" "java/lang/Object")]
def gl_1_11 : List Cond := [(Jvm.Cond.classLink "HuntersIntroduced" (54 : Nat) "HuntersIntroduced$Sheet"), (Jvm.Cond.arrayOver (Jvm.ClassFile.FieldType.object "HuntersIntroduced$Sheet")), (Jvm.Cond.instantiable "HuntersIntroduced$Sheet" (3 : Nat)), (Jvm.Cond.methodLinkNest "HuntersIntroduced" (60 : Nat) ({ cls := "HuntersIntroduced$Sheet", name := "<init>", desc := "()V" } : Jvm.MethodName) "HuntersIntroduced"), (Jvm.Cond.instanceMethod ({ cls := "HuntersIntroduced$Sheet", name := "<init>", desc := "()V" } : Jvm.MethodName)), (Jvm.Cond.code ({ cls := "HuntersIntroduced$Sheet", name := "<init>", desc := "()V" } : Jvm.MethodName) prog_6_method_1_code (1 : Nat) (Option.none : Option Jvm.ClassFile.FieldType)), (Jvm.Cond.methodLink "HuntersIntroduced$Sheet" (3 : Nat) ({ cls := "java/lang/Object", name := "<init>", desc := "()V" } : Jvm.MethodName)), (Jvm.Cond.fieldLink "HuntersIntroduced$Sheet" (9 : Nat) "HuntersIntroduced$Sheet" "sort" "I"), (Jvm.Cond.fieldLink "HuntersIntroduced" (287 : Nat) "HuntersIntroduced$Sheet" "sort" "I"), (Jvm.Cond.fieldLink "HuntersIntroduced$Sheet" (15 : Nat) "HuntersIntroduced$Sheet" "size" "I"), (Jvm.Cond.fieldLink "HuntersIntroduced" (267 : Nat) "HuntersIntroduced$Sheet" "size" "I"), (Jvm.Cond.fieldLink "HuntersIntroduced$Sheet" (18 : Nat) "HuntersIntroduced$Sheet" "row" "[I"), (Jvm.Cond.fieldLink "HuntersIntroduced" (270 : Nat) "HuntersIntroduced$Sheet" "row" "[I"), (Jvm.Cond.lays "HuntersIntroduced$Sheet" "HuntersIntroduced$Sheet" "sort" "I"), (Jvm.Cond.soleField "HuntersIntroduced$Sheet" "sort"), (Jvm.Cond.lays "HuntersIntroduced$Sheet" "HuntersIntroduced$Sheet" "size" "I")]
def gl_1_12 : List Cond := [(Jvm.Cond.soleField "HuntersIntroduced$Sheet" "size"), (Jvm.Cond.laysFinal "HuntersIntroduced$Sheet" "HuntersIntroduced$Sheet" "row" "[I"), (Jvm.Cond.soleField "HuntersIntroduced$Sheet" "row"), (Jvm.Cond.superclass "HuntersIntroduced$Sheet" "java/lang/Object"), (Jvm.Cond.stringRef "HuntersIntroduced" (61 : Nat) "honours 3 ; hits honour ; wills 1 ;"), (Jvm.Cond.methodLink "HuntersIntroduced" (63 : Nat) ({ cls := "java/lang/String", name := "length", desc := "()I" } : Jvm.MethodName)), (Jvm.Cond.instanceMethod ({ cls := "java/lang/String", name := "length", desc := "()I" } : Jvm.MethodName)), (Jvm.Cond.selects "java/lang/String" ({ cls := "java/lang/String", name := "length", desc := "()I" } : Jvm.MethodName) ({ cls := "java/lang/String", name := "length", desc := "()I" } : Jvm.MethodName)), (Jvm.Cond.code ({ cls := "java/lang/String", name := "length", desc := "()I" } : Jvm.MethodName) prog_14_method_54_code (1 : Nat) (Option.some Jvm.ClassFile.FieldType.int)), (Jvm.Cond.methodLink "java/lang/String" (335 : Nat) ({ cls := "java/lang/String", name := "coder", desc := "()B" } : Jvm.MethodName)), (Jvm.Cond.instanceMethod ({ cls := "java/lang/String", name := "coder", desc := "()B" } : Jvm.MethodName)), (Jvm.Cond.selects "java/lang/String" ({ cls := "java/lang/String", name := "coder", desc := "()B" } : Jvm.MethodName) ({ cls := "java/lang/String", name := "coder", desc := "()B" } : Jvm.MethodName)), (Jvm.Cond.code ({ cls := "java/lang/String", name := "coder", desc := "()B" } : Jvm.MethodName) prog_14_method_152_code (1 : Nat) (Option.some Jvm.ClassFile.FieldType.byte)), (Jvm.Cond.fieldLink "java/lang/String" (38 : Nat) "java/lang/String" "COMPACT_STRINGS" "Z"), (Jvm.Cond.laysStatic "java/lang/String" "COMPACT_STRINGS" "Z"), (Jvm.Cond.methodLink "HuntersIntroduced" (69 : Nat) ({ cls := "java/lang/String", name := "charAt", desc := "(I)C" } : Jvm.MethodName))]
def gl_1_13 : List Cond := [(Jvm.Cond.instanceMethod ({ cls := "java/lang/String", name := "charAt", desc := "(I)C" } : Jvm.MethodName)), (Jvm.Cond.selects "java/lang/String" ({ cls := "java/lang/String", name := "charAt", desc := "(I)C" } : Jvm.MethodName) ({ cls := "java/lang/String", name := "charAt", desc := "(I)C" } : Jvm.MethodName)), (Jvm.Cond.code ({ cls := "java/lang/String", name := "charAt", desc := "(I)C" } : Jvm.MethodName) prog_14_method_56_code (2 : Nat) (Option.some Jvm.ClassFile.FieldType.char)), (Jvm.Cond.methodLink "java/lang/String" (492 : Nat) ({ cls := "java/lang/String", name := "isLatin1", desc := "()Z" } : Jvm.MethodName)), (Jvm.Cond.instanceMethod ({ cls := "java/lang/String", name := "isLatin1", desc := "()Z" } : Jvm.MethodName)), (Jvm.Cond.selects "java/lang/String" ({ cls := "java/lang/String", name := "isLatin1", desc := "()Z" } : Jvm.MethodName) ({ cls := "java/lang/String", name := "isLatin1", desc := "()Z" } : Jvm.MethodName)), (Jvm.Cond.code ({ cls := "java/lang/String", name := "isLatin1", desc := "()Z" } : Jvm.MethodName) prog_14_method_154_code (1 : Nat) (Option.some Jvm.ClassFile.FieldType.boolean)), (Jvm.Cond.methodLink "java/lang/String" (495 : Nat) ({ cls := "java/lang/StringLatin1", name := "charAt", desc := "([BI)C" } : Jvm.MethodName)), (Jvm.Cond.static ({ cls := "java/lang/StringLatin1", name := "charAt", desc := "([BI)C" } : Jvm.MethodName)), (Jvm.Cond.code ({ cls := "java/lang/StringLatin1", name := "charAt", desc := "([BI)C" } : Jvm.MethodName) prog_15_method_2_code (2 : Nat) (Option.some Jvm.ClassFile.FieldType.char)), (Jvm.Cond.methodLink "java/lang/StringLatin1" (9 : Nat) ({ cls := "java/lang/String", name := "checkIndex", desc := "(II)V" } : Jvm.MethodName)), (Jvm.Cond.static ({ cls := "java/lang/String", name := "checkIndex", desc := "(II)V" } : Jvm.MethodName)), (Jvm.Cond.code ({ cls := "java/lang/String", name := "checkIndex", desc := "(II)V" } : Jvm.MethodName) prog_14_method_155_code (2 : Nat) (Option.none : Option Jvm.ClassFile.FieldType)), (Jvm.Cond.fieldLink "java/lang/String" (1053 : Nat) "jdk/internal/util/Preconditions" "SIOOBE_FORMATTER" "Ljava/util/function/BiFunction;"), (Jvm.Cond.laysStatic "jdk/internal/util/Preconditions" "SIOOBE_FORMATTER" "Ljava/util/function/BiFunction;"), (Jvm.Cond.methodLink "java/lang/String" (1059 : Nat) ({ cls := "jdk/internal/util/Preconditions", name := "checkIndex", desc := "(IILjava/util/function/BiFunction;)I" } : Jvm.MethodName))]
def gl_1_14 : List Cond := [(Jvm.Cond.static ({ cls := "jdk/internal/util/Preconditions", name := "checkIndex", desc := "(IILjava/util/function/BiFunction;)I" } : Jvm.MethodName)), (Jvm.Cond.code ({ cls := "jdk/internal/util/Preconditions", name := "checkIndex", desc := "(IILjava/util/function/BiFunction;)I" } : Jvm.MethodName) prog_18_method_11_code (3 : Nat) (Option.some Jvm.ClassFile.FieldType.int)), (Jvm.Cond.methodLink "java/lang/String" (498 : Nat) ({ cls := "java/lang/StringUTF16", name := "charAt", desc := "([BI)C" } : Jvm.MethodName)), (Jvm.Cond.static ({ cls := "java/lang/StringUTF16", name := "charAt", desc := "([BI)C" } : Jvm.MethodName)), (Jvm.Cond.code ({ cls := "java/lang/StringUTF16", name := "charAt", desc := "([BI)C" } : Jvm.MethodName) prog_16_method_83_code (2 : Nat) (Option.some Jvm.ClassFile.FieldType.char)), (Jvm.Cond.methodLink "java/lang/StringUTF16" (67 : Nat) ({ cls := "java/lang/StringUTF16", name := "checkIndex", desc := "(I[B)V" } : Jvm.MethodName)), (Jvm.Cond.static ({ cls := "java/lang/StringUTF16", name := "checkIndex", desc := "(I[B)V" } : Jvm.MethodName)), (Jvm.Cond.code ({ cls := "java/lang/StringUTF16", name := "checkIndex", desc := "(I[B)V" } : Jvm.MethodName) prog_16_method_91_code (2 : Nat) (Option.none : Option Jvm.ClassFile.FieldType)), (Jvm.Cond.methodLink "java/lang/StringUTF16" (48 : Nat) ({ cls := "java/lang/StringUTF16", name := "length", desc := "([B)I" } : Jvm.MethodName)), (Jvm.Cond.static ({ cls := "java/lang/StringUTF16", name := "length", desc := "([B)I" } : Jvm.MethodName)), (Jvm.Cond.code ({ cls := "java/lang/StringUTF16", name := "length", desc := "([B)I" } : Jvm.MethodName) prog_16_method_6_code (1 : Nat) (Option.some Jvm.ClassFile.FieldType.int)), (Jvm.Cond.methodLink "java/lang/StringUTF16" (414 : Nat) ({ cls := "java/lang/String", name := "checkIndex", desc := "(II)V" } : Jvm.MethodName)), (Jvm.Cond.methodLink "java/lang/StringUTF16" (71 : Nat) ({ cls := "java/lang/StringUTF16", name := "getChar", desc := "([BI)C" } : Jvm.MethodName)), (Jvm.Cond.static ({ cls := "java/lang/StringUTF16", name := "getChar", desc := "([BI)C" } : Jvm.MethodName)), (Jvm.Cond.code ({ cls := "java/lang/StringUTF16", name := "getChar", desc := "([BI)C" } : Jvm.MethodName) prog_16_method_5_code (2 : Nat) (Option.some Jvm.ClassFile.FieldType.char)), (Jvm.Cond.fieldLink "java/lang/StringUTF16" (44 : Nat) "java/lang/StringUTF16" "$assertionsDisabled" "Z")]
set_option maxRecDepth 100000 in
theorem tq_1 : tables_1_1 = gl_1_0 ++ (gl_1_1 ++ (gl_1_2 ++ (gl_1_3 ++ (gl_1_4 ++ (gl_1_5 ++ (gl_1_6 ++ (gl_1_7 ++ (gl_1_8 ++ (gl_1_9 ++ (gl_1_10 ++ (gl_1_11 ++ (gl_1_12 ++ (gl_1_13 ++ (gl_1_14)))))))))))))) := rfl
theorem ck_1_0 : ∀ w ∈ gl_1_0, w ∈ tables_1 := fun w h => List.mem_append_left _ (tq_1 ▸ (List.mem_append_left _ h) : w ∈ tables_1_1)
theorem ck_1_1 : ∀ w ∈ gl_1_1, w ∈ tables_1 := fun w h => List.mem_append_left _ (tq_1 ▸ (List.mem_append_right _ (List.mem_append_left _ h)) : w ∈ tables_1_1)
theorem ck_1_2 : ∀ w ∈ gl_1_2, w ∈ tables_1 := fun w h => List.mem_append_left _ (tq_1 ▸ (List.mem_append_right _ (List.mem_append_right _ (List.mem_append_left _ h))) : w ∈ tables_1_1)
theorem ck_1_3 : ∀ w ∈ gl_1_3, w ∈ tables_1 := fun w h => List.mem_append_left _ (tq_1 ▸ (List.mem_append_right _ (List.mem_append_right _ (List.mem_append_right _ (List.mem_append_left _ h)))) : w ∈ tables_1_1)
theorem ck_1_4 : ∀ w ∈ gl_1_4, w ∈ tables_1 := fun w h => List.mem_append_left _ (tq_1 ▸ (List.mem_append_right _ (List.mem_append_right _ (List.mem_append_right _ (List.mem_append_right _ (List.mem_append_left _ h))))) : w ∈ tables_1_1)
theorem ck_1_5 : ∀ w ∈ gl_1_5, w ∈ tables_1 := fun w h => List.mem_append_left _ (tq_1 ▸ (List.mem_append_right _ (List.mem_append_right _ (List.mem_append_right _ (List.mem_append_right _ (List.mem_append_right _ (List.mem_append_left _ h)))))) : w ∈ tables_1_1)
theorem ck_1_6 : ∀ w ∈ gl_1_6, w ∈ tables_1 := fun w h => List.mem_append_left _ (tq_1 ▸ (List.mem_append_right _ (List.mem_append_right _ (List.mem_append_right _ (List.mem_append_right _ (List.mem_append_right _ (List.mem_append_right _ (List.mem_append_left _ h))))))) : w ∈ tables_1_1)
theorem ck_1_7 : ∀ w ∈ gl_1_7, w ∈ tables_1 := fun w h => List.mem_append_left _ (tq_1 ▸ (List.mem_append_right _ (List.mem_append_right _ (List.mem_append_right _ (List.mem_append_right _ (List.mem_append_right _ (List.mem_append_right _ (List.mem_append_right _ (List.mem_append_left _ h)))))))) : w ∈ tables_1_1)
theorem ck_1_8 : ∀ w ∈ gl_1_8, w ∈ tables_1 := fun w h => List.mem_append_left _ (tq_1 ▸ (List.mem_append_right _ (List.mem_append_right _ (List.mem_append_right _ (List.mem_append_right _ (List.mem_append_right _ (List.mem_append_right _ (List.mem_append_right _ (List.mem_append_right _ (List.mem_append_left _ h))))))))) : w ∈ tables_1_1)
theorem ck_1_9 : ∀ w ∈ gl_1_9, w ∈ tables_1 := fun w h => List.mem_append_left _ (tq_1 ▸ (List.mem_append_right _ (List.mem_append_right _ (List.mem_append_right _ (List.mem_append_right _ (List.mem_append_right _ (List.mem_append_right _ (List.mem_append_right _ (List.mem_append_right _ (List.mem_append_right _ (List.mem_append_left _ h)))))))))) : w ∈ tables_1_1)
theorem ck_1_10 : ∀ w ∈ gl_1_10, w ∈ tables_1 := fun w h => List.mem_append_left _ (tq_1 ▸ (List.mem_append_right _ (List.mem_append_right _ (List.mem_append_right _ (List.mem_append_right _ (List.mem_append_right _ (List.mem_append_right _ (List.mem_append_right _ (List.mem_append_right _ (List.mem_append_right _ (List.mem_append_right _ (List.mem_append_left _ h))))))))))) : w ∈ tables_1_1)
theorem ck_1_11 : ∀ w ∈ gl_1_11, w ∈ tables_1 := fun w h => List.mem_append_left _ (tq_1 ▸ (List.mem_append_right _ (List.mem_append_right _ (List.mem_append_right _ (List.mem_append_right _ (List.mem_append_right _ (List.mem_append_right _ (List.mem_append_right _ (List.mem_append_right _ (List.mem_append_right _ (List.mem_append_right _ (List.mem_append_right _ (List.mem_append_left _ h)))))))))))) : w ∈ tables_1_1)
theorem ck_1_12 : ∀ w ∈ gl_1_12, w ∈ tables_1 := fun w h => List.mem_append_left _ (tq_1 ▸ (List.mem_append_right _ (List.mem_append_right _ (List.mem_append_right _ (List.mem_append_right _ (List.mem_append_right _ (List.mem_append_right _ (List.mem_append_right _ (List.mem_append_right _ (List.mem_append_right _ (List.mem_append_right _ (List.mem_append_right _ (List.mem_append_right _ (List.mem_append_left _ h))))))))))))) : w ∈ tables_1_1)
theorem ck_1_13 : ∀ w ∈ gl_1_13, w ∈ tables_1 := fun w h => List.mem_append_left _ (tq_1 ▸ (List.mem_append_right _ (List.mem_append_right _ (List.mem_append_right _ (List.mem_append_right _ (List.mem_append_right _ (List.mem_append_right _ (List.mem_append_right _ (List.mem_append_right _ (List.mem_append_right _ (List.mem_append_right _ (List.mem_append_right _ (List.mem_append_right _ (List.mem_append_right _ (List.mem_append_left _ h)))))))))))))) : w ∈ tables_1_1)
theorem ck_1_14 : ∀ w ∈ gl_1_14, w ∈ tables_1 := fun w h => List.mem_append_left _ (tq_1 ▸ (List.mem_append_right _ (List.mem_append_right _ (List.mem_append_right _ (List.mem_append_right _ (List.mem_append_right _ (List.mem_append_right _ (List.mem_append_right _ (List.mem_append_right _ (List.mem_append_right _ (List.mem_append_right _ (List.mem_append_right _ (List.mem_append_right _ (List.mem_append_right _ (List.mem_append_right _ (h))))))))))))))) : w ∈ tables_1_1)
def gl_2_0 : List Cond := [(Jvm.Cond.laysStatic "java/lang/StringUTF16" "$assertionsDisabled" "Z"), (Jvm.Cond.fieldLink "java/lang/StringUTF16" (59 : Nat) "java/lang/StringUTF16" "HI_BYTE_SHIFT" "I"), (Jvm.Cond.laysStatic "java/lang/StringUTF16" "HI_BYTE_SHIFT" "I"), (Jvm.Cond.fieldLink "java/lang/StringUTF16" (63 : Nat) "java/lang/StringUTF16" "LO_BYTE_SHIFT" "I"), (Jvm.Cond.laysStatic "java/lang/StringUTF16" "LO_BYTE_SHIFT" "I"), (Jvm.Cond.methodLink "HuntersIntroduced" (73 : Nat) ({ cls := "HuntersIntroduced$Reader", name := "add", desc := "(I)V" } : Jvm.MethodName)), (Jvm.Cond.instanceMethod ({ cls := "HuntersIntroduced$Reader", name := "add", desc := "(I)V" } : Jvm.MethodName)), (Jvm.Cond.selects "HuntersIntroduced$Reader" ({ cls := "HuntersIntroduced$Reader", name := "add", desc := "(I)V" } : Jvm.MethodName) ({ cls := "HuntersIntroduced$Reader", name := "add", desc := "(I)V" } : Jvm.MethodName)), (Jvm.Cond.code ({ cls := "HuntersIntroduced$Reader", name := "add", desc := "(I)V" } : Jvm.MethodName) prog_4_method_2_code (2 : Nat) (Option.none : Option Jvm.ClassFile.FieldType)), (Jvm.Cond.methodLink "HuntersIntroduced" (77 : Nat) ({ cls := "HuntersIntroduced$Reader", name := "read", desc := "()I" } : Jvm.MethodName)), (Jvm.Cond.instanceMethod ({ cls := "HuntersIntroduced$Reader", name := "read", desc := "()I" } : Jvm.MethodName)), (Jvm.Cond.selects "HuntersIntroduced$Reader" ({ cls := "HuntersIntroduced$Reader", name := "read", desc := "()I" } : Jvm.MethodName) ({ cls := "HuntersIntroduced$Reader", name := "read", desc := "()I" } : Jvm.MethodName)), (Jvm.Cond.code ({ cls := "HuntersIntroduced$Reader", name := "read", desc := "()I" } : Jvm.MethodName) prog_4_method_4_code (2 : Nat) (Option.some Jvm.ClassFile.FieldType.int)), (Jvm.Cond.methodLink "HuntersIntroduced$Reader" (46 : Nat) ({ cls := "HuntersIntroduced$Reader", name := "scan", desc := "()V" } : Jvm.MethodName)), (Jvm.Cond.privateMethod ({ cls := "HuntersIntroduced$Reader", name := "scan", desc := "()V" } : Jvm.MethodName)), (Jvm.Cond.instanceMethod ({ cls := "HuntersIntroduced$Reader", name := "scan", desc := "()V" } : Jvm.MethodName))]
def gl_2_1 : List Cond := [(Jvm.Cond.code ({ cls := "HuntersIntroduced$Reader", name := "scan", desc := "()V" } : Jvm.MethodName) prog_4_method_6_code (3 : Nat) (Option.none : Option Jvm.ClassFile.FieldType)), (Jvm.Cond.methodLink "HuntersIntroduced$Reader" (62 : Nat) ({ cls := "HuntersIntroduced$Reader", name := "endFrom", desc := "(I)I" } : Jvm.MethodName)), (Jvm.Cond.privateMethod ({ cls := "HuntersIntroduced$Reader", name := "endFrom", desc := "(I)I" } : Jvm.MethodName)), (Jvm.Cond.instanceMethod ({ cls := "HuntersIntroduced$Reader", name := "endFrom", desc := "(I)I" } : Jvm.MethodName)), (Jvm.Cond.code ({ cls := "HuntersIntroduced$Reader", name := "endFrom", desc := "(I)I" } : Jvm.MethodName) prog_4_method_7_code (5 : Nat) (Option.some Jvm.ClassFile.FieldType.int)), (Jvm.Cond.methodLink "HuntersIntroduced$Reader" (70 : Nat) ({ cls := "HuntersIntroduced$Reader", name := "sortOf", desc := "(I)I" } : Jvm.MethodName)), (Jvm.Cond.static ({ cls := "HuntersIntroduced$Reader", name := "sortOf", desc := "(I)I" } : Jvm.MethodName)), (Jvm.Cond.code ({ cls := "HuntersIntroduced$Reader", name := "sortOf", desc := "(I)I" } : Jvm.MethodName) prog_4_method_8_code (1 : Nat) (Option.some Jvm.ClassFile.FieldType.int)), (Jvm.Cond.methodLink "HuntersIntroduced$Reader" (66 : Nat) ({ cls := "HuntersIntroduced$Reader", name := "tokenOf", desc := "(II)I" } : Jvm.MethodName)), (Jvm.Cond.privateMethod ({ cls := "HuntersIntroduced$Reader", name := "tokenOf", desc := "(II)I" } : Jvm.MethodName)), (Jvm.Cond.instanceMethod ({ cls := "HuntersIntroduced$Reader", name := "tokenOf", desc := "(II)I" } : Jvm.MethodName)), (Jvm.Cond.code ({ cls := "HuntersIntroduced$Reader", name := "tokenOf", desc := "(II)I" } : Jvm.MethodName) prog_4_method_9_code (3 : Nat) (Option.some Jvm.ClassFile.FieldType.int)), (Jvm.Cond.methodLink "HuntersIntroduced$Reader" (73 : Nat) ({ cls := "HuntersIntroduced$Reader", name := "wordFrom", desc := "(II)I" } : Jvm.MethodName)), (Jvm.Cond.privateMethod ({ cls := "HuntersIntroduced$Reader", name := "wordFrom", desc := "(II)I" } : Jvm.MethodName)), (Jvm.Cond.instanceMethod ({ cls := "HuntersIntroduced$Reader", name := "wordFrom", desc := "(II)I" } : Jvm.MethodName)), (Jvm.Cond.code ({ cls := "HuntersIntroduced$Reader", name := "wordFrom", desc := "(II)I" } : Jvm.MethodName) prog_4_method_12_code (3 : Nat) (Option.some Jvm.ClassFile.FieldType.int))]
def gl_2_2 : List Cond := [(Jvm.Cond.stringRef "HuntersIntroduced$Reader" (83 : Nat) "honours"), (Jvm.Cond.methodLink "HuntersIntroduced$Reader" (85 : Nat) ({ cls := "HuntersIntroduced$Reader", name := "stands", desc := "(Ljava/lang/String;II)Z" } : Jvm.MethodName)), (Jvm.Cond.privateMethod ({ cls := "HuntersIntroduced$Reader", name := "stands", desc := "(Ljava/lang/String;II)Z" } : Jvm.MethodName)), (Jvm.Cond.instanceMethod ({ cls := "HuntersIntroduced$Reader", name := "stands", desc := "(Ljava/lang/String;II)Z" } : Jvm.MethodName)), (Jvm.Cond.code ({ cls := "HuntersIntroduced$Reader", name := "stands", desc := "(Ljava/lang/String;II)Z" } : Jvm.MethodName) prog_4_method_13_code (5 : Nat) (Option.some Jvm.ClassFile.FieldType.boolean)), (Jvm.Cond.methodLink "HuntersIntroduced$Reader" (111 : Nat) ({ cls := "java/lang/String", name := "length", desc := "()I" } : Jvm.MethodName)), (Jvm.Cond.methodLink "HuntersIntroduced$Reader" (116 : Nat) ({ cls := "java/lang/String", name := "charAt", desc := "(I)C" } : Jvm.MethodName)), (Jvm.Cond.stringRef "HuntersIntroduced$Reader" (89 : Nat) "hits"), (Jvm.Cond.stringRef "HuntersIntroduced$Reader" (91 : Nat) "wills"), (Jvm.Cond.stringRef "HuntersIntroduced$Reader" (93 : Nat) "or"), (Jvm.Cond.stringRef "HuntersIntroduced$Reader" (95 : Nat) "and"), (Jvm.Cond.stringRef "HuntersIntroduced$Reader" (97 : Nat) "not"), (Jvm.Cond.stringRef "HuntersIntroduced$Reader" (99 : Nat) "honour"), (Jvm.Cond.stringRef "HuntersIntroduced$Reader" (101 : Nat) "shy"), (Jvm.Cond.stringRef "HuntersIntroduced$Reader" (103 : Nat) "met"), (Jvm.Cond.stringRef "HuntersIntroduced$Reader" (105 : Nat) "cards")]
def gl_2_3 : List Cond := [(Jvm.Cond.stringRef "HuntersIntroduced$Reader" (107 : Nat) "day"), (Jvm.Cond.stringRef "HuntersIntroduced$Reader" (109 : Nat) "more"), (Jvm.Cond.methodLink "HuntersIntroduced$Reader" (76 : Nat) ({ cls := "HuntersIntroduced$Reader", name := "numberFrom", desc := "(II)I" } : Jvm.MethodName)), (Jvm.Cond.privateMethod ({ cls := "HuntersIntroduced$Reader", name := "numberFrom", desc := "(II)I" } : Jvm.MethodName)), (Jvm.Cond.instanceMethod ({ cls := "HuntersIntroduced$Reader", name := "numberFrom", desc := "(II)I" } : Jvm.MethodName)), (Jvm.Cond.code ({ cls := "HuntersIntroduced$Reader", name := "numberFrom", desc := "(II)I" } : Jvm.MethodName) prog_4_method_11_code (5 : Nat) (Option.some Jvm.ClassFile.FieldType.int)), (Jvm.Cond.methodLink "HuntersIntroduced$Reader" (79 : Nat) ({ cls := "HuntersIntroduced$Reader", name := "isSign", desc := "(I)Z" } : Jvm.MethodName)), (Jvm.Cond.static ({ cls := "HuntersIntroduced$Reader", name := "isSign", desc := "(I)Z" } : Jvm.MethodName)), (Jvm.Cond.code ({ cls := "HuntersIntroduced$Reader", name := "isSign", desc := "(I)Z" } : Jvm.MethodName) prog_4_method_10_code (1 : Nat) (Option.some Jvm.ClassFile.FieldType.boolean)), (Jvm.Cond.methodLink "HuntersIntroduced$Reader" (49 : Nat) ({ cls := "HuntersIntroduced$Reader", name := "expect", desc := "(I)V" } : Jvm.MethodName)), (Jvm.Cond.privateMethod ({ cls := "HuntersIntroduced$Reader", name := "expect", desc := "(I)V" } : Jvm.MethodName)), (Jvm.Cond.instanceMethod ({ cls := "HuntersIntroduced$Reader", name := "expect", desc := "(I)V" } : Jvm.MethodName)), (Jvm.Cond.code ({ cls := "HuntersIntroduced$Reader", name := "expect", desc := "(I)V" } : Jvm.MethodName) prog_4_method_16_code (2 : Nat) (Option.none : Option Jvm.ClassFile.FieldType)), (Jvm.Cond.methodLink "HuntersIntroduced$Reader" (120 : Nat) ({ cls := "HuntersIntroduced$Reader", name := "advance", desc := "()V" } : Jvm.MethodName)), (Jvm.Cond.privateMethod ({ cls := "HuntersIntroduced$Reader", name := "advance", desc := "()V" } : Jvm.MethodName)), (Jvm.Cond.instanceMethod ({ cls := "HuntersIntroduced$Reader", name := "advance", desc := "()V" } : Jvm.MethodName))]
def gl_2_4 : List Cond := [(Jvm.Cond.code ({ cls := "HuntersIntroduced$Reader", name := "advance", desc := "()V" } : Jvm.MethodName) prog_4_method_14_code (1 : Nat) (Option.none : Option Jvm.ClassFile.FieldType)), (Jvm.Cond.methodLink "HuntersIntroduced$Reader" (123 : Nat) ({ cls := "HuntersIntroduced$Reader", name := "fail", desc := "()V" } : Jvm.MethodName)), (Jvm.Cond.privateMethod ({ cls := "HuntersIntroduced$Reader", name := "fail", desc := "()V" } : Jvm.MethodName)), (Jvm.Cond.instanceMethod ({ cls := "HuntersIntroduced$Reader", name := "fail", desc := "()V" } : Jvm.MethodName)), (Jvm.Cond.code ({ cls := "HuntersIntroduced$Reader", name := "fail", desc := "()V" } : Jvm.MethodName) prog_4_method_15_code (1 : Nat) (Option.none : Option Jvm.ClassFile.FieldType)), (Jvm.Cond.methodLink "HuntersIntroduced$Reader" (53 : Nat) ({ cls := "HuntersIntroduced$Reader", name := "join", desc := "(II)V" } : Jvm.MethodName)), (Jvm.Cond.privateMethod ({ cls := "HuntersIntroduced$Reader", name := "join", desc := "(II)V" } : Jvm.MethodName)), (Jvm.Cond.instanceMethod ({ cls := "HuntersIntroduced$Reader", name := "join", desc := "(II)V" } : Jvm.MethodName)), (Jvm.Cond.code ({ cls := "HuntersIntroduced$Reader", name := "join", desc := "(II)V" } : Jvm.MethodName) prog_4_method_20_code (6 : Nat) (Option.none : Option Jvm.ClassFile.FieldType)), (Jvm.Cond.methodLink "HuntersIntroduced$Reader" (126 : Nat) ({ cls := "HuntersIntroduced$Reader", name := "one", desc := "(I)V" } : Jvm.MethodName)), (Jvm.Cond.privateMethod ({ cls := "HuntersIntroduced$Reader", name := "one", desc := "(I)V" } : Jvm.MethodName)), (Jvm.Cond.instanceMethod ({ cls := "HuntersIntroduced$Reader", name := "one", desc := "(I)V" } : Jvm.MethodName)), (Jvm.Cond.code ({ cls := "HuntersIntroduced$Reader", name := "one", desc := "(I)V" } : Jvm.MethodName) prog_4_method_21_code (2 : Nat) (Option.none : Option Jvm.ClassFile.FieldType)), (Jvm.Cond.methodLink "HuntersIntroduced$Reader" (132 : Nat) ({ cls := "HuntersIntroduced$Reader", name := "emit", desc := "(I)V" } : Jvm.MethodName)), (Jvm.Cond.privateMethod ({ cls := "HuntersIntroduced$Reader", name := "emit", desc := "(I)V" } : Jvm.MethodName)), (Jvm.Cond.instanceMethod ({ cls := "HuntersIntroduced$Reader", name := "emit", desc := "(I)V" } : Jvm.MethodName))]
def gl_2_5 : List Cond := [(Jvm.Cond.code ({ cls := "HuntersIntroduced$Reader", name := "emit", desc := "(I)V" } : Jvm.MethodName) prog_4_method_18_code (2 : Nat) (Option.none : Option Jvm.ClassFile.FieldType)), (Jvm.Cond.methodLink "HuntersIntroduced$Reader" (129 : Nat) ({ cls := "HuntersIntroduced$Reader", name := "opens", desc := "(I)Z" } : Jvm.MethodName)), (Jvm.Cond.privateMethod ({ cls := "HuntersIntroduced$Reader", name := "opens", desc := "(I)Z" } : Jvm.MethodName)), (Jvm.Cond.instanceMethod ({ cls := "HuntersIntroduced$Reader", name := "opens", desc := "(I)Z" } : Jvm.MethodName)), (Jvm.Cond.code ({ cls := "HuntersIntroduced$Reader", name := "opens", desc := "(I)Z" } : Jvm.MethodName) prog_4_method_17_code (2 : Nat) (Option.some Jvm.ClassFile.FieldType.boolean)), (Jvm.Cond.methodLink "HuntersIntroduced$Reader" (135 : Nat) ({ cls := "HuntersIntroduced$Reader", name := "rankOf", desc := "(I)I" } : Jvm.MethodName)), (Jvm.Cond.static ({ cls := "HuntersIntroduced$Reader", name := "rankOf", desc := "(I)I" } : Jvm.MethodName)), (Jvm.Cond.code ({ cls := "HuntersIntroduced$Reader", name := "rankOf", desc := "(I)I" } : Jvm.MethodName) prog_4_method_19_code (1 : Nat) (Option.some Jvm.ClassFile.FieldType.int)), (Jvm.Cond.methodLink "HuntersIntroduced" (80 : Nat) ({ cls := "HuntersIntroduced$Reader", name := "asText", desc := "()LHuntersIntroduced$Text;" } : Jvm.MethodName)), (Jvm.Cond.instanceMethod ({ cls := "HuntersIntroduced$Reader", name := "asText", desc := "()LHuntersIntroduced$Text;" } : Jvm.MethodName)), (Jvm.Cond.selects "HuntersIntroduced$Reader" ({ cls := "HuntersIntroduced$Reader", name := "asText", desc := "()LHuntersIntroduced$Text;" } : Jvm.MethodName) ({ cls := "HuntersIntroduced$Reader", name := "asText", desc := "()LHuntersIntroduced$Text;" } : Jvm.MethodName)), (Jvm.Cond.code ({ cls := "HuntersIntroduced$Reader", name := "asText", desc := "()LHuntersIntroduced$Text;" } : Jvm.MethodName) prog_4_method_5_code (1 : Nat) (Option.some (Jvm.ClassFile.FieldType.object "HuntersIntroduced$Text"))), (Jvm.Cond.classLink "HuntersIntroduced$Reader" (57 : Nat) "HuntersIntroduced$Text"), (Jvm.Cond.instantiable "HuntersIntroduced$Text" (2 : Nat)), (Jvm.Cond.methodLink "HuntersIntroduced$Reader" (59 : Nat) ({ cls := "HuntersIntroduced$Text", name := "<init>", desc := "([II[I)V" } : Jvm.MethodName)), (Jvm.Cond.instanceMethod ({ cls := "HuntersIntroduced$Text", name := "<init>", desc := "([II[I)V" } : Jvm.MethodName))]
def gl_2_6 : List Cond := [(Jvm.Cond.code ({ cls := "HuntersIntroduced$Text", name := "<init>", desc := "([II[I)V" } : Jvm.MethodName) prog_7_method_1_code (4 : Nat) (Option.none : Option Jvm.ClassFile.FieldType)), (Jvm.Cond.methodLink "HuntersIntroduced$Text" (1 : Nat) ({ cls := "java/lang/Object", name := "<init>", desc := "()V" } : Jvm.MethodName)), (Jvm.Cond.methodLink "HuntersIntroduced$Text" (13 : Nat) ({ cls := "java/lang/System", name := "arraycopy", desc := "(Ljava/lang/Object;ILjava/lang/Object;II)V" } : Jvm.MethodName)), (Jvm.Cond.static ({ cls := "java/lang/System", name := "arraycopy", desc := "(Ljava/lang/Object;ILjava/lang/Object;II)V" } : Jvm.MethodName)), (Jvm.Cond.native ({ cls := "java/lang/System", name := "arraycopy", desc := "(Ljava/lang/Object;ILjava/lang/Object;II)V" } : Jvm.MethodName)), (Jvm.Cond.methodLink "HuntersIntroduced$Text" (19 : Nat) ({ cls := "[I", name := "clone", desc := "()Ljava/lang/Object;" } : Jvm.MethodName)), (Jvm.Cond.sameMethod "[I" "java/lang/Object" "clone" "()Ljava/lang/Object;"), (Jvm.Cond.native ({ cls := "java/lang/Object", name := "clone", desc := "()Ljava/lang/Object;" } : Jvm.MethodName)), (Jvm.Cond.instanceMethod ({ cls := "java/lang/Object", name := "clone", desc := "()Ljava/lang/Object;" } : Jvm.MethodName)), (Jvm.Cond.selects "[I" ({ cls := "[I", name := "clone", desc := "()Ljava/lang/Object;" } : Jvm.MethodName) ({ cls := "java/lang/Object", name := "clone", desc := "()Ljava/lang/Object;" } : Jvm.MethodName)), (Jvm.Cond.castable "[I" "java/lang/Cloneable"), (Jvm.Cond.classLink "HuntersIntroduced$Text" (20 : Nat) "[I"), (Jvm.Cond.fieldLink "HuntersIntroduced$Text" (7 : Nat) "HuntersIntroduced$Text" "code" "[I"), (Jvm.Cond.fieldLink "HuntersIntroduced$Text" (24 : Nat) "HuntersIntroduced$Text" "starts" "[I"), (Jvm.Cond.laysFinal "HuntersIntroduced$Text" "HuntersIntroduced$Text" "code" "[I"), (Jvm.Cond.soleField "HuntersIntroduced$Text" "code")]
def gl_2_7 : List Cond := [(Jvm.Cond.laysFinal "HuntersIntroduced$Text" "HuntersIntroduced$Text" "starts" "[I"), (Jvm.Cond.soleField "HuntersIntroduced$Text" "starts"), (Jvm.Cond.superclass "HuntersIntroduced$Text" "java/lang/Object"), (Jvm.Cond.arrayClass Jvm.ClassFile.FieldType.byte), (Jvm.Cond.methodLink "HuntersIntroduced" (84 : Nat) ({ cls := "HuntersIntroduced$Rules", name := "add", desc := "(LHuntersIntroduced$Text;)I" } : Jvm.MethodName)), (Jvm.Cond.instanceMethod ({ cls := "HuntersIntroduced$Rules", name := "add", desc := "(LHuntersIntroduced$Text;)I" } : Jvm.MethodName)), (Jvm.Cond.selects "HuntersIntroduced$Rules" ({ cls := "HuntersIntroduced$Rules", name := "add", desc := "(LHuntersIntroduced$Text;)I" } : Jvm.MethodName) ({ cls := "HuntersIntroduced$Rules", name := "add", desc := "(LHuntersIntroduced$Text;)I" } : Jvm.MethodName)), (Jvm.Cond.code ({ cls := "HuntersIntroduced$Rules", name := "add", desc := "(LHuntersIntroduced$Text;)I" } : Jvm.MethodName) prog_5_method_2_code (2 : Nat) (Option.some Jvm.ClassFile.FieldType.int)), (Jvm.Cond.methodLink "HuntersIntroduced" (87 : Nat) ({ cls := "HuntersIntroduced$Reader", name := "clear", desc := "()V" } : Jvm.MethodName)), (Jvm.Cond.instanceMethod ({ cls := "HuntersIntroduced$Reader", name := "clear", desc := "()V" } : Jvm.MethodName)), (Jvm.Cond.selects "HuntersIntroduced$Reader" ({ cls := "HuntersIntroduced$Reader", name := "clear", desc := "()V" } : Jvm.MethodName) ({ cls := "HuntersIntroduced$Reader", name := "clear", desc := "()V" } : Jvm.MethodName)), (Jvm.Cond.code ({ cls := "HuntersIntroduced$Reader", name := "clear", desc := "()V" } : Jvm.MethodName) prog_4_method_3_code (1 : Nat) (Option.none : Option Jvm.ClassFile.FieldType)), (Jvm.Cond.fieldLink "HuntersIntroduced" (10 : Nat) "HuntersIntroduced" "truth" "LHuntersIntroduced$Forest;"), (Jvm.Cond.fieldLink "HuntersIntroduced" (16 : Nat) "HuntersIntroduced" "thought" "LHuntersIntroduced$Forest;"), (Jvm.Cond.fieldLink "HuntersIntroduced" (19 : Nat) "HuntersIntroduced" "kept" "LHuntersIntroduced$Forest;"), (Jvm.Cond.fieldLink "HuntersIntroduced" (22 : Nat) "HuntersIntroduced" "isKept" "Z")]
def gl_2_8 : List Cond := [(Jvm.Cond.fieldLink "HuntersIntroduced" (29 : Nat) "HuntersIntroduced" "reader" "LHuntersIntroduced$Reader;"), (Jvm.Cond.fieldLink "HuntersIntroduced" (36 : Nat) "HuntersIntroduced" "rules" "LHuntersIntroduced$Rules;"), (Jvm.Cond.fieldLink "HuntersIntroduced" (43 : Nat) "HuntersIntroduced" "ways" "LHuntersIntroduced$Ways;"), (Jvm.Cond.fieldLink "HuntersIntroduced" (50 : Nat) "HuntersIntroduced" "lots" "LHuntersIntroduced$Lots;"), (Jvm.Cond.fieldLink "HuntersIntroduced" (56 : Nat) "HuntersIntroduced" "sheets" "[LHuntersIntroduced$Sheet;"), (Jvm.Cond.laysFinal "HuntersIntroduced" "HuntersIntroduced" "truth" "LHuntersIntroduced$Forest;"), (Jvm.Cond.soleField "HuntersIntroduced" "truth"), (Jvm.Cond.laysFinal "HuntersIntroduced" "HuntersIntroduced" "thought" "LHuntersIntroduced$Forest;"), (Jvm.Cond.soleField "HuntersIntroduced" "thought"), (Jvm.Cond.laysFinal "HuntersIntroduced" "HuntersIntroduced" "kept" "LHuntersIntroduced$Forest;"), (Jvm.Cond.soleField "HuntersIntroduced" "kept"), (Jvm.Cond.lays "HuntersIntroduced" "HuntersIntroduced" "isKept" "Z"), (Jvm.Cond.soleField "HuntersIntroduced" "isKept"), (Jvm.Cond.laysFinal "HuntersIntroduced" "HuntersIntroduced" "reader" "LHuntersIntroduced$Reader;"), (Jvm.Cond.soleField "HuntersIntroduced" "reader"), (Jvm.Cond.laysFinal "HuntersIntroduced" "HuntersIntroduced" "rules" "LHuntersIntroduced$Rules;")]
def gl_2_9 : List Cond := [(Jvm.Cond.soleField "HuntersIntroduced" "rules"), (Jvm.Cond.laysFinal "HuntersIntroduced" "HuntersIntroduced" "ways" "LHuntersIntroduced$Ways;"), (Jvm.Cond.soleField "HuntersIntroduced" "ways"), (Jvm.Cond.laysFinal "HuntersIntroduced" "HuntersIntroduced" "lots" "LHuntersIntroduced$Lots;"), (Jvm.Cond.soleField "HuntersIntroduced" "lots"), (Jvm.Cond.laysFinal "HuntersIntroduced" "HuntersIntroduced" "sheets" "[LHuntersIntroduced$Sheet;"), (Jvm.Cond.soleField "HuntersIntroduced" "sheets"), (Jvm.Cond.superclass "HuntersIntroduced" "java/lang/Object"), (Jvm.Cond.methodLink "HuntersIntroducedLaw" (13 : Nat) ({ cls := "HuntersIntroduced", name := "count", desc := "(I)I" } : Jvm.MethodName)), (Jvm.Cond.instanceMethod ({ cls := "HuntersIntroduced", name := "count", desc := "(I)I" } : Jvm.MethodName)), (Jvm.Cond.selects "HuntersIntroduced" ({ cls := "HuntersIntroduced", name := "count", desc := "(I)I" } : Jvm.MethodName) ({ cls := "HuntersIntroduced", name := "count", desc := "(I)I" } : Jvm.MethodName)), (Jvm.Cond.code ({ cls := "HuntersIntroduced", name := "count", desc := "(I)I" } : Jvm.MethodName) prog_1_method_2_code (2 : Nat) (Option.some Jvm.ClassFile.FieldType.int)), (Jvm.Cond.methodLink "HuntersIntroduced" (97 : Nat) ({ cls := "java/lang/Integer", name := "bitCount", desc := "(I)I" } : Jvm.MethodName)), (Jvm.Cond.static ({ cls := "java/lang/Integer", name := "bitCount", desc := "(I)I" } : Jvm.MethodName)), (Jvm.Cond.code ({ cls := "java/lang/Integer", name := "bitCount", desc := "(I)I" } : Jvm.MethodName) prog_12_method_49_code (1 : Nat) (Option.some Jvm.ClassFile.FieldType.int)), (Jvm.Cond.constant "java/lang/Integer" (265 : Nat) (1431655765 : Int32))]
def gl_2_10 : List Cond := [(Jvm.Cond.constant "java/lang/Integer" (266 : Nat) (858993459 : Int32)), (Jvm.Cond.constant "java/lang/Integer" (267 : Nat) (252645135 : Int32)), (Jvm.Cond.methodLink "HuntersIntroducedLaw" (18 : Nat) ({ cls := "HuntersIntroduced", name := "forest", desc := "(III)I" } : Jvm.MethodName)), (Jvm.Cond.instanceMethod ({ cls := "HuntersIntroduced", name := "forest", desc := "(III)I" } : Jvm.MethodName)), (Jvm.Cond.selects "HuntersIntroduced" ({ cls := "HuntersIntroduced", name := "forest", desc := "(III)I" } : Jvm.MethodName) ({ cls := "HuntersIntroduced", name := "forest", desc := "(III)I" } : Jvm.MethodName)), (Jvm.Cond.code ({ cls := "HuntersIntroduced", name := "forest", desc := "(III)I" } : Jvm.MethodName) prog_1_method_3_code (6 : Nat) (Option.some Jvm.ClassFile.FieldType.int)), (Jvm.Cond.methodLink "HuntersIntroduced" (115 : Nat) ({ cls := "HuntersIntroduced", name := "isDeer", desc := "(I)Z" } : Jvm.MethodName)), (Jvm.Cond.static ({ cls := "HuntersIntroduced", name := "isDeer", desc := "(I)Z" } : Jvm.MethodName)), (Jvm.Cond.code ({ cls := "HuntersIntroduced", name := "isDeer", desc := "(I)Z" } : Jvm.MethodName) prog_1_method_44_code (1 : Nat) (Option.some Jvm.ClassFile.FieldType.boolean)), (Jvm.Cond.methodLink "HuntersIntroduced" (119 : Nat) ({ cls := "HuntersIntroduced", name := "isWithin", desc := "(III)Z" } : Jvm.MethodName)), (Jvm.Cond.static ({ cls := "HuntersIntroduced", name := "isWithin", desc := "(III)Z" } : Jvm.MethodName)), (Jvm.Cond.code ({ cls := "HuntersIntroduced", name := "isWithin", desc := "(III)Z" } : Jvm.MethodName) prog_1_method_42_code (3 : Nat) (Option.some Jvm.ClassFile.FieldType.boolean)), (Jvm.Cond.methodLink "HuntersIntroduced" (127 : Nat) ({ cls := "HuntersIntroduced$Forest", name := "isAlive", desc := "(I)Z" } : Jvm.MethodName)), (Jvm.Cond.instanceMethod ({ cls := "HuntersIntroduced$Forest", name := "isAlive", desc := "(I)Z" } : Jvm.MethodName)), (Jvm.Cond.selects "HuntersIntroduced$Forest" ({ cls := "HuntersIntroduced$Forest", name := "isAlive", desc := "(I)Z" } : Jvm.MethodName) ({ cls := "HuntersIntroduced$Forest", name := "isAlive", desc := "(I)Z" } : Jvm.MethodName)), (Jvm.Cond.code ({ cls := "HuntersIntroduced$Forest", name := "isAlive", desc := "(I)Z" } : Jvm.MethodName) prog_2_method_4_code (2 : Nat) (Option.some Jvm.ClassFile.FieldType.boolean))]
def gl_2_11 : List Cond := [(Jvm.Cond.methodLink "HuntersIntroduced" (130 : Nat) ({ cls := "HuntersIntroduced$Forest", name := "setAlive", desc := "(IZ)V" } : Jvm.MethodName)), (Jvm.Cond.instanceMethod ({ cls := "HuntersIntroduced$Forest", name := "setAlive", desc := "(IZ)V" } : Jvm.MethodName)), (Jvm.Cond.selects "HuntersIntroduced$Forest" ({ cls := "HuntersIntroduced$Forest", name := "setAlive", desc := "(IZ)V" } : Jvm.MethodName) ({ cls := "HuntersIntroduced$Forest", name := "setAlive", desc := "(IZ)V" } : Jvm.MethodName)), (Jvm.Cond.code ({ cls := "HuntersIntroduced$Forest", name := "setAlive", desc := "(IZ)V" } : Jvm.MethodName) prog_2_method_5_code (3 : Nat) (Option.none : Option Jvm.ClassFile.FieldType)), (Jvm.Cond.methodLink "HuntersIntroducedLaw" (23 : Nat) ({ cls := "HuntersIntroduced", name := "deer", desc := "(II)I" } : Jvm.MethodName)), (Jvm.Cond.instanceMethod ({ cls := "HuntersIntroduced", name := "deer", desc := "(II)I" } : Jvm.MethodName)), (Jvm.Cond.selects "HuntersIntroduced" ({ cls := "HuntersIntroduced", name := "deer", desc := "(II)I" } : Jvm.MethodName) ({ cls := "HuntersIntroduced", name := "deer", desc := "(II)I" } : Jvm.MethodName)), (Jvm.Cond.code ({ cls := "HuntersIntroduced", name := "deer", desc := "(II)I" } : Jvm.MethodName) prog_1_method_4_code (3 : Nat) (Option.some Jvm.ClassFile.FieldType.int)), (Jvm.Cond.methodLink "HuntersIntroduced" (134 : Nat) ({ cls := "HuntersIntroduced$Forest", name := "holders", desc := "(I)I" } : Jvm.MethodName)), (Jvm.Cond.instanceMethod ({ cls := "HuntersIntroduced$Forest", name := "holders", desc := "(I)I" } : Jvm.MethodName)), (Jvm.Cond.selects "HuntersIntroduced$Forest" ({ cls := "HuntersIntroduced$Forest", name := "holders", desc := "(I)I" } : Jvm.MethodName) ({ cls := "HuntersIntroduced$Forest", name := "holders", desc := "(I)I" } : Jvm.MethodName)), (Jvm.Cond.code ({ cls := "HuntersIntroduced$Forest", name := "holders", desc := "(I)I" } : Jvm.MethodName) prog_2_method_10_code (4 : Nat) (Option.some Jvm.ClassFile.FieldType.int)), (Jvm.Cond.methodLink "HuntersIntroducedLaw" (28 : Nat) ({ cls := "HuntersIntroduced", name := "feed", desc := "(IIIIII)I" } : Jvm.MethodName)), (Jvm.Cond.instanceMethod ({ cls := "HuntersIntroduced", name := "feed", desc := "(IIIIII)I" } : Jvm.MethodName)), (Jvm.Cond.selects "HuntersIntroduced" ({ cls := "HuntersIntroduced", name := "feed", desc := "(IIIIII)I" } : Jvm.MethodName) ({ cls := "HuntersIntroduced", name := "feed", desc := "(IIIIII)I" } : Jvm.MethodName)), (Jvm.Cond.code ({ cls := "HuntersIntroduced", name := "feed", desc := "(IIIIII)I" } : Jvm.MethodName) prog_1_method_5_code (8 : Nat) (Option.some Jvm.ClassFile.FieldType.int))]
def gl_2_12 : List Cond := [(Jvm.Cond.methodLink "HuntersIntroduced" (137 : Nat) ({ cls := "HuntersIntroduced", name := "isByte", desc := "(I)Z" } : Jvm.MethodName)), (Jvm.Cond.static ({ cls := "HuntersIntroduced", name := "isByte", desc := "(I)Z" } : Jvm.MethodName)), (Jvm.Cond.code ({ cls := "HuntersIntroduced", name := "isByte", desc := "(I)Z" } : Jvm.MethodName) prog_1_method_43_code (1 : Nat) (Option.some Jvm.ClassFile.FieldType.boolean)), (Jvm.Cond.methodLink "HuntersIntroducedLaw" (33 : Nat) ({ cls := "HuntersIntroduced", name := "text", desc := "()I" } : Jvm.MethodName)), (Jvm.Cond.instanceMethod ({ cls := "HuntersIntroduced", name := "text", desc := "()I" } : Jvm.MethodName)), (Jvm.Cond.selects "HuntersIntroduced" ({ cls := "HuntersIntroduced", name := "text", desc := "()I" } : Jvm.MethodName) ({ cls := "HuntersIntroduced", name := "text", desc := "()I" } : Jvm.MethodName)), (Jvm.Cond.code ({ cls := "HuntersIntroduced", name := "text", desc := "()I" } : Jvm.MethodName) prog_1_method_6_code (2 : Nat) (Option.some Jvm.ClassFile.FieldType.int)), (Jvm.Cond.methodLink "HuntersIntroducedLaw" (38 : Nat) ({ cls := "HuntersIntroduced", name := "force", desc := "(I)I" } : Jvm.MethodName)), (Jvm.Cond.instanceMethod ({ cls := "HuntersIntroduced", name := "force", desc := "(I)I" } : Jvm.MethodName)), (Jvm.Cond.selects "HuntersIntroduced" ({ cls := "HuntersIntroduced", name := "force", desc := "(I)I" } : Jvm.MethodName) ({ cls := "HuntersIntroduced", name := "force", desc := "(I)I" } : Jvm.MethodName)), (Jvm.Cond.code ({ cls := "HuntersIntroduced", name := "force", desc := "(I)I" } : Jvm.MethodName) prog_1_method_7_code (3 : Nat) (Option.some Jvm.ClassFile.FieldType.int)), (Jvm.Cond.methodLink "HuntersIntroducedLaw" (42 : Nat) ({ cls := "HuntersIntroduced", name := "asks", desc := "(III)I" } : Jvm.MethodName)), (Jvm.Cond.instanceMethod ({ cls := "HuntersIntroduced", name := "asks", desc := "(III)I" } : Jvm.MethodName)), (Jvm.Cond.selects "HuntersIntroduced" ({ cls := "HuntersIntroduced", name := "asks", desc := "(III)I" } : Jvm.MethodName) ({ cls := "HuntersIntroduced", name := "asks", desc := "(III)I" } : Jvm.MethodName)), (Jvm.Cond.code ({ cls := "HuntersIntroduced", name := "asks", desc := "(III)I" } : Jvm.MethodName) prog_1_method_8_code (4 : Nat) (Option.some Jvm.ClassFile.FieldType.int)), (Jvm.Cond.methodLink "HuntersIntroduced" (140 : Nat) ({ cls := "HuntersIntroduced", name := "isHunter", desc := "(I)Z" } : Jvm.MethodName))]
def gl_2_13 : List Cond := [(Jvm.Cond.privateMethod ({ cls := "HuntersIntroduced", name := "isHunter", desc := "(I)Z" } : Jvm.MethodName)), (Jvm.Cond.instanceMethod ({ cls := "HuntersIntroduced", name := "isHunter", desc := "(I)Z" } : Jvm.MethodName)), (Jvm.Cond.code ({ cls := "HuntersIntroduced", name := "isHunter", desc := "(I)Z" } : Jvm.MethodName) prog_1_method_46_code (2 : Nat) (Option.some Jvm.ClassFile.FieldType.boolean)), (Jvm.Cond.methodLink "HuntersIntroduced" (143 : Nat) ({ cls := "HuntersIntroduced$Rules", name := "says", desc := "(LHuntersIntroduced$Forest;III)I" } : Jvm.MethodName)), (Jvm.Cond.instanceMethod ({ cls := "HuntersIntroduced$Rules", name := "says", desc := "(LHuntersIntroduced$Forest;III)I" } : Jvm.MethodName)), (Jvm.Cond.selects "HuntersIntroduced$Rules" ({ cls := "HuntersIntroduced$Rules", name := "says", desc := "(LHuntersIntroduced$Forest;III)I" } : Jvm.MethodName) ({ cls := "HuntersIntroduced$Rules", name := "says", desc := "(LHuntersIntroduced$Forest;III)I" } : Jvm.MethodName)), (Jvm.Cond.code ({ cls := "HuntersIntroduced$Rules", name := "says", desc := "(LHuntersIntroduced$Forest;III)I" } : Jvm.MethodName) prog_5_method_3_code (7 : Nat) (Option.some Jvm.ClassFile.FieldType.int)), (Jvm.Cond.methodLink "HuntersIntroduced$Rules" (39 : Nat) ({ cls := "java/lang/Integer", name := "bitCount", desc := "(I)I" } : Jvm.MethodName)), (Jvm.Cond.methodLink "HuntersIntroduced$Rules" (57 : Nat) ({ cls := "HuntersIntroduced$Text", name := "value", desc := "(I[I[I)I" } : Jvm.MethodName)), (Jvm.Cond.instanceMethod ({ cls := "HuntersIntroduced$Text", name := "value", desc := "(I[I[I)I" } : Jvm.MethodName)), (Jvm.Cond.selects "HuntersIntroduced$Text" ({ cls := "HuntersIntroduced$Text", name := "value", desc := "(I[I[I)I" } : Jvm.MethodName) ({ cls := "HuntersIntroduced$Text", name := "value", desc := "(I[I[I)I" } : Jvm.MethodName)), (Jvm.Cond.code ({ cls := "HuntersIntroduced$Text", name := "value", desc := "(I[I[I)I" } : Jvm.MethodName) prog_7_method_2_code (9 : Nat) (Option.some Jvm.ClassFile.FieldType.int)), (Jvm.Cond.methodLink "HuntersIntroduced$Rules" (61 : Nat) ({ cls := "java/lang/Math", name := "min", desc := "(II)I" } : Jvm.MethodName)), (Jvm.Cond.static ({ cls := "java/lang/Math", name := "min", desc := "(II)I" } : Jvm.MethodName)), (Jvm.Cond.code ({ cls := "java/lang/Math", name := "min", desc := "(II)I" } : Jvm.MethodName) prog_13_method_69_code (2 : Nat) (Option.some Jvm.ClassFile.FieldType.int)), (Jvm.Cond.methodLink "HuntersIntroduced$Rules" (67 : Nat) ({ cls := "java/lang/Math", name := "max", desc := "(II)I" } : Jvm.MethodName))]
def gl_2_14 : List Cond := [(Jvm.Cond.static ({ cls := "java/lang/Math", name := "max", desc := "(II)I" } : Jvm.MethodName)), (Jvm.Cond.code ({ cls := "java/lang/Math", name := "max", desc := "(II)I" } : Jvm.MethodName) prog_13_method_65_code (2 : Nat) (Option.some Jvm.ClassFile.FieldType.int)), (Jvm.Cond.methodLink "HuntersIntroducedLaw" (46 : Nat) ({ cls := "HuntersIntroduced", name := "hunter", desc := "(III)I" } : Jvm.MethodName)), (Jvm.Cond.instanceMethod ({ cls := "HuntersIntroduced", name := "hunter", desc := "(III)I" } : Jvm.MethodName)), (Jvm.Cond.selects "HuntersIntroduced" ({ cls := "HuntersIntroduced", name := "hunter", desc := "(III)I" } : Jvm.MethodName) ({ cls := "HuntersIntroduced", name := "hunter", desc := "(III)I" } : Jvm.MethodName)), (Jvm.Cond.code ({ cls := "HuntersIntroduced", name := "hunter", desc := "(III)I" } : Jvm.MethodName) prog_1_method_9_code (4 : Nat) (Option.some Jvm.ClassFile.FieldType.int)), (Jvm.Cond.methodLink "HuntersIntroduced" (147 : Nat) ({ cls := "HuntersIntroduced$Forest", name := "add", desc := "(IIII)I" } : Jvm.MethodName)), (Jvm.Cond.instanceMethod ({ cls := "HuntersIntroduced$Forest", name := "add", desc := "(IIII)I" } : Jvm.MethodName)), (Jvm.Cond.selects "HuntersIntroduced$Forest" ({ cls := "HuntersIntroduced$Forest", name := "add", desc := "(IIII)I" } : Jvm.MethodName) ({ cls := "HuntersIntroduced$Forest", name := "add", desc := "(IIII)I" } : Jvm.MethodName)), (Jvm.Cond.code ({ cls := "HuntersIntroduced$Forest", name := "add", desc := "(IIII)I" } : Jvm.MethodName) prog_2_method_3_code (6 : Nat) (Option.some Jvm.ClassFile.FieldType.int)), (Jvm.Cond.methodLink "HuntersIntroducedLaw" (50 : Nat) ({ cls := "HuntersIntroduced", name := "friends", desc := "(III)I" } : Jvm.MethodName)), (Jvm.Cond.instanceMethod ({ cls := "HuntersIntroduced", name := "friends", desc := "(III)I" } : Jvm.MethodName)), (Jvm.Cond.selects "HuntersIntroduced" ({ cls := "HuntersIntroduced", name := "friends", desc := "(III)I" } : Jvm.MethodName) ({ cls := "HuntersIntroduced", name := "friends", desc := "(III)I" } : Jvm.MethodName)), (Jvm.Cond.code ({ cls := "HuntersIntroduced", name := "friends", desc := "(III)I" } : Jvm.MethodName) prog_1_method_10_code (5 : Nat) (Option.some Jvm.ClassFile.FieldType.int)), (Jvm.Cond.methodLink "HuntersIntroduced" (150 : Nat) ({ cls := "HuntersIntroduced$Forest", name := "haveMet", desc := "(II)Z" } : Jvm.MethodName)), (Jvm.Cond.instanceMethod ({ cls := "HuntersIntroduced$Forest", name := "haveMet", desc := "(II)Z" } : Jvm.MethodName))]
set_option maxRecDepth 100000 in
theorem tq_2 : tables_1_2 = gl_2_0 ++ (gl_2_1 ++ (gl_2_2 ++ (gl_2_3 ++ (gl_2_4 ++ (gl_2_5 ++ (gl_2_6 ++ (gl_2_7 ++ (gl_2_8 ++ (gl_2_9 ++ (gl_2_10 ++ (gl_2_11 ++ (gl_2_12 ++ (gl_2_13 ++ (gl_2_14)))))))))))))) := rfl
theorem ck_2_0 : ∀ w ∈ gl_2_0, w ∈ tables_1 := fun w h => List.mem_append_right _ (List.mem_append_left _ (tq_2 ▸ (List.mem_append_left _ h) : w ∈ tables_1_2))
theorem ck_2_1 : ∀ w ∈ gl_2_1, w ∈ tables_1 := fun w h => List.mem_append_right _ (List.mem_append_left _ (tq_2 ▸ (List.mem_append_right _ (List.mem_append_left _ h)) : w ∈ tables_1_2))
theorem ck_2_2 : ∀ w ∈ gl_2_2, w ∈ tables_1 := fun w h => List.mem_append_right _ (List.mem_append_left _ (tq_2 ▸ (List.mem_append_right _ (List.mem_append_right _ (List.mem_append_left _ h))) : w ∈ tables_1_2))
theorem ck_2_3 : ∀ w ∈ gl_2_3, w ∈ tables_1 := fun w h => List.mem_append_right _ (List.mem_append_left _ (tq_2 ▸ (List.mem_append_right _ (List.mem_append_right _ (List.mem_append_right _ (List.mem_append_left _ h)))) : w ∈ tables_1_2))
theorem ck_2_4 : ∀ w ∈ gl_2_4, w ∈ tables_1 := fun w h => List.mem_append_right _ (List.mem_append_left _ (tq_2 ▸ (List.mem_append_right _ (List.mem_append_right _ (List.mem_append_right _ (List.mem_append_right _ (List.mem_append_left _ h))))) : w ∈ tables_1_2))
theorem ck_2_5 : ∀ w ∈ gl_2_5, w ∈ tables_1 := fun w h => List.mem_append_right _ (List.mem_append_left _ (tq_2 ▸ (List.mem_append_right _ (List.mem_append_right _ (List.mem_append_right _ (List.mem_append_right _ (List.mem_append_right _ (List.mem_append_left _ h)))))) : w ∈ tables_1_2))
theorem ck_2_6 : ∀ w ∈ gl_2_6, w ∈ tables_1 := fun w h => List.mem_append_right _ (List.mem_append_left _ (tq_2 ▸ (List.mem_append_right _ (List.mem_append_right _ (List.mem_append_right _ (List.mem_append_right _ (List.mem_append_right _ (List.mem_append_right _ (List.mem_append_left _ h))))))) : w ∈ tables_1_2))
theorem ck_2_7 : ∀ w ∈ gl_2_7, w ∈ tables_1 := fun w h => List.mem_append_right _ (List.mem_append_left _ (tq_2 ▸ (List.mem_append_right _ (List.mem_append_right _ (List.mem_append_right _ (List.mem_append_right _ (List.mem_append_right _ (List.mem_append_right _ (List.mem_append_right _ (List.mem_append_left _ h)))))))) : w ∈ tables_1_2))
theorem ck_2_8 : ∀ w ∈ gl_2_8, w ∈ tables_1 := fun w h => List.mem_append_right _ (List.mem_append_left _ (tq_2 ▸ (List.mem_append_right _ (List.mem_append_right _ (List.mem_append_right _ (List.mem_append_right _ (List.mem_append_right _ (List.mem_append_right _ (List.mem_append_right _ (List.mem_append_right _ (List.mem_append_left _ h))))))))) : w ∈ tables_1_2))
theorem ck_2_9 : ∀ w ∈ gl_2_9, w ∈ tables_1 := fun w h => List.mem_append_right _ (List.mem_append_left _ (tq_2 ▸ (List.mem_append_right _ (List.mem_append_right _ (List.mem_append_right _ (List.mem_append_right _ (List.mem_append_right _ (List.mem_append_right _ (List.mem_append_right _ (List.mem_append_right _ (List.mem_append_right _ (List.mem_append_left _ h)))))))))) : w ∈ tables_1_2))
theorem ck_2_10 : ∀ w ∈ gl_2_10, w ∈ tables_1 := fun w h => List.mem_append_right _ (List.mem_append_left _ (tq_2 ▸ (List.mem_append_right _ (List.mem_append_right _ (List.mem_append_right _ (List.mem_append_right _ (List.mem_append_right _ (List.mem_append_right _ (List.mem_append_right _ (List.mem_append_right _ (List.mem_append_right _ (List.mem_append_right _ (List.mem_append_left _ h))))))))))) : w ∈ tables_1_2))
theorem ck_2_11 : ∀ w ∈ gl_2_11, w ∈ tables_1 := fun w h => List.mem_append_right _ (List.mem_append_left _ (tq_2 ▸ (List.mem_append_right _ (List.mem_append_right _ (List.mem_append_right _ (List.mem_append_right _ (List.mem_append_right _ (List.mem_append_right _ (List.mem_append_right _ (List.mem_append_right _ (List.mem_append_right _ (List.mem_append_right _ (List.mem_append_right _ (List.mem_append_left _ h)))))))))))) : w ∈ tables_1_2))
theorem ck_2_12 : ∀ w ∈ gl_2_12, w ∈ tables_1 := fun w h => List.mem_append_right _ (List.mem_append_left _ (tq_2 ▸ (List.mem_append_right _ (List.mem_append_right _ (List.mem_append_right _ (List.mem_append_right _ (List.mem_append_right _ (List.mem_append_right _ (List.mem_append_right _ (List.mem_append_right _ (List.mem_append_right _ (List.mem_append_right _ (List.mem_append_right _ (List.mem_append_right _ (List.mem_append_left _ h))))))))))))) : w ∈ tables_1_2))
theorem ck_2_13 : ∀ w ∈ gl_2_13, w ∈ tables_1 := fun w h => List.mem_append_right _ (List.mem_append_left _ (tq_2 ▸ (List.mem_append_right _ (List.mem_append_right _ (List.mem_append_right _ (List.mem_append_right _ (List.mem_append_right _ (List.mem_append_right _ (List.mem_append_right _ (List.mem_append_right _ (List.mem_append_right _ (List.mem_append_right _ (List.mem_append_right _ (List.mem_append_right _ (List.mem_append_right _ (List.mem_append_left _ h)))))))))))))) : w ∈ tables_1_2))
theorem ck_2_14 : ∀ w ∈ gl_2_14, w ∈ tables_1 := fun w h => List.mem_append_right _ (List.mem_append_left _ (tq_2 ▸ (List.mem_append_right _ (List.mem_append_right _ (List.mem_append_right _ (List.mem_append_right _ (List.mem_append_right _ (List.mem_append_right _ (List.mem_append_right _ (List.mem_append_right _ (List.mem_append_right _ (List.mem_append_right _ (List.mem_append_right _ (List.mem_append_right _ (List.mem_append_right _ (List.mem_append_right _ (h))))))))))))))) : w ∈ tables_1_2))
def gl_3_0 : List Cond := [(Jvm.Cond.selects "HuntersIntroduced$Forest" ({ cls := "HuntersIntroduced$Forest", name := "haveMet", desc := "(II)Z" } : Jvm.MethodName) ({ cls := "HuntersIntroduced$Forest", name := "haveMet", desc := "(II)Z" } : Jvm.MethodName)), (Jvm.Cond.code ({ cls := "HuntersIntroduced$Forest", name := "haveMet", desc := "(II)Z" } : Jvm.MethodName) prog_2_method_8_code (3 : Nat) (Option.some Jvm.ClassFile.FieldType.boolean)), (Jvm.Cond.methodLink "HuntersIntroduced" (154 : Nat) ({ cls := "HuntersIntroduced$Forest", name := "setMet", desc := "(IIZ)V" } : Jvm.MethodName)), (Jvm.Cond.instanceMethod ({ cls := "HuntersIntroduced$Forest", name := "setMet", desc := "(IIZ)V" } : Jvm.MethodName)), (Jvm.Cond.selects "HuntersIntroduced$Forest" ({ cls := "HuntersIntroduced$Forest", name := "setMet", desc := "(IIZ)V" } : Jvm.MethodName) ({ cls := "HuntersIntroduced$Forest", name := "setMet", desc := "(IIZ)V" } : Jvm.MethodName)), (Jvm.Cond.code ({ cls := "HuntersIntroduced$Forest", name := "setMet", desc := "(IIZ)V" } : Jvm.MethodName) prog_2_method_9_code (4 : Nat) (Option.none : Option Jvm.ClassFile.FieldType)), (Jvm.Cond.methodLink "HuntersIntroducedLaw" (54 : Nat) ({ cls := "HuntersIntroduced", name := "put", desc := "(III)I" } : Jvm.MethodName)), (Jvm.Cond.instanceMethod ({ cls := "HuntersIntroduced", name := "put", desc := "(III)I" } : Jvm.MethodName)), (Jvm.Cond.selects "HuntersIntroduced" ({ cls := "HuntersIntroduced", name := "put", desc := "(III)I" } : Jvm.MethodName) ({ cls := "HuntersIntroduced", name := "put", desc := "(III)I" } : Jvm.MethodName)), (Jvm.Cond.code ({ cls := "HuntersIntroduced", name := "put", desc := "(III)I" } : Jvm.MethodName) prog_1_method_11_code (5 : Nat) (Option.some Jvm.ClassFile.FieldType.int)), (Jvm.Cond.methodLink "HuntersIntroducedLaw" (58 : Nat) ({ cls := "HuntersIntroduced", name := "told", desc := "(II)I" } : Jvm.MethodName)), (Jvm.Cond.instanceMethod ({ cls := "HuntersIntroduced", name := "told", desc := "(II)I" } : Jvm.MethodName)), (Jvm.Cond.selects "HuntersIntroduced" ({ cls := "HuntersIntroduced", name := "told", desc := "(II)I" } : Jvm.MethodName) ({ cls := "HuntersIntroduced", name := "told", desc := "(II)I" } : Jvm.MethodName)), (Jvm.Cond.code ({ cls := "HuntersIntroduced", name := "told", desc := "(II)I" } : Jvm.MethodName) prog_1_method_12_code (3 : Nat) (Option.some Jvm.ClassFile.FieldType.int)), (Jvm.Cond.methodLink "HuntersIntroduced" (173 : Nat) ({ cls := "HuntersIntroduced$Rules", name := "isWilling", desc := "(LHuntersIntroduced$Forest;I)Z" } : Jvm.MethodName)), (Jvm.Cond.instanceMethod ({ cls := "HuntersIntroduced$Rules", name := "isWilling", desc := "(LHuntersIntroduced$Forest;I)Z" } : Jvm.MethodName))]
def gl_3_1 : List Cond := [(Jvm.Cond.selects "HuntersIntroduced$Rules" ({ cls := "HuntersIntroduced$Rules", name := "isWilling", desc := "(LHuntersIntroduced$Forest;I)Z" } : Jvm.MethodName) ({ cls := "HuntersIntroduced$Rules", name := "isWilling", desc := "(LHuntersIntroduced$Forest;I)Z" } : Jvm.MethodName)), (Jvm.Cond.code ({ cls := "HuntersIntroduced$Rules", name := "isWilling", desc := "(LHuntersIntroduced$Forest;I)Z" } : Jvm.MethodName) prog_5_method_5_code (4 : Nat) (Option.some Jvm.ClassFile.FieldType.boolean)), (Jvm.Cond.methodLink "HuntersIntroduced$Rules" (73 : Nat) ({ cls := "HuntersIntroduced$Rules", name := "isOfKind", desc := "(II)Z" } : Jvm.MethodName)), (Jvm.Cond.static ({ cls := "HuntersIntroduced$Rules", name := "isOfKind", desc := "(II)Z" } : Jvm.MethodName)), (Jvm.Cond.code ({ cls := "HuntersIntroduced$Rules", name := "isOfKind", desc := "(II)Z" } : Jvm.MethodName) prog_5_method_4_code (2 : Nat) (Option.some Jvm.ClassFile.FieldType.boolean)), (Jvm.Cond.methodLink "HuntersIntroduced$Rules" (77 : Nat) ({ cls := "HuntersIntroduced$Rules", name := "says", desc := "(LHuntersIntroduced$Forest;III)I" } : Jvm.MethodName)), (Jvm.Cond.methodLink "HuntersIntroduced" (177 : Nat) ({ cls := "HuntersIntroduced$Rules", name := "gainOf", desc := "(LHuntersIntroduced$Forest;I)I" } : Jvm.MethodName)), (Jvm.Cond.instanceMethod ({ cls := "HuntersIntroduced$Rules", name := "gainOf", desc := "(LHuntersIntroduced$Forest;I)I" } : Jvm.MethodName)), (Jvm.Cond.selects "HuntersIntroduced$Rules" ({ cls := "HuntersIntroduced$Rules", name := "gainOf", desc := "(LHuntersIntroduced$Forest;I)I" } : Jvm.MethodName) ({ cls := "HuntersIntroduced$Rules", name := "gainOf", desc := "(LHuntersIntroduced$Forest;I)I" } : Jvm.MethodName)), (Jvm.Cond.code ({ cls := "HuntersIntroduced$Rules", name := "gainOf", desc := "(LHuntersIntroduced$Forest;I)I" } : Jvm.MethodName) prog_5_method_6_code (4 : Nat) (Option.some Jvm.ClassFile.FieldType.int)), (Jvm.Cond.methodLink "HuntersIntroduced" (184 : Nat) ({ cls := "HuntersIntroduced$Ways", name := "sponsored", desc := "(LHuntersIntroduced$Rules;LHuntersIntroduced$Forest;I)I" } : Jvm.MethodName)), (Jvm.Cond.instanceMethod ({ cls := "HuntersIntroduced$Ways", name := "sponsored", desc := "(LHuntersIntroduced$Rules;LHuntersIntroduced$Forest;I)I" } : Jvm.MethodName)), (Jvm.Cond.selects "HuntersIntroduced$Ways" ({ cls := "HuntersIntroduced$Ways", name := "sponsored", desc := "(LHuntersIntroduced$Rules;LHuntersIntroduced$Forest;I)I" } : Jvm.MethodName) ({ cls := "HuntersIntroduced$Ways", name := "sponsored", desc := "(LHuntersIntroduced$Rules;LHuntersIntroduced$Forest;I)I" } : Jvm.MethodName)), (Jvm.Cond.code ({ cls := "HuntersIntroduced$Ways", name := "sponsored", desc := "(LHuntersIntroduced$Rules;LHuntersIntroduced$Forest;I)I" } : Jvm.MethodName) prog_8_method_8_code (6 : Nat) (Option.some Jvm.ClassFile.FieldType.int)), (Jvm.Cond.methodLink "HuntersIntroduced$Ways" (36 : Nat) ({ cls := "HuntersIntroduced$Ways", name := "measure", desc := "(LHuntersIntroduced$Rules;LHuntersIntroduced$Forest;I)V" } : Jvm.MethodName)), (Jvm.Cond.instanceMethod ({ cls := "HuntersIntroduced$Ways", name := "measure", desc := "(LHuntersIntroduced$Rules;LHuntersIntroduced$Forest;I)V" } : Jvm.MethodName))]
def gl_3_2 : List Cond := [(Jvm.Cond.selects "HuntersIntroduced$Ways" ({ cls := "HuntersIntroduced$Ways", name := "measure", desc := "(LHuntersIntroduced$Rules;LHuntersIntroduced$Forest;I)V" } : Jvm.MethodName) ({ cls := "HuntersIntroduced$Ways", name := "measure", desc := "(LHuntersIntroduced$Rules;LHuntersIntroduced$Forest;I)V" } : Jvm.MethodName)), (Jvm.Cond.code ({ cls := "HuntersIntroduced$Ways", name := "measure", desc := "(LHuntersIntroduced$Rules;LHuntersIntroduced$Forest;I)V" } : Jvm.MethodName) prog_8_method_2_code (9 : Nat) (Option.none : Option Jvm.ClassFile.FieldType)), (Jvm.Cond.methodLink "HuntersIntroduced$Ways" (24 : Nat) ({ cls := "HuntersIntroduced$Rules", name := "isWilling", desc := "(LHuntersIntroduced$Forest;I)Z" } : Jvm.MethodName)), (Jvm.Cond.methodLink "HuntersIntroduced$Ways" (33 : Nat) ({ cls := "HuntersIntroduced$Ways", name := "isWilling", desc := "(I)Z" } : Jvm.MethodName)), (Jvm.Cond.privateMethod ({ cls := "HuntersIntroduced$Ways", name := "isWilling", desc := "(I)Z" } : Jvm.MethodName)), (Jvm.Cond.instanceMethod ({ cls := "HuntersIntroduced$Ways", name := "isWilling", desc := "(I)Z" } : Jvm.MethodName)), (Jvm.Cond.code ({ cls := "HuntersIntroduced$Ways", name := "isWilling", desc := "(I)Z" } : Jvm.MethodName) prog_8_method_3_code (2 : Nat) (Option.some Jvm.ClassFile.FieldType.boolean)), (Jvm.Cond.methodLink "HuntersIntroducedLaw" (62 : Nat) ({ cls := "HuntersIntroduced", name := "hits", desc := "(II)I" } : Jvm.MethodName)), (Jvm.Cond.instanceMethod ({ cls := "HuntersIntroduced", name := "hits", desc := "(II)I" } : Jvm.MethodName)), (Jvm.Cond.selects "HuntersIntroduced" ({ cls := "HuntersIntroduced", name := "hits", desc := "(II)I" } : Jvm.MethodName) ({ cls := "HuntersIntroduced", name := "hits", desc := "(II)I" } : Jvm.MethodName)), (Jvm.Cond.code ({ cls := "HuntersIntroduced", name := "hits", desc := "(II)I" } : Jvm.MethodName) prog_1_method_13_code (3 : Nat) (Option.some Jvm.ClassFile.FieldType.int)), (Jvm.Cond.methodLink "HuntersIntroduced" (188 : Nat) ({ cls := "HuntersIntroduced$Rules", name := "aimOf", desc := "(LHuntersIntroduced$Forest;II)I" } : Jvm.MethodName)), (Jvm.Cond.instanceMethod ({ cls := "HuntersIntroduced$Rules", name := "aimOf", desc := "(LHuntersIntroduced$Forest;II)I" } : Jvm.MethodName)), (Jvm.Cond.selects "HuntersIntroduced$Rules" ({ cls := "HuntersIntroduced$Rules", name := "aimOf", desc := "(LHuntersIntroduced$Forest;II)I" } : Jvm.MethodName) ({ cls := "HuntersIntroduced$Rules", name := "aimOf", desc := "(LHuntersIntroduced$Forest;II)I" } : Jvm.MethodName)), (Jvm.Cond.code ({ cls := "HuntersIntroduced$Rules", name := "aimOf", desc := "(LHuntersIntroduced$Forest;II)I" } : Jvm.MethodName) prog_5_method_7_code (8 : Nat) (Option.some Jvm.ClassFile.FieldType.int)), (Jvm.Cond.methodLink "HuntersIntroduced$Rules" (81 : Nat) ({ cls := "HuntersIntroduced$Forest", name := "hasCard", desc := "(II)Z" } : Jvm.MethodName))]
def gl_3_3 : List Cond := [(Jvm.Cond.instanceMethod ({ cls := "HuntersIntroduced$Forest", name := "hasCard", desc := "(II)Z" } : Jvm.MethodName)), (Jvm.Cond.selects "HuntersIntroduced$Forest" ({ cls := "HuntersIntroduced$Forest", name := "hasCard", desc := "(II)Z" } : Jvm.MethodName) ({ cls := "HuntersIntroduced$Forest", name := "hasCard", desc := "(II)Z" } : Jvm.MethodName)), (Jvm.Cond.code ({ cls := "HuntersIntroduced$Forest", name := "hasCard", desc := "(II)Z" } : Jvm.MethodName) prog_2_method_6_code (3 : Nat) (Option.some Jvm.ClassFile.FieldType.boolean)), (Jvm.Cond.methodLink "HuntersIntroducedLaw" (66 : Nat) ({ cls := "HuntersIntroduced", name := "meet", desc := "(III)I" } : Jvm.MethodName)), (Jvm.Cond.instanceMethod ({ cls := "HuntersIntroduced", name := "meet", desc := "(III)I" } : Jvm.MethodName)), (Jvm.Cond.selects "HuntersIntroduced" ({ cls := "HuntersIntroduced", name := "meet", desc := "(III)I" } : Jvm.MethodName) ({ cls := "HuntersIntroduced", name := "meet", desc := "(III)I" } : Jvm.MethodName)), (Jvm.Cond.code ({ cls := "HuntersIntroduced", name := "meet", desc := "(III)I" } : Jvm.MethodName) prog_1_method_14_code (4 : Nat) (Option.some Jvm.ClassFile.FieldType.int)), (Jvm.Cond.methodLink "HuntersIntroduced" (192 : Nat) ({ cls := "HuntersIntroduced$Rules", name := "reward", desc := "(LHuntersIntroduced$Forest;I)I" } : Jvm.MethodName)), (Jvm.Cond.instanceMethod ({ cls := "HuntersIntroduced$Rules", name := "reward", desc := "(LHuntersIntroduced$Forest;I)I" } : Jvm.MethodName)), (Jvm.Cond.selects "HuntersIntroduced$Rules" ({ cls := "HuntersIntroduced$Rules", name := "reward", desc := "(LHuntersIntroduced$Forest;I)I" } : Jvm.MethodName) ({ cls := "HuntersIntroduced$Rules", name := "reward", desc := "(LHuntersIntroduced$Forest;I)I" } : Jvm.MethodName)), (Jvm.Cond.code ({ cls := "HuntersIntroduced$Rules", name := "reward", desc := "(LHuntersIntroduced$Forest;I)I" } : Jvm.MethodName) prog_5_method_8_code (4 : Nat) (Option.some Jvm.ClassFile.FieldType.int)), (Jvm.Cond.methodLink "HuntersIntroduced$Rules" (84 : Nat) ({ cls := "HuntersIntroduced$Rules", name := "gainOf", desc := "(LHuntersIntroduced$Forest;I)I" } : Jvm.MethodName)), (Jvm.Cond.methodLink "HuntersIntroducedLaw" (70 : Nat) ({ cls := "HuntersIntroduced", name := "present", desc := "(III)I" } : Jvm.MethodName)), (Jvm.Cond.instanceMethod ({ cls := "HuntersIntroduced", name := "present", desc := "(III)I" } : Jvm.MethodName)), (Jvm.Cond.selects "HuntersIntroduced" ({ cls := "HuntersIntroduced", name := "present", desc := "(III)I" } : Jvm.MethodName) ({ cls := "HuntersIntroduced", name := "present", desc := "(III)I" } : Jvm.MethodName)), (Jvm.Cond.code ({ cls := "HuntersIntroduced", name := "present", desc := "(III)I" } : Jvm.MethodName) prog_1_method_15_code (4 : Nat) (Option.some Jvm.ClassFile.FieldType.int))]
def gl_3_4 : List Cond := [(Jvm.Cond.methodLink "HuntersIntroduced" (195 : Nat) ({ cls := "HuntersIntroduced$Forest", name := "hasCard", desc := "(II)Z" } : Jvm.MethodName)), (Jvm.Cond.methodLink "HuntersIntroduced" (198 : Nat) ({ cls := "HuntersIntroduced$Forest", name := "turnCard", desc := "(II)V" } : Jvm.MethodName)), (Jvm.Cond.instanceMethod ({ cls := "HuntersIntroduced$Forest", name := "turnCard", desc := "(II)V" } : Jvm.MethodName)), (Jvm.Cond.selects "HuntersIntroduced$Forest" ({ cls := "HuntersIntroduced$Forest", name := "turnCard", desc := "(II)V" } : Jvm.MethodName) ({ cls := "HuntersIntroduced$Forest", name := "turnCard", desc := "(II)V" } : Jvm.MethodName)), (Jvm.Cond.code ({ cls := "HuntersIntroduced$Forest", name := "turnCard", desc := "(II)V" } : Jvm.MethodName) prog_2_method_7_code (3 : Nat) (Option.none : Option Jvm.ClassFile.FieldType)), (Jvm.Cond.methodLink "HuntersIntroducedLaw" (74 : Nat) ({ cls := "HuntersIntroduced", name := "circle", desc := "(II)I" } : Jvm.MethodName)), (Jvm.Cond.instanceMethod ({ cls := "HuntersIntroduced", name := "circle", desc := "(II)I" } : Jvm.MethodName)), (Jvm.Cond.selects "HuntersIntroduced" ({ cls := "HuntersIntroduced", name := "circle", desc := "(II)I" } : Jvm.MethodName) ({ cls := "HuntersIntroduced", name := "circle", desc := "(II)I" } : Jvm.MethodName)), (Jvm.Cond.code ({ cls := "HuntersIntroduced", name := "circle", desc := "(II)I" } : Jvm.MethodName) prog_1_method_16_code (3 : Nat) (Option.some Jvm.ClassFile.FieldType.int)), (Jvm.Cond.methodLink "HuntersIntroduced" (202 : Nat) ({ cls := "HuntersIntroduced$Ways", name := "within", desc := "(LHuntersIntroduced$Rules;LHuntersIntroduced$Forest;II)I" } : Jvm.MethodName)), (Jvm.Cond.instanceMethod ({ cls := "HuntersIntroduced$Ways", name := "within", desc := "(LHuntersIntroduced$Rules;LHuntersIntroduced$Forest;II)I" } : Jvm.MethodName)), (Jvm.Cond.selects "HuntersIntroduced$Ways" ({ cls := "HuntersIntroduced$Ways", name := "within", desc := "(LHuntersIntroduced$Rules;LHuntersIntroduced$Forest;II)I" } : Jvm.MethodName) ({ cls := "HuntersIntroduced$Ways", name := "within", desc := "(LHuntersIntroduced$Rules;LHuntersIntroduced$Forest;II)I" } : Jvm.MethodName)), (Jvm.Cond.code ({ cls := "HuntersIntroduced$Ways", name := "within", desc := "(LHuntersIntroduced$Rules;LHuntersIntroduced$Forest;II)I" } : Jvm.MethodName) prog_8_method_4_code (7 : Nat) (Option.some Jvm.ClassFile.FieldType.int)), (Jvm.Cond.methodLink "HuntersIntroducedLaw" (78 : Nat) ({ cls := "HuntersIntroduced", name := "way", desc := "(III)I" } : Jvm.MethodName)), (Jvm.Cond.instanceMethod ({ cls := "HuntersIntroduced", name := "way", desc := "(III)I" } : Jvm.MethodName)), (Jvm.Cond.selects "HuntersIntroduced" ({ cls := "HuntersIntroduced", name := "way", desc := "(III)I" } : Jvm.MethodName) ({ cls := "HuntersIntroduced", name := "way", desc := "(III)I" } : Jvm.MethodName))]
def gl_3_5 : List Cond := [(Jvm.Cond.code ({ cls := "HuntersIntroduced", name := "way", desc := "(III)I" } : Jvm.MethodName) prog_1_method_17_code (5 : Nat) (Option.some Jvm.ClassFile.FieldType.int)), (Jvm.Cond.methodLink "HuntersIntroduced" (206 : Nat) ({ cls := "HuntersIntroduced$Ways", name := "measure", desc := "(LHuntersIntroduced$Rules;LHuntersIntroduced$Forest;I)V" } : Jvm.MethodName)), (Jvm.Cond.methodLink "HuntersIntroduced" (210 : Nat) ({ cls := "HuntersIntroduced$Ways", name := "sponsorOf", desc := "(LHuntersIntroduced$Forest;II)I" } : Jvm.MethodName)), (Jvm.Cond.instanceMethod ({ cls := "HuntersIntroduced$Ways", name := "sponsorOf", desc := "(LHuntersIntroduced$Forest;II)I" } : Jvm.MethodName)), (Jvm.Cond.selects "HuntersIntroduced$Ways" ({ cls := "HuntersIntroduced$Ways", name := "sponsorOf", desc := "(LHuntersIntroduced$Forest;II)I" } : Jvm.MethodName) ({ cls := "HuntersIntroduced$Ways", name := "sponsorOf", desc := "(LHuntersIntroduced$Forest;II)I" } : Jvm.MethodName)), (Jvm.Cond.code ({ cls := "HuntersIntroduced$Ways", name := "sponsorOf", desc := "(LHuntersIntroduced$Forest;II)I" } : Jvm.MethodName) prog_8_method_5_code (7 : Nat) (Option.some Jvm.ClassFile.FieldType.int)), (Jvm.Cond.methodLink "HuntersIntroduced$Ways" (40 : Nat) ({ cls := "HuntersIntroduced$Forest", name := "isAlive", desc := "(I)Z" } : Jvm.MethodName)), (Jvm.Cond.methodLink "HuntersIntroduced$Ways" (43 : Nat) ({ cls := "HuntersIntroduced$Forest", name := "hasCard", desc := "(II)Z" } : Jvm.MethodName)), (Jvm.Cond.methodLink "HuntersIntroduced" (216 : Nat) ({ cls := "HuntersIntroduced$Ways", name := "pathTo", desc := "(LHuntersIntroduced$Forest;I)I" } : Jvm.MethodName)), (Jvm.Cond.instanceMethod ({ cls := "HuntersIntroduced$Ways", name := "pathTo", desc := "(LHuntersIntroduced$Forest;I)I" } : Jvm.MethodName)), (Jvm.Cond.selects "HuntersIntroduced$Ways" ({ cls := "HuntersIntroduced$Ways", name := "pathTo", desc := "(LHuntersIntroduced$Forest;I)I" } : Jvm.MethodName) ({ cls := "HuntersIntroduced$Ways", name := "pathTo", desc := "(LHuntersIntroduced$Forest;I)I" } : Jvm.MethodName)), (Jvm.Cond.code ({ cls := "HuntersIntroduced$Ways", name := "pathTo", desc := "(LHuntersIntroduced$Forest;I)I" } : Jvm.MethodName) prog_8_method_6_code (7 : Nat) (Option.some Jvm.ClassFile.FieldType.int)), (Jvm.Cond.methodLink "HuntersIntroduced$Ways" (47 : Nat) ({ cls := "HuntersIntroduced$Ways", name := "nearer", desc := "(LHuntersIntroduced$Forest;I)I" } : Jvm.MethodName)), (Jvm.Cond.privateMethod ({ cls := "HuntersIntroduced$Ways", name := "nearer", desc := "(LHuntersIntroduced$Forest;I)I" } : Jvm.MethodName)), (Jvm.Cond.instanceMethod ({ cls := "HuntersIntroduced$Ways", name := "nearer", desc := "(LHuntersIntroduced$Forest;I)I" } : Jvm.MethodName)), (Jvm.Cond.code ({ cls := "HuntersIntroduced$Ways", name := "nearer", desc := "(LHuntersIntroduced$Forest;I)I" } : Jvm.MethodName) prog_8_method_7_code (4 : Nat) (Option.some Jvm.ClassFile.FieldType.int))]
def gl_3_6 : List Cond := [(Jvm.Cond.methodLink "HuntersIntroduced$Ways" (51 : Nat) ({ cls := "HuntersIntroduced$Forest", name := "haveMet", desc := "(II)Z" } : Jvm.MethodName)), (Jvm.Cond.methodLink "HuntersIntroducedLaw" (82 : Nat) ({ cls := "HuntersIntroduced", name := "shoot", desc := "(II)I" } : Jvm.MethodName)), (Jvm.Cond.instanceMethod ({ cls := "HuntersIntroduced", name := "shoot", desc := "(II)I" } : Jvm.MethodName)), (Jvm.Cond.selects "HuntersIntroduced" ({ cls := "HuntersIntroduced", name := "shoot", desc := "(II)I" } : Jvm.MethodName) ({ cls := "HuntersIntroduced", name := "shoot", desc := "(II)I" } : Jvm.MethodName)), (Jvm.Cond.code ({ cls := "HuntersIntroduced", name := "shoot", desc := "(II)I" } : Jvm.MethodName) prog_1_method_18_code (4 : Nat) (Option.some Jvm.ClassFile.FieldType.int)), (Jvm.Cond.methodLink "HuntersIntroduced" (219 : Nat) ({ cls := "HuntersIntroduced", name := "shotRefusal", desc := "(II)I" } : Jvm.MethodName)), (Jvm.Cond.privateMethod ({ cls := "HuntersIntroduced", name := "shotRefusal", desc := "(II)I" } : Jvm.MethodName)), (Jvm.Cond.instanceMethod ({ cls := "HuntersIntroduced", name := "shotRefusal", desc := "(II)I" } : Jvm.MethodName)), (Jvm.Cond.code ({ cls := "HuntersIntroduced", name := "shotRefusal", desc := "(II)I" } : Jvm.MethodName) prog_1_method_48_code (3 : Nat) (Option.some Jvm.ClassFile.FieldType.int)), (Jvm.Cond.methodLink "HuntersIntroduced" (223 : Nat) ({ cls := "HuntersIntroduced$Rules", name := "shot", desc := "(LHuntersIntroduced$Forest;II)I" } : Jvm.MethodName)), (Jvm.Cond.instanceMethod ({ cls := "HuntersIntroduced$Rules", name := "shot", desc := "(LHuntersIntroduced$Forest;II)I" } : Jvm.MethodName)), (Jvm.Cond.selects "HuntersIntroduced$Rules" ({ cls := "HuntersIntroduced$Rules", name := "shot", desc := "(LHuntersIntroduced$Forest;II)I" } : Jvm.MethodName) ({ cls := "HuntersIntroduced$Rules", name := "shot", desc := "(LHuntersIntroduced$Forest;II)I" } : Jvm.MethodName)), (Jvm.Cond.code ({ cls := "HuntersIntroduced$Rules", name := "shot", desc := "(LHuntersIntroduced$Forest;II)I" } : Jvm.MethodName) prog_5_method_10_code (5 : Nat) (Option.some Jvm.ClassFile.FieldType.int)), (Jvm.Cond.methodLink "HuntersIntroduced$Rules" (96 : Nat) ({ cls := "HuntersIntroduced$Rules", name := "shotNow", desc := "(LHuntersIntroduced$Forest;II)I" } : Jvm.MethodName)), (Jvm.Cond.instanceMethod ({ cls := "HuntersIntroduced$Rules", name := "shotNow", desc := "(LHuntersIntroduced$Forest;II)I" } : Jvm.MethodName)), (Jvm.Cond.selects "HuntersIntroduced$Rules" ({ cls := "HuntersIntroduced$Rules", name := "shotNow", desc := "(LHuntersIntroduced$Forest;II)I" } : Jvm.MethodName) ({ cls := "HuntersIntroduced$Rules", name := "shotNow", desc := "(LHuntersIntroduced$Forest;II)I" } : Jvm.MethodName))]
def gl_3_7 : List Cond := [(Jvm.Cond.code ({ cls := "HuntersIntroduced$Rules", name := "shotNow", desc := "(LHuntersIntroduced$Forest;II)I" } : Jvm.MethodName) prog_5_method_9_code (4 : Nat) (Option.some Jvm.ClassFile.FieldType.int)), (Jvm.Cond.methodLink "HuntersIntroduced$Rules" (88 : Nat) ({ cls := "HuntersIntroduced$Forest", name := "isAlive", desc := "(I)Z" } : Jvm.MethodName)), (Jvm.Cond.methodLink "HuntersIntroduced$Rules" (92 : Nat) ({ cls := "HuntersIntroduced$Rules", name := "aimOf", desc := "(LHuntersIntroduced$Forest;II)I" } : Jvm.MethodName)), (Jvm.Cond.methodLink "HuntersIntroduced$Rules" (99 : Nat) ({ cls := "HuntersIntroduced$Forest", name := "honourByHit", desc := "(II)I" } : Jvm.MethodName)), (Jvm.Cond.instanceMethod ({ cls := "HuntersIntroduced$Forest", name := "honourByHit", desc := "(II)I" } : Jvm.MethodName)), (Jvm.Cond.selects "HuntersIntroduced$Forest" ({ cls := "HuntersIntroduced$Forest", name := "honourByHit", desc := "(II)I" } : Jvm.MethodName) ({ cls := "HuntersIntroduced$Forest", name := "honourByHit", desc := "(II)I" } : Jvm.MethodName)), (Jvm.Cond.code ({ cls := "HuntersIntroduced$Forest", name := "honourByHit", desc := "(II)I" } : Jvm.MethodName) prog_2_method_11_code (3 : Nat) (Option.some Jvm.ClassFile.FieldType.int)), (Jvm.Cond.methodLink "HuntersIntroduced$Forest" (52 : Nat) ({ cls := "java/lang/Math", name := "min", desc := "(II)I" } : Jvm.MethodName)), (Jvm.Cond.methodLink "HuntersIntroduced$Rules" (102 : Nat) ({ cls := "HuntersIntroduced$Forest", name := "setAlive", desc := "(IZ)V" } : Jvm.MethodName)), (Jvm.Cond.methodLink "HuntersIntroducedLaw" (86 : Nat) ({ cls := "HuntersIntroduced", name := "aims", desc := "(II)I" } : Jvm.MethodName)), (Jvm.Cond.instanceMethod ({ cls := "HuntersIntroduced", name := "aims", desc := "(II)I" } : Jvm.MethodName)), (Jvm.Cond.selects "HuntersIntroduced" ({ cls := "HuntersIntroduced", name := "aims", desc := "(II)I" } : Jvm.MethodName) ({ cls := "HuntersIntroduced", name := "aims", desc := "(II)I" } : Jvm.MethodName)), (Jvm.Cond.code ({ cls := "HuntersIntroduced", name := "aims", desc := "(II)I" } : Jvm.MethodName) prog_1_method_19_code (4 : Nat) (Option.some Jvm.ClassFile.FieldType.int)), (Jvm.Cond.methodLink "HuntersIntroduced" (226 : Nat) ({ cls := "HuntersIntroduced$Rules", name := "shotNow", desc := "(LHuntersIntroduced$Forest;II)I" } : Jvm.MethodName)), (Jvm.Cond.methodLink "HuntersIntroducedLaw" (90 : Nat) ({ cls := "HuntersIntroduced", name := "season", desc := "(III)I" } : Jvm.MethodName)), (Jvm.Cond.instanceMethod ({ cls := "HuntersIntroduced", name := "season", desc := "(III)I" } : Jvm.MethodName))]
def gl_3_8 : List Cond := [(Jvm.Cond.selects "HuntersIntroduced" ({ cls := "HuntersIntroduced", name := "season", desc := "(III)I" } : Jvm.MethodName) ({ cls := "HuntersIntroduced", name := "season", desc := "(III)I" } : Jvm.MethodName)), (Jvm.Cond.code ({ cls := "HuntersIntroduced", name := "season", desc := "(III)I" } : Jvm.MethodName) prog_1_method_20_code (7 : Nat) (Option.some Jvm.ClassFile.FieldType.int)), (Jvm.Cond.methodLink "HuntersIntroduced" (229 : Nat) ({ cls := "HuntersIntroduced", name := "seasonRefusal", desc := "(I)I" } : Jvm.MethodName)), (Jvm.Cond.privateMethod ({ cls := "HuntersIntroduced", name := "seasonRefusal", desc := "(I)I" } : Jvm.MethodName)), (Jvm.Cond.instanceMethod ({ cls := "HuntersIntroduced", name := "seasonRefusal", desc := "(I)I" } : Jvm.MethodName)), (Jvm.Cond.code ({ cls := "HuntersIntroduced", name := "seasonRefusal", desc := "(I)I" } : Jvm.MethodName) prog_1_method_49_code (2 : Nat) (Option.some Jvm.ClassFile.FieldType.int)), (Jvm.Cond.methodLink "HuntersIntroduced" (264 : Nat) ({ cls := "HuntersIntroduced", name := "isSheet", desc := "(I)Z" } : Jvm.MethodName)), (Jvm.Cond.static ({ cls := "HuntersIntroduced", name := "isSheet", desc := "(I)Z" } : Jvm.MethodName)), (Jvm.Cond.code ({ cls := "HuntersIntroduced", name := "isSheet", desc := "(I)Z" } : Jvm.MethodName) prog_1_method_45_code (1 : Nat) (Option.some Jvm.ClassFile.FieldType.boolean)), (Jvm.Cond.methodLink "HuntersIntroduced" (280 : Nat) ({ cls := "HuntersIntroduced$Sheet", name := "isMissing", desc := "()Z" } : Jvm.MethodName)), (Jvm.Cond.instanceMethod ({ cls := "HuntersIntroduced$Sheet", name := "isMissing", desc := "()Z" } : Jvm.MethodName)), (Jvm.Cond.selects "HuntersIntroduced$Sheet" ({ cls := "HuntersIntroduced$Sheet", name := "isMissing", desc := "()Z" } : Jvm.MethodName) ({ cls := "HuntersIntroduced$Sheet", name := "isMissing", desc := "()Z" } : Jvm.MethodName)), (Jvm.Cond.code ({ cls := "HuntersIntroduced$Sheet", name := "isMissing", desc := "()Z" } : Jvm.MethodName) prog_6_method_3_code (1 : Nat) (Option.some Jvm.ClassFile.FieldType.boolean)), (Jvm.Cond.methodLink "HuntersIntroduced" (302 : Nat) ({ cls := "HuntersIntroduced$Sheet", name := "tellsDeer", desc := "()Z" } : Jvm.MethodName)), (Jvm.Cond.instanceMethod ({ cls := "HuntersIntroduced$Sheet", name := "tellsDeer", desc := "()Z" } : Jvm.MethodName)), (Jvm.Cond.selects "HuntersIntroduced$Sheet" ({ cls := "HuntersIntroduced$Sheet", name := "tellsDeer", desc := "()Z" } : Jvm.MethodName) ({ cls := "HuntersIntroduced$Sheet", name := "tellsDeer", desc := "()Z" } : Jvm.MethodName))]
def gl_3_9 : List Cond := [(Jvm.Cond.code ({ cls := "HuntersIntroduced$Sheet", name := "tellsDeer", desc := "()Z" } : Jvm.MethodName) prog_6_method_6_code (2 : Nat) (Option.some Jvm.ClassFile.FieldType.boolean)), (Jvm.Cond.methodLinkNest "HuntersIntroduced$Sheet" (22 : Nat) ({ cls := "HuntersIntroduced", name := "isDeer", desc := "(I)Z" } : Jvm.MethodName) "HuntersIntroduced"), (Jvm.Cond.methodLink "HuntersIntroduced" (232 : Nat) ({ cls := "HuntersIntroduced$Forest", name := "become", desc := "(LHuntersIntroduced$Forest;)V" } : Jvm.MethodName)), (Jvm.Cond.instanceMethod ({ cls := "HuntersIntroduced$Forest", name := "become", desc := "(LHuntersIntroduced$Forest;)V" } : Jvm.MethodName)), (Jvm.Cond.selects "HuntersIntroduced$Forest" ({ cls := "HuntersIntroduced$Forest", name := "become", desc := "(LHuntersIntroduced$Forest;)V" } : Jvm.MethodName) ({ cls := "HuntersIntroduced$Forest", name := "become", desc := "(LHuntersIntroduced$Forest;)V" } : Jvm.MethodName)), (Jvm.Cond.code ({ cls := "HuntersIntroduced$Forest", name := "become", desc := "(LHuntersIntroduced$Forest;)V" } : Jvm.MethodName) prog_2_method_2_code (2 : Nat) (Option.none : Option Jvm.ClassFile.FieldType)), (Jvm.Cond.methodLink "HuntersIntroduced$Forest" (46 : Nat) ({ cls := "java/lang/System", name := "arraycopy", desc := "(Ljava/lang/Object;ILjava/lang/Object;II)V" } : Jvm.MethodName)), (Jvm.Cond.methodLink "HuntersIntroduced" (236 : Nat) ({ cls := "HuntersIntroduced", name := "shootAll", desc := "(LHuntersIntroduced$Forest;LHuntersIntroduced$Sheet;II)I" } : Jvm.MethodName)), (Jvm.Cond.privateMethod ({ cls := "HuntersIntroduced", name := "shootAll", desc := "(LHuntersIntroduced$Forest;LHuntersIntroduced$Sheet;II)I" } : Jvm.MethodName)), (Jvm.Cond.instanceMethod ({ cls := "HuntersIntroduced", name := "shootAll", desc := "(LHuntersIntroduced$Forest;LHuntersIntroduced$Sheet;II)I" } : Jvm.MethodName)), (Jvm.Cond.code ({ cls := "HuntersIntroduced", name := "shootAll", desc := "(LHuntersIntroduced$Forest;LHuntersIntroduced$Sheet;II)I" } : Jvm.MethodName) prog_1_method_52_code (7 : Nat) (Option.some Jvm.ClassFile.FieldType.int)), (Jvm.Cond.methodLink "HuntersIntroducedLaw" (94 : Nat) ({ cls := "HuntersIntroduced", name := "hunt", desc := "(II)I" } : Jvm.MethodName)), (Jvm.Cond.instanceMethod ({ cls := "HuntersIntroduced", name := "hunt", desc := "(II)I" } : Jvm.MethodName)), (Jvm.Cond.selects "HuntersIntroduced" ({ cls := "HuntersIntroduced", name := "hunt", desc := "(II)I" } : Jvm.MethodName) ({ cls := "HuntersIntroduced", name := "hunt", desc := "(II)I" } : Jvm.MethodName)), (Jvm.Cond.code ({ cls := "HuntersIntroduced", name := "hunt", desc := "(II)I" } : Jvm.MethodName) prog_1_method_21_code (4 : Nat) (Option.some Jvm.ClassFile.FieldType.int)), (Jvm.Cond.methodLink "HuntersIntroducedLaw" (98 : Nat) ({ cls := "HuntersIntroduced", name := "ball", desc := "(I)I" } : Jvm.MethodName))]
def gl_3_10 : List Cond := [(Jvm.Cond.instanceMethod ({ cls := "HuntersIntroduced", name := "ball", desc := "(I)I" } : Jvm.MethodName)), (Jvm.Cond.selects "HuntersIntroduced" ({ cls := "HuntersIntroduced", name := "ball", desc := "(I)I" } : Jvm.MethodName) ({ cls := "HuntersIntroduced", name := "ball", desc := "(I)I" } : Jvm.MethodName)), (Jvm.Cond.code ({ cls := "HuntersIntroduced", name := "ball", desc := "(I)I" } : Jvm.MethodName) prog_1_method_22_code (7 : Nat) (Option.some Jvm.ClassFile.FieldType.int)), (Jvm.Cond.methodLink "HuntersIntroduced" (240 : Nat) ({ cls := "HuntersIntroduced$Ways", name := "allSponsored", desc := "(LHuntersIntroduced$Rules;LHuntersIntroduced$Forest;)I" } : Jvm.MethodName)), (Jvm.Cond.instanceMethod ({ cls := "HuntersIntroduced$Ways", name := "allSponsored", desc := "(LHuntersIntroduced$Rules;LHuntersIntroduced$Forest;)I" } : Jvm.MethodName)), (Jvm.Cond.selects "HuntersIntroduced$Ways" ({ cls := "HuntersIntroduced$Ways", name := "allSponsored", desc := "(LHuntersIntroduced$Rules;LHuntersIntroduced$Forest;)I" } : Jvm.MethodName) ({ cls := "HuntersIntroduced$Ways", name := "allSponsored", desc := "(LHuntersIntroduced$Rules;LHuntersIntroduced$Forest;)I" } : Jvm.MethodName)), (Jvm.Cond.code ({ cls := "HuntersIntroduced$Ways", name := "allSponsored", desc := "(LHuntersIntroduced$Rules;LHuntersIntroduced$Forest;)I" } : Jvm.MethodName) prog_8_method_9_code (5 : Nat) (Option.some Jvm.ClassFile.FieldType.int)), (Jvm.Cond.methodLink "HuntersIntroduced$Ways" (60 : Nat) ({ cls := "HuntersIntroduced$Ways", name := "sponsored", desc := "(LHuntersIntroduced$Rules;LHuntersIntroduced$Forest;I)I" } : Jvm.MethodName)), (Jvm.Cond.methodLink "HuntersIntroduced$Ways" (64 : Nat) ({ cls := "java/lang/Integer", name := "bitCount", desc := "(I)I" } : Jvm.MethodName)), (Jvm.Cond.methodLink "HuntersIntroducedLaw" (102 : Nat) ({ cls := "HuntersIntroduced", name := "safest", desc := "(I)I" } : Jvm.MethodName)), (Jvm.Cond.instanceMethod ({ cls := "HuntersIntroduced", name := "safest", desc := "(I)I" } : Jvm.MethodName)), (Jvm.Cond.selects "HuntersIntroduced" ({ cls := "HuntersIntroduced", name := "safest", desc := "(I)I" } : Jvm.MethodName) ({ cls := "HuntersIntroduced", name := "safest", desc := "(I)I" } : Jvm.MethodName)), (Jvm.Cond.code ({ cls := "HuntersIntroduced", name := "safest", desc := "(I)I" } : Jvm.MethodName) prog_1_method_23_code (7 : Nat) (Option.some Jvm.ClassFile.FieldType.int)), (Jvm.Cond.methodLink "HuntersIntroducedLaw" (106 : Nat) ({ cls := "HuntersIntroduced", name := "prize", desc := "(II)I" } : Jvm.MethodName)), (Jvm.Cond.instanceMethod ({ cls := "HuntersIntroduced", name := "prize", desc := "(II)I" } : Jvm.MethodName)), (Jvm.Cond.selects "HuntersIntroduced" ({ cls := "HuntersIntroduced", name := "prize", desc := "(II)I" } : Jvm.MethodName) ({ cls := "HuntersIntroduced", name := "prize", desc := "(II)I" } : Jvm.MethodName))]
def gl_3_11 : List Cond := [(Jvm.Cond.code ({ cls := "HuntersIntroduced", name := "prize", desc := "(II)I" } : Jvm.MethodName) prog_1_method_24_code (7 : Nat) (Option.some Jvm.ClassFile.FieldType.int)), (Jvm.Cond.methodLink "HuntersIntroduced" (244 : Nat) ({ cls := "HuntersIntroduced$Forest", name := "honourByHit", desc := "(II)I" } : Jvm.MethodName)), (Jvm.Cond.methodLink "HuntersIntroducedLaw" (110 : Nat) ({ cls := "HuntersIntroduced", name := "society", desc := "(I)J" } : Jvm.MethodName)), (Jvm.Cond.instanceMethod ({ cls := "HuntersIntroduced", name := "society", desc := "(I)J" } : Jvm.MethodName)), (Jvm.Cond.selects "HuntersIntroduced" ({ cls := "HuntersIntroduced", name := "society", desc := "(I)J" } : Jvm.MethodName) ({ cls := "HuntersIntroduced", name := "society", desc := "(I)J" } : Jvm.MethodName)), (Jvm.Cond.code ({ cls := "HuntersIntroduced", name := "society", desc := "(I)J" } : Jvm.MethodName) prog_1_method_25_code (4 : Nat) (Option.some Jvm.ClassFile.FieldType.long)), (Jvm.Cond.constantLong "HuntersIntroduced" (247 : Nat) (-4611686018427387904 : Int64)), (Jvm.Cond.methodLink "HuntersIntroduced" (249 : Nat) ({ cls := "HuntersIntroduced", name := "lowestTerms", desc := "(JJI)J" } : Jvm.MethodName)), (Jvm.Cond.static ({ cls := "HuntersIntroduced", name := "lowestTerms", desc := "(JJI)J" } : Jvm.MethodName)), (Jvm.Cond.code ({ cls := "HuntersIntroduced", name := "lowestTerms", desc := "(JJI)J" } : Jvm.MethodName) prog_1_method_47_code (12 : Nat) (Option.some Jvm.ClassFile.FieldType.long)), (Jvm.Cond.methodLink "HuntersIntroducedLaw" (115 : Nat) ({ cls := "HuntersIntroduced", name := "judge", desc := "(III)I" } : Jvm.MethodName)), (Jvm.Cond.instanceMethod ({ cls := "HuntersIntroduced", name := "judge", desc := "(III)I" } : Jvm.MethodName)), (Jvm.Cond.selects "HuntersIntroduced" ({ cls := "HuntersIntroduced", name := "judge", desc := "(III)I" } : Jvm.MethodName) ({ cls := "HuntersIntroduced", name := "judge", desc := "(III)I" } : Jvm.MethodName)), (Jvm.Cond.code ({ cls := "HuntersIntroduced", name := "judge", desc := "(III)I" } : Jvm.MethodName) prog_1_method_26_code (5 : Nat) (Option.some Jvm.ClassFile.FieldType.int)), (Jvm.Cond.methodLink "HuntersIntroduced" (253 : Nat) ({ cls := "HuntersIntroduced", name := "judgeRefusal", desc := "(III)I" } : Jvm.MethodName)), (Jvm.Cond.privateMethod ({ cls := "HuntersIntroduced", name := "judgeRefusal", desc := "(III)I" } : Jvm.MethodName))]
def gl_3_12 : List Cond := [(Jvm.Cond.instanceMethod ({ cls := "HuntersIntroduced", name := "judgeRefusal", desc := "(III)I" } : Jvm.MethodName)), (Jvm.Cond.code ({ cls := "HuntersIntroduced", name := "judgeRefusal", desc := "(III)I" } : Jvm.MethodName) prog_1_method_51_code (5 : Nat) (Option.some Jvm.ClassFile.FieldType.int)), (Jvm.Cond.methodLink "HuntersIntroduced" (261 : Nat) ({ cls := "HuntersIntroduced", name := "tellingRefusal", desc := "(II)I" } : Jvm.MethodName)), (Jvm.Cond.privateMethod ({ cls := "HuntersIntroduced", name := "tellingRefusal", desc := "(II)I" } : Jvm.MethodName)), (Jvm.Cond.instanceMethod ({ cls := "HuntersIntroduced", name := "tellingRefusal", desc := "(II)I" } : Jvm.MethodName)), (Jvm.Cond.code ({ cls := "HuntersIntroduced", name := "tellingRefusal", desc := "(II)I" } : Jvm.MethodName) prog_1_method_50_code (4 : Nat) (Option.some Jvm.ClassFile.FieldType.int)), (Jvm.Cond.methodLink "HuntersIntroduced" (257 : Nat) ({ cls := "HuntersIntroduced", name := "firstOtherwise", desc := "(LHuntersIntroduced$Sheet;LHuntersIntroduced$Sheet;I)I" } : Jvm.MethodName)), (Jvm.Cond.privateMethod ({ cls := "HuntersIntroduced", name := "firstOtherwise", desc := "(LHuntersIntroduced$Sheet;LHuntersIntroduced$Sheet;I)I" } : Jvm.MethodName)), (Jvm.Cond.instanceMethod ({ cls := "HuntersIntroduced", name := "firstOtherwise", desc := "(LHuntersIntroduced$Sheet;LHuntersIntroduced$Sheet;I)I" } : Jvm.MethodName)), (Jvm.Cond.code ({ cls := "HuntersIntroduced", name := "firstOtherwise", desc := "(LHuntersIntroduced$Sheet;LHuntersIntroduced$Sheet;I)I" } : Jvm.MethodName) prog_1_method_53_code (5 : Nat) (Option.some Jvm.ClassFile.FieldType.int)), (Jvm.Cond.methodLink "HuntersIntroducedLaw" (119 : Nat) ({ cls := "HuntersIntroduced", name := "kinds", desc := "(IIII)I" } : Jvm.MethodName)), (Jvm.Cond.instanceMethod ({ cls := "HuntersIntroduced", name := "kinds", desc := "(IIII)I" } : Jvm.MethodName)), (Jvm.Cond.selects "HuntersIntroduced" ({ cls := "HuntersIntroduced", name := "kinds", desc := "(IIII)I" } : Jvm.MethodName) ({ cls := "HuntersIntroduced", name := "kinds", desc := "(IIII)I" } : Jvm.MethodName)), (Jvm.Cond.code ({ cls := "HuntersIntroduced", name := "kinds", desc := "(IIII)I" } : Jvm.MethodName) prog_1_method_27_code (8 : Nat) (Option.some Jvm.ClassFile.FieldType.int)), (Jvm.Cond.methodLink "HuntersIntroducedLaw" (124 : Nat) ({ cls := "HuntersIntroduced", name := "turned", desc := "(III)I" } : Jvm.MethodName)), (Jvm.Cond.instanceMethod ({ cls := "HuntersIntroduced", name := "turned", desc := "(III)I" } : Jvm.MethodName))]
def gl_3_13 : List Cond := [(Jvm.Cond.selects "HuntersIntroduced" ({ cls := "HuntersIntroduced", name := "turned", desc := "(III)I" } : Jvm.MethodName) ({ cls := "HuntersIntroduced", name := "turned", desc := "(III)I" } : Jvm.MethodName)), (Jvm.Cond.code ({ cls := "HuntersIntroduced", name := "turned", desc := "(III)I" } : Jvm.MethodName) prog_1_method_28_code (7 : Nat) (Option.some Jvm.ClassFile.FieldType.int)), (Jvm.Cond.methodLink "HuntersIntroducedLaw" (128 : Nat) ({ cls := "HuntersIntroduced", name := "honours", desc := "(IIII)I" } : Jvm.MethodName)), (Jvm.Cond.instanceMethod ({ cls := "HuntersIntroduced", name := "honours", desc := "(IIII)I" } : Jvm.MethodName)), (Jvm.Cond.selects "HuntersIntroduced" ({ cls := "HuntersIntroduced", name := "honours", desc := "(IIII)I" } : Jvm.MethodName) ({ cls := "HuntersIntroduced", name := "honours", desc := "(IIII)I" } : Jvm.MethodName)), (Jvm.Cond.code ({ cls := "HuntersIntroduced", name := "honours", desc := "(IIII)I" } : Jvm.MethodName) prog_1_method_29_code (9 : Nat) (Option.some Jvm.ClassFile.FieldType.int)), (Jvm.Cond.methodLink "HuntersIntroducedLaw" (132 : Nat) ({ cls := "HuntersIntroduced", name := "whose", desc := "(II)I" } : Jvm.MethodName)), (Jvm.Cond.instanceMethod ({ cls := "HuntersIntroduced", name := "whose", desc := "(II)I" } : Jvm.MethodName)), (Jvm.Cond.selects "HuntersIntroduced" ({ cls := "HuntersIntroduced", name := "whose", desc := "(II)I" } : Jvm.MethodName) ({ cls := "HuntersIntroduced", name := "whose", desc := "(II)I" } : Jvm.MethodName)), (Jvm.Cond.code ({ cls := "HuntersIntroduced", name := "whose", desc := "(II)I" } : Jvm.MethodName) prog_1_method_30_code (6 : Nat) (Option.some Jvm.ClassFile.FieldType.int)), (Jvm.Cond.methodLink "HuntersIntroducedLaw" (136 : Nat) ({ cls := "HuntersIntroduced", name := "laws", desc := "(III)I" } : Jvm.MethodName)), (Jvm.Cond.instanceMethod ({ cls := "HuntersIntroduced", name := "laws", desc := "(III)I" } : Jvm.MethodName)), (Jvm.Cond.selects "HuntersIntroduced" ({ cls := "HuntersIntroduced", name := "laws", desc := "(III)I" } : Jvm.MethodName) ({ cls := "HuntersIntroduced", name := "laws", desc := "(III)I" } : Jvm.MethodName)), (Jvm.Cond.code ({ cls := "HuntersIntroduced", name := "laws", desc := "(III)I" } : Jvm.MethodName) prog_1_method_31_code (7 : Nat) (Option.some Jvm.ClassFile.FieldType.int)), (Jvm.Cond.methodLink "HuntersIntroducedLaw" (140 : Nat) ({ cls := "HuntersIntroduced", name := "film", desc := "(III)I" } : Jvm.MethodName)), (Jvm.Cond.instanceMethod ({ cls := "HuntersIntroduced", name := "film", desc := "(III)I" } : Jvm.MethodName))]
def gl_3_14 : List Cond := [(Jvm.Cond.selects "HuntersIntroduced" ({ cls := "HuntersIntroduced", name := "film", desc := "(III)I" } : Jvm.MethodName) ({ cls := "HuntersIntroduced", name := "film", desc := "(III)I" } : Jvm.MethodName)), (Jvm.Cond.code ({ cls := "HuntersIntroduced", name := "film", desc := "(III)I" } : Jvm.MethodName) prog_1_method_32_code (8 : Nat) (Option.some Jvm.ClassFile.FieldType.int)), (Jvm.Cond.methodLink "HuntersIntroduced" (268 : Nat) ({ cls := "HuntersIntroduced$Sheet", name := "become", desc := "(II)V" } : Jvm.MethodName)), (Jvm.Cond.instanceMethod ({ cls := "HuntersIntroduced$Sheet", name := "become", desc := "(II)V" } : Jvm.MethodName)), (Jvm.Cond.selects "HuntersIntroduced$Sheet" ({ cls := "HuntersIntroduced$Sheet", name := "become", desc := "(II)V" } : Jvm.MethodName) ({ cls := "HuntersIntroduced$Sheet", name := "become", desc := "(II)V" } : Jvm.MethodName)), (Jvm.Cond.code ({ cls := "HuntersIntroduced$Sheet", name := "become", desc := "(II)V" } : Jvm.MethodName) prog_6_method_2_code (4 : Nat) (Option.none : Option Jvm.ClassFile.FieldType)), (Jvm.Cond.methodLink "HuntersIntroduced" (273 : Nat) ({ cls := "HuntersIntroduced$Sheet", name := "set", desc := "(II)V" } : Jvm.MethodName)), (Jvm.Cond.instanceMethod ({ cls := "HuntersIntroduced$Sheet", name := "set", desc := "(II)V" } : Jvm.MethodName)), (Jvm.Cond.selects "HuntersIntroduced$Sheet" ({ cls := "HuntersIntroduced$Sheet", name := "set", desc := "(II)V" } : Jvm.MethodName) ({ cls := "HuntersIntroduced$Sheet", name := "set", desc := "(II)V" } : Jvm.MethodName)), (Jvm.Cond.code ({ cls := "HuntersIntroduced$Sheet", name := "set", desc := "(II)V" } : Jvm.MethodName) prog_6_method_5_code (3 : Nat) (Option.none : Option Jvm.ClassFile.FieldType)), (Jvm.Cond.methodLink "HuntersIntroducedLaw" (144 : Nat) ({ cls := "HuntersIntroduced", name := "drawn", desc := "(III)I" } : Jvm.MethodName)), (Jvm.Cond.instanceMethod ({ cls := "HuntersIntroduced", name := "drawn", desc := "(III)I" } : Jvm.MethodName)), (Jvm.Cond.selects "HuntersIntroduced" ({ cls := "HuntersIntroduced", name := "drawn", desc := "(III)I" } : Jvm.MethodName) ({ cls := "HuntersIntroduced", name := "drawn", desc := "(III)I" } : Jvm.MethodName)), (Jvm.Cond.code ({ cls := "HuntersIntroduced", name := "drawn", desc := "(III)I" } : Jvm.MethodName) prog_1_method_33_code (5 : Nat) (Option.some Jvm.ClassFile.FieldType.int)), (Jvm.Cond.constant "HuntersIntroduced" (276 : Nat) (99999 : Int32)), (Jvm.Cond.methodLink "HuntersIntroduced" (277 : Nat) ({ cls := "HuntersIntroduced", name := "shootByLots", desc := "(II)I" } : Jvm.MethodName))]
set_option maxRecDepth 100000 in
theorem tq_3 : tables_1_3 = gl_3_0 ++ (gl_3_1 ++ (gl_3_2 ++ (gl_3_3 ++ (gl_3_4 ++ (gl_3_5 ++ (gl_3_6 ++ (gl_3_7 ++ (gl_3_8 ++ (gl_3_9 ++ (gl_3_10 ++ (gl_3_11 ++ (gl_3_12 ++ (gl_3_13 ++ (gl_3_14)))))))))))))) := rfl
theorem ck_3_0 : ∀ w ∈ gl_3_0, w ∈ tables_1 := fun w h => List.mem_append_right _ (List.mem_append_right _ (List.mem_append_left _ (tq_3 ▸ (List.mem_append_left _ h) : w ∈ tables_1_3)))
theorem ck_3_1 : ∀ w ∈ gl_3_1, w ∈ tables_1 := fun w h => List.mem_append_right _ (List.mem_append_right _ (List.mem_append_left _ (tq_3 ▸ (List.mem_append_right _ (List.mem_append_left _ h)) : w ∈ tables_1_3)))
theorem ck_3_2 : ∀ w ∈ gl_3_2, w ∈ tables_1 := fun w h => List.mem_append_right _ (List.mem_append_right _ (List.mem_append_left _ (tq_3 ▸ (List.mem_append_right _ (List.mem_append_right _ (List.mem_append_left _ h))) : w ∈ tables_1_3)))
theorem ck_3_3 : ∀ w ∈ gl_3_3, w ∈ tables_1 := fun w h => List.mem_append_right _ (List.mem_append_right _ (List.mem_append_left _ (tq_3 ▸ (List.mem_append_right _ (List.mem_append_right _ (List.mem_append_right _ (List.mem_append_left _ h)))) : w ∈ tables_1_3)))
theorem ck_3_4 : ∀ w ∈ gl_3_4, w ∈ tables_1 := fun w h => List.mem_append_right _ (List.mem_append_right _ (List.mem_append_left _ (tq_3 ▸ (List.mem_append_right _ (List.mem_append_right _ (List.mem_append_right _ (List.mem_append_right _ (List.mem_append_left _ h))))) : w ∈ tables_1_3)))
theorem ck_3_5 : ∀ w ∈ gl_3_5, w ∈ tables_1 := fun w h => List.mem_append_right _ (List.mem_append_right _ (List.mem_append_left _ (tq_3 ▸ (List.mem_append_right _ (List.mem_append_right _ (List.mem_append_right _ (List.mem_append_right _ (List.mem_append_right _ (List.mem_append_left _ h)))))) : w ∈ tables_1_3)))
theorem ck_3_6 : ∀ w ∈ gl_3_6, w ∈ tables_1 := fun w h => List.mem_append_right _ (List.mem_append_right _ (List.mem_append_left _ (tq_3 ▸ (List.mem_append_right _ (List.mem_append_right _ (List.mem_append_right _ (List.mem_append_right _ (List.mem_append_right _ (List.mem_append_right _ (List.mem_append_left _ h))))))) : w ∈ tables_1_3)))
theorem ck_3_7 : ∀ w ∈ gl_3_7, w ∈ tables_1 := fun w h => List.mem_append_right _ (List.mem_append_right _ (List.mem_append_left _ (tq_3 ▸ (List.mem_append_right _ (List.mem_append_right _ (List.mem_append_right _ (List.mem_append_right _ (List.mem_append_right _ (List.mem_append_right _ (List.mem_append_right _ (List.mem_append_left _ h)))))))) : w ∈ tables_1_3)))
theorem ck_3_8 : ∀ w ∈ gl_3_8, w ∈ tables_1 := fun w h => List.mem_append_right _ (List.mem_append_right _ (List.mem_append_left _ (tq_3 ▸ (List.mem_append_right _ (List.mem_append_right _ (List.mem_append_right _ (List.mem_append_right _ (List.mem_append_right _ (List.mem_append_right _ (List.mem_append_right _ (List.mem_append_right _ (List.mem_append_left _ h))))))))) : w ∈ tables_1_3)))
theorem ck_3_9 : ∀ w ∈ gl_3_9, w ∈ tables_1 := fun w h => List.mem_append_right _ (List.mem_append_right _ (List.mem_append_left _ (tq_3 ▸ (List.mem_append_right _ (List.mem_append_right _ (List.mem_append_right _ (List.mem_append_right _ (List.mem_append_right _ (List.mem_append_right _ (List.mem_append_right _ (List.mem_append_right _ (List.mem_append_right _ (List.mem_append_left _ h)))))))))) : w ∈ tables_1_3)))
theorem ck_3_10 : ∀ w ∈ gl_3_10, w ∈ tables_1 := fun w h => List.mem_append_right _ (List.mem_append_right _ (List.mem_append_left _ (tq_3 ▸ (List.mem_append_right _ (List.mem_append_right _ (List.mem_append_right _ (List.mem_append_right _ (List.mem_append_right _ (List.mem_append_right _ (List.mem_append_right _ (List.mem_append_right _ (List.mem_append_right _ (List.mem_append_right _ (List.mem_append_left _ h))))))))))) : w ∈ tables_1_3)))
theorem ck_3_11 : ∀ w ∈ gl_3_11, w ∈ tables_1 := fun w h => List.mem_append_right _ (List.mem_append_right _ (List.mem_append_left _ (tq_3 ▸ (List.mem_append_right _ (List.mem_append_right _ (List.mem_append_right _ (List.mem_append_right _ (List.mem_append_right _ (List.mem_append_right _ (List.mem_append_right _ (List.mem_append_right _ (List.mem_append_right _ (List.mem_append_right _ (List.mem_append_right _ (List.mem_append_left _ h)))))))))))) : w ∈ tables_1_3)))
theorem ck_3_12 : ∀ w ∈ gl_3_12, w ∈ tables_1 := fun w h => List.mem_append_right _ (List.mem_append_right _ (List.mem_append_left _ (tq_3 ▸ (List.mem_append_right _ (List.mem_append_right _ (List.mem_append_right _ (List.mem_append_right _ (List.mem_append_right _ (List.mem_append_right _ (List.mem_append_right _ (List.mem_append_right _ (List.mem_append_right _ (List.mem_append_right _ (List.mem_append_right _ (List.mem_append_right _ (List.mem_append_left _ h))))))))))))) : w ∈ tables_1_3)))
theorem ck_3_13 : ∀ w ∈ gl_3_13, w ∈ tables_1 := fun w h => List.mem_append_right _ (List.mem_append_right _ (List.mem_append_left _ (tq_3 ▸ (List.mem_append_right _ (List.mem_append_right _ (List.mem_append_right _ (List.mem_append_right _ (List.mem_append_right _ (List.mem_append_right _ (List.mem_append_right _ (List.mem_append_right _ (List.mem_append_right _ (List.mem_append_right _ (List.mem_append_right _ (List.mem_append_right _ (List.mem_append_right _ (List.mem_append_left _ h)))))))))))))) : w ∈ tables_1_3)))
theorem ck_3_14 : ∀ w ∈ gl_3_14, w ∈ tables_1 := fun w h => List.mem_append_right _ (List.mem_append_right _ (List.mem_append_left _ (tq_3 ▸ (List.mem_append_right _ (List.mem_append_right _ (List.mem_append_right _ (List.mem_append_right _ (List.mem_append_right _ (List.mem_append_right _ (List.mem_append_right _ (List.mem_append_right _ (List.mem_append_right _ (List.mem_append_right _ (List.mem_append_right _ (List.mem_append_right _ (List.mem_append_right _ (List.mem_append_right _ (h))))))))))))))) : w ∈ tables_1_3)))
def gl_4_0 : List Cond := [(Jvm.Cond.privateMethod ({ cls := "HuntersIntroduced", name := "shootByLots", desc := "(II)I" } : Jvm.MethodName)), (Jvm.Cond.instanceMethod ({ cls := "HuntersIntroduced", name := "shootByLots", desc := "(II)I" } : Jvm.MethodName)), (Jvm.Cond.code ({ cls := "HuntersIntroduced", name := "shootByLots", desc := "(II)I" } : Jvm.MethodName) prog_1_method_54_code (7 : Nat) (Option.some Jvm.ClassFile.FieldType.int)), (Jvm.Cond.methodLink "HuntersIntroduced" (305 : Nat) ({ cls := "HuntersIntroduced$Lots", name := "begin", desc := "(I)V" } : Jvm.MethodName)), (Jvm.Cond.instanceMethod ({ cls := "HuntersIntroduced$Lots", name := "begin", desc := "(I)V" } : Jvm.MethodName)), (Jvm.Cond.selects "HuntersIntroduced$Lots" ({ cls := "HuntersIntroduced$Lots", name := "begin", desc := "(I)V" } : Jvm.MethodName) ({ cls := "HuntersIntroduced$Lots", name := "begin", desc := "(I)V" } : Jvm.MethodName)), (Jvm.Cond.code ({ cls := "HuntersIntroduced$Lots", name := "begin", desc := "(I)V" } : Jvm.MethodName) prog_3_method_2_code (2 : Nat) (Option.none : Option Jvm.ClassFile.FieldType)), (Jvm.Cond.methodLink "HuntersIntroduced" (308 : Nat) ({ cls := "HuntersIntroduced$Lots", name := "next", desc := "(I)I" } : Jvm.MethodName)), (Jvm.Cond.instanceMethod ({ cls := "HuntersIntroduced$Lots", name := "next", desc := "(I)I" } : Jvm.MethodName)), (Jvm.Cond.selects "HuntersIntroduced$Lots" ({ cls := "HuntersIntroduced$Lots", name := "next", desc := "(I)I" } : Jvm.MethodName) ({ cls := "HuntersIntroduced$Lots", name := "next", desc := "(I)I" } : Jvm.MethodName)), (Jvm.Cond.code ({ cls := "HuntersIntroduced$Lots", name := "next", desc := "(I)I" } : Jvm.MethodName) prog_3_method_3_code (2 : Nat) (Option.some Jvm.ClassFile.FieldType.int)), (Jvm.Cond.constantLong "HuntersIntroduced$Lots" (13 : Nat) (48271 : Int64)), (Jvm.Cond.constantLong "HuntersIntroduced$Lots" (15 : Nat) (2147483647 : Int64)), (Jvm.Cond.methodLink "HuntersIntroducedLaw" (148 : Nat) ({ cls := "HuntersIntroduced", name := "odds", desc := "(IIII)J" } : Jvm.MethodName)), (Jvm.Cond.instanceMethod ({ cls := "HuntersIntroduced", name := "odds", desc := "(IIII)J" } : Jvm.MethodName)), (Jvm.Cond.selects "HuntersIntroduced" ({ cls := "HuntersIntroduced", name := "odds", desc := "(IIII)J" } : Jvm.MethodName) ({ cls := "HuntersIntroduced", name := "odds", desc := "(IIII)J" } : Jvm.MethodName))]
def gl_4_1 : List Cond := [(Jvm.Cond.code ({ cls := "HuntersIntroduced", name := "odds", desc := "(IIII)J" } : Jvm.MethodName) prog_1_method_34_code (7 : Nat) (Option.some Jvm.ClassFile.FieldType.long)), (Jvm.Cond.methodLink "HuntersIntroducedLaw" (153 : Nat) ({ cls := "HuntersIntroduced", name := "image", desc := "()I" } : Jvm.MethodName)), (Jvm.Cond.instanceMethod ({ cls := "HuntersIntroduced", name := "image", desc := "()I" } : Jvm.MethodName)), (Jvm.Cond.selects "HuntersIntroduced" ({ cls := "HuntersIntroduced", name := "image", desc := "()I" } : Jvm.MethodName) ({ cls := "HuntersIntroduced", name := "image", desc := "()I" } : Jvm.MethodName)), (Jvm.Cond.code ({ cls := "HuntersIntroduced", name := "image", desc := "()I" } : Jvm.MethodName) prog_1_method_35_code (1 : Nat) (Option.some Jvm.ClassFile.FieldType.int)), (Jvm.Cond.methodLink "HuntersIntroducedLaw" (157 : Nat) ({ cls := "HuntersIntroduced", name := "back", desc := "()I" } : Jvm.MethodName)), (Jvm.Cond.instanceMethod ({ cls := "HuntersIntroduced", name := "back", desc := "()I" } : Jvm.MethodName)), (Jvm.Cond.selects "HuntersIntroduced" ({ cls := "HuntersIntroduced", name := "back", desc := "()I" } : Jvm.MethodName) ({ cls := "HuntersIntroduced", name := "back", desc := "()I" } : Jvm.MethodName)), (Jvm.Cond.code ({ cls := "HuntersIntroduced", name := "back", desc := "()I" } : Jvm.MethodName) prog_1_method_36_code (1 : Nat) (Option.some Jvm.ClassFile.FieldType.int)), (Jvm.Cond.methodLink "HuntersIntroducedLaw" (161 : Nat) ({ cls := "HuntersIntroduced", name := "sheet", desc := "(III)I" } : Jvm.MethodName)), (Jvm.Cond.instanceMethod ({ cls := "HuntersIntroduced", name := "sheet", desc := "(III)I" } : Jvm.MethodName)), (Jvm.Cond.selects "HuntersIntroduced" ({ cls := "HuntersIntroduced", name := "sheet", desc := "(III)I" } : Jvm.MethodName) ({ cls := "HuntersIntroduced", name := "sheet", desc := "(III)I" } : Jvm.MethodName)), (Jvm.Cond.code ({ cls := "HuntersIntroduced", name := "sheet", desc := "(III)I" } : Jvm.MethodName) prog_1_method_37_code (4 : Nat) (Option.some Jvm.ClassFile.FieldType.int)), (Jvm.Cond.methodLink "HuntersIntroducedLaw" (165 : Nat) ({ cls := "HuntersIntroduced", name := "cell", desc := "(III)I" } : Jvm.MethodName)), (Jvm.Cond.instanceMethod ({ cls := "HuntersIntroduced", name := "cell", desc := "(III)I" } : Jvm.MethodName)), (Jvm.Cond.selects "HuntersIntroduced" ({ cls := "HuntersIntroduced", name := "cell", desc := "(III)I" } : Jvm.MethodName) ({ cls := "HuntersIntroduced", name := "cell", desc := "(III)I" } : Jvm.MethodName))]
def gl_4_2 : List Cond := [(Jvm.Cond.code ({ cls := "HuntersIntroduced", name := "cell", desc := "(III)I" } : Jvm.MethodName) prog_1_method_38_code (4 : Nat) (Option.some Jvm.ClassFile.FieldType.int)), (Jvm.Cond.methodLink "HuntersIntroduced" (284 : Nat) ({ cls := "HuntersIntroduced$Sheet", name := "holds", desc := "(II)Z" } : Jvm.MethodName)), (Jvm.Cond.instanceMethod ({ cls := "HuntersIntroduced$Sheet", name := "holds", desc := "(II)Z" } : Jvm.MethodName)), (Jvm.Cond.selects "HuntersIntroduced$Sheet" ({ cls := "HuntersIntroduced$Sheet", name := "holds", desc := "(II)Z" } : Jvm.MethodName) ({ cls := "HuntersIntroduced$Sheet", name := "holds", desc := "(II)Z" } : Jvm.MethodName)), (Jvm.Cond.code ({ cls := "HuntersIntroduced$Sheet", name := "holds", desc := "(II)Z" } : Jvm.MethodName) prog_6_method_4_code (3 : Nat) (Option.some Jvm.ClassFile.FieldType.boolean)), (Jvm.Cond.methodLink "HuntersIntroducedLaw" (169 : Nat) ({ cls := "HuntersIntroduced", name := "copy", desc := "(IIIII)I" } : Jvm.MethodName)), (Jvm.Cond.instanceMethod ({ cls := "HuntersIntroduced", name := "copy", desc := "(IIIII)I" } : Jvm.MethodName)), (Jvm.Cond.selects "HuntersIntroduced" ({ cls := "HuntersIntroduced", name := "copy", desc := "(IIIII)I" } : Jvm.MethodName) ({ cls := "HuntersIntroduced", name := "copy", desc := "(IIIII)I" } : Jvm.MethodName)), (Jvm.Cond.code ({ cls := "HuntersIntroduced", name := "copy", desc := "(IIIII)I" } : Jvm.MethodName) prog_1_method_39_code (8 : Nat) (Option.some Jvm.ClassFile.FieldType.int)), (Jvm.Cond.methodLink "HuntersIntroduced" (290 : Nat) ({ cls := "java/lang/System", name := "arraycopy", desc := "(Ljava/lang/Object;ILjava/lang/Object;II)V" } : Jvm.MethodName)), (Jvm.Cond.methodLink "HuntersIntroducedLaw" (174 : Nat) ({ cls := "HuntersIntroduced", name := "huntersBy", desc := "(IIII)I" } : Jvm.MethodName)), (Jvm.Cond.instanceMethod ({ cls := "HuntersIntroduced", name := "huntersBy", desc := "(IIII)I" } : Jvm.MethodName)), (Jvm.Cond.selects "HuntersIntroduced" ({ cls := "HuntersIntroduced", name := "huntersBy", desc := "(IIII)I" } : Jvm.MethodName) ({ cls := "HuntersIntroduced", name := "huntersBy", desc := "(IIII)I" } : Jvm.MethodName)), (Jvm.Cond.code ({ cls := "HuntersIntroduced", name := "huntersBy", desc := "(IIII)I" } : Jvm.MethodName) prog_1_method_40_code (9 : Nat) (Option.some Jvm.ClassFile.FieldType.int)), (Jvm.Cond.methodLink "HuntersIntroduced" (296 : Nat) ({ cls := "HuntersIntroduced", name := "hunter", desc := "(III)I" } : Jvm.MethodName)), (Jvm.Cond.methodLink "HuntersIntroducedLaw" (178 : Nat) ({ cls := "HuntersIntroduced", name := "taken", desc := "(II)I" } : Jvm.MethodName))]
def gl_4_3 : List Cond := [(Jvm.Cond.instanceMethod ({ cls := "HuntersIntroduced", name := "taken", desc := "(II)I" } : Jvm.MethodName)), (Jvm.Cond.selects "HuntersIntroduced" ({ cls := "HuntersIntroduced", name := "taken", desc := "(II)I" } : Jvm.MethodName) ({ cls := "HuntersIntroduced", name := "taken", desc := "(II)I" } : Jvm.MethodName)), (Jvm.Cond.code ({ cls := "HuntersIntroduced", name := "taken", desc := "(II)I" } : Jvm.MethodName) prog_1_method_41_code (4 : Nat) (Option.some Jvm.ClassFile.FieldType.int)), (Jvm.Cond.methodLink "HuntersIntroduced" (299 : Nat) ({ cls := "HuntersIntroduced$Rules", name := "isOfKind", desc := "(II)Z" } : Jvm.MethodName)), (Jvm.Cond.classLink "HuntersIntroducedLaw" (10 : Nat) "HuntersIntroducedModel"), (Jvm.Cond.instantiable "HuntersIntroducedModel" (36 : Nat)), (Jvm.Cond.methodLink "HuntersIntroducedLaw" (12 : Nat) ({ cls := "HuntersIntroducedModel", name := "<init>", desc := "()V" } : Jvm.MethodName)), (Jvm.Cond.instanceMethod ({ cls := "HuntersIntroducedModel", name := "<init>", desc := "()V" } : Jvm.MethodName)), (Jvm.Cond.code ({ cls := "HuntersIntroducedModel", name := "<init>", desc := "()V" } : Jvm.MethodName) prog_10_method_1_code (2 : Nat) (Option.none : Option Jvm.ClassFile.FieldType)), (Jvm.Cond.methodLink "HuntersIntroducedModel" (1 : Nat) ({ cls := "java/lang/Object", name := "<init>", desc := "()V" } : Jvm.MethodName)), (Jvm.Cond.methodLink "HuntersIntroducedModel" (77 : Nat) ({ cls := "HuntersIntroducedModel", name := "text", desc := "()I" } : Jvm.MethodName)), (Jvm.Cond.instanceMethod ({ cls := "HuntersIntroducedModel", name := "text", desc := "()I" } : Jvm.MethodName)), (Jvm.Cond.selects "HuntersIntroducedModel" ({ cls := "HuntersIntroducedModel", name := "text", desc := "()I" } : Jvm.MethodName) ({ cls := "HuntersIntroducedModel", name := "text", desc := "()I" } : Jvm.MethodName)), (Jvm.Cond.code ({ cls := "HuntersIntroducedModel", name := "text", desc := "()I" } : Jvm.MethodName) prog_10_method_29_code (3 : Nat) (Option.some Jvm.ClassFile.FieldType.int)), (Jvm.Cond.methodLink "HuntersIntroducedModel" (159 : Nat) ({ cls := "HuntersIntroducedModel", name := "next", desc := "()V" } : Jvm.MethodName)), (Jvm.Cond.privateMethod ({ cls := "HuntersIntroducedModel", name := "next", desc := "()V" } : Jvm.MethodName))]
def gl_4_4 : List Cond := [(Jvm.Cond.instanceMethod ({ cls := "HuntersIntroducedModel", name := "next", desc := "()V" } : Jvm.MethodName)), (Jvm.Cond.code ({ cls := "HuntersIntroducedModel", name := "next", desc := "()V" } : Jvm.MethodName) prog_10_method_20_code (3 : Nat) (Option.none : Option Jvm.ClassFile.FieldType)), (Jvm.Cond.methodLink "HuntersIntroducedModel" (84 : Nat) ({ cls := "HuntersIntroducedModel", name := "in", desc := "(III)Z" } : Jvm.MethodName)), (Jvm.Cond.static ({ cls := "HuntersIntroducedModel", name := "in", desc := "(III)Z" } : Jvm.MethodName)), (Jvm.Cond.code ({ cls := "HuntersIntroducedModel", name := "in", desc := "(III)Z" } : Jvm.MethodName) prog_10_method_3_code (3 : Nat) (Option.some Jvm.ClassFile.FieldType.boolean)), (Jvm.Cond.methodLink "HuntersIntroducedModel" (134 : Nat) ({ cls := "HuntersIntroducedModel", name := "wordFrom", desc := "(II)I" } : Jvm.MethodName)), (Jvm.Cond.privateMethod ({ cls := "HuntersIntroducedModel", name := "wordFrom", desc := "(II)I" } : Jvm.MethodName)), (Jvm.Cond.instanceMethod ({ cls := "HuntersIntroducedModel", name := "wordFrom", desc := "(II)I" } : Jvm.MethodName)), (Jvm.Cond.code ({ cls := "HuntersIntroducedModel", name := "wordFrom", desc := "(II)I" } : Jvm.MethodName) prog_10_method_19_code (6 : Nat) (Option.some Jvm.ClassFile.FieldType.int)), (Jvm.Cond.methodLink "HuntersIntroducedModel" (172 : Nat) ({ cls := "HuntersIntroducedModel", name := "eRead", desc := "()Z" } : Jvm.MethodName)), (Jvm.Cond.privateMethod ({ cls := "HuntersIntroducedModel", name := "eRead", desc := "()Z" } : Jvm.MethodName)), (Jvm.Cond.instanceMethod ({ cls := "HuntersIntroducedModel", name := "eRead", desc := "()Z" } : Jvm.MethodName)), (Jvm.Cond.code ({ cls := "HuntersIntroducedModel", name := "eRead", desc := "()Z" } : Jvm.MethodName) prog_10_method_28_code (4 : Nat) (Option.some Jvm.ClassFile.FieldType.boolean)), (Jvm.Cond.constant "HuntersIntroducedModel" (162 : Nat) (100000 : Int32)), (Jvm.Cond.methodLink "HuntersIntroducedModel" (149 : Nat) ({ cls := "HuntersIntroducedModel", name := "puts", desc := "(I)V" } : Jvm.MethodName)), (Jvm.Cond.privateMethod ({ cls := "HuntersIntroducedModel", name := "puts", desc := "(I)V" } : Jvm.MethodName))]
def gl_4_5 : List Cond := [(Jvm.Cond.instanceMethod ({ cls := "HuntersIntroducedModel", name := "puts", desc := "(I)V" } : Jvm.MethodName)), (Jvm.Cond.code ({ cls := "HuntersIntroducedModel", name := "puts", desc := "(I)V" } : Jvm.MethodName) prog_10_method_22_code (2 : Nat) (Option.none : Option Jvm.ClassFile.FieldType)), (Jvm.Cond.methodLink "HuntersIntroducedModel" (156 : Nat) ({ cls := "HuntersIntroducedModel", name := "unwinds", desc := "(I)V" } : Jvm.MethodName)), (Jvm.Cond.privateMethod ({ cls := "HuntersIntroducedModel", name := "unwinds", desc := "(I)V" } : Jvm.MethodName)), (Jvm.Cond.instanceMethod ({ cls := "HuntersIntroducedModel", name := "unwinds", desc := "(I)V" } : Jvm.MethodName)), (Jvm.Cond.code ({ cls := "HuntersIntroducedModel", name := "unwinds", desc := "(I)V" } : Jvm.MethodName) prog_10_method_23_code (3 : Nat) (Option.none : Option Jvm.ClassFile.FieldType)), (Jvm.Cond.methodLink "HuntersIntroducedModel" (143 : Nat) ({ cls := "HuntersIntroducedModel", name := "rank", desc := "(I)I" } : Jvm.MethodName)), (Jvm.Cond.static ({ cls := "HuntersIntroducedModel", name := "rank", desc := "(I)I" } : Jvm.MethodName)), (Jvm.Cond.code ({ cls := "HuntersIntroducedModel", name := "rank", desc := "(I)I" } : Jvm.MethodName) prog_10_method_21_code (1 : Nat) (Option.some Jvm.ClassFile.FieldType.int)), (Jvm.Cond.methodLink "HuntersIntroducedModel" (163 : Nat) ({ cls := "HuntersIntroducedModel", name := "opensOne", desc := "(I)Z" } : Jvm.MethodName)), (Jvm.Cond.privateMethod ({ cls := "HuntersIntroducedModel", name := "opensOne", desc := "(I)Z" } : Jvm.MethodName)), (Jvm.Cond.instanceMethod ({ cls := "HuntersIntroducedModel", name := "opensOne", desc := "(I)Z" } : Jvm.MethodName)), (Jvm.Cond.code ({ cls := "HuntersIntroducedModel", name := "opensOne", desc := "(I)Z" } : Jvm.MethodName) prog_10_method_25_code (2 : Nat) (Option.some Jvm.ClassFile.FieldType.boolean)), (Jvm.Cond.methodLink "HuntersIntroducedModel" (153 : Nat) ({ cls := "HuntersIntroducedModel", name := "holds", desc := "(I)V" } : Jvm.MethodName)), (Jvm.Cond.privateMethod ({ cls := "HuntersIntroducedModel", name := "holds", desc := "(I)V" } : Jvm.MethodName)), (Jvm.Cond.instanceMethod ({ cls := "HuntersIntroducedModel", name := "holds", desc := "(I)V" } : Jvm.MethodName))]
def gl_4_6 : List Cond := [(Jvm.Cond.code ({ cls := "HuntersIntroducedModel", name := "holds", desc := "(I)V" } : Jvm.MethodName) prog_10_method_24_code (2 : Nat) (Option.none : Option Jvm.ClassFile.FieldType)), (Jvm.Cond.methodLink "HuntersIntroducedModel" (166 : Nat) ({ cls := "HuntersIntroducedModel", name := "signOf", desc := "()I" } : Jvm.MethodName)), (Jvm.Cond.privateMethod ({ cls := "HuntersIntroducedModel", name := "signOf", desc := "()I" } : Jvm.MethodName)), (Jvm.Cond.instanceMethod ({ cls := "HuntersIntroducedModel", name := "signOf", desc := "()I" } : Jvm.MethodName)), (Jvm.Cond.code ({ cls := "HuntersIntroducedModel", name := "signOf", desc := "()I" } : Jvm.MethodName) prog_10_method_27_code (1 : Nat) (Option.some Jvm.ClassFile.FieldType.int)), (Jvm.Cond.methodLink "HuntersIntroducedModel" (169 : Nat) ({ cls := "HuntersIntroducedModel", name := "between", desc := "(I)Z" } : Jvm.MethodName)), (Jvm.Cond.privateMethod ({ cls := "HuntersIntroducedModel", name := "between", desc := "(I)Z" } : Jvm.MethodName)), (Jvm.Cond.instanceMethod ({ cls := "HuntersIntroducedModel", name := "between", desc := "(I)Z" } : Jvm.MethodName)), (Jvm.Cond.code ({ cls := "HuntersIntroducedModel", name := "between", desc := "(I)Z" } : Jvm.MethodName) prog_10_method_26_code (2 : Nat) (Option.some Jvm.ClassFile.FieldType.boolean)), (Jvm.Cond.fieldLink "HuntersIntroducedModel" (81 : Nat) "HuntersIntroducedModel" "hunters" "I"), (Jvm.Cond.fieldLink "HuntersIntroducedModel" (7 : Nat) "HuntersIntroducedModel" "kind" "[I"), (Jvm.Cond.fieldLink "HuntersIntroducedModel" (13 : Nat) "HuntersIntroducedModel" "moreOf" "[I"), (Jvm.Cond.fieldLink "HuntersIntroducedModel" (16 : Nat) "HuntersIntroducedModel" "rows" "[I"), (Jvm.Cond.fieldLink "HuntersIntroducedModel" (19 : Nat) "HuntersIntroducedModel" "shy" "[I"), (Jvm.Cond.fieldLink "HuntersIntroducedModel" (22 : Nat) "HuntersIntroducedModel" "alive" "I"), (Jvm.Cond.fieldLink "HuntersIntroducedModel" (96 : Nat) "HuntersIntroducedModel" "days" "I")]
def gl_4_7 : List Cond := [(Jvm.Cond.fieldLink "HuntersIntroducedModel" (26 : Nat) "HuntersIntroducedModel" "tape" "[I"), (Jvm.Cond.fieldLink "HuntersIntroducedModel" (74 : Nat) "HuntersIntroducedModel" "taped" "I"), (Jvm.Cond.fieldLink "HuntersIntroducedModel" (29 : Nat) "HuntersIntroducedModel" "codes" "[I"), (Jvm.Cond.fieldLink "HuntersIntroducedModel" (32 : Nat) "HuntersIntroducedModel" "starts" "[I"), (Jvm.Cond.fieldLink "HuntersIntroducedModel" (99 : Nat) "HuntersIntroducedModel" "texts" "I"), (Jvm.Cond.fieldLink "HuntersIntroducedModel" (102 : Nat) "HuntersIntroducedModel" "rule" "I"), (Jvm.Cond.fieldLink "HuntersIntroducedModel" (287 : Nat) "HuntersIntroducedModel" "hasImage" "Z"), (Jvm.Cond.fieldLink "HuntersIntroducedModel" (35 : Nat) "HuntersIntroducedModel" "imageRows" "[I"), (Jvm.Cond.fieldLink "HuntersIntroducedModel" (38 : Nat) "HuntersIntroducedModel" "imageHeld" "[I"), (Jvm.Cond.fieldLink "HuntersIntroducedModel" (41 : Nat) "HuntersIntroducedModel" "sheetSort" "[I"), (Jvm.Cond.fieldLink "HuntersIntroducedModel" (44 : Nat) "HuntersIntroducedModel" "sheetSize" "[I"), (Jvm.Cond.fieldLink "HuntersIntroducedModel" (47 : Nat) "HuntersIntroducedModel" "cells" "[I"), (Jvm.Cond.fieldLink "HuntersIntroducedModel" (50 : Nat) "HuntersIntroducedModel" "law" "[I"), (Jvm.Cond.fieldLink "HuntersIntroducedModel" (122 : Nat) "HuntersIntroducedModel" "at" "I"), (Jvm.Cond.fieldLink "HuntersIntroducedModel" (125 : Nat) "HuntersIntroducedModel" "begun" "I"), (Jvm.Cond.fieldLink "HuntersIntroducedModel" (128 : Nat) "HuntersIntroducedModel" "token" "I")]
def gl_4_8 : List Cond := [(Jvm.Cond.fieldLink "HuntersIntroducedModel" (131 : Nat) "HuntersIntroducedModel" "value" "I"), (Jvm.Cond.fieldLink "HuntersIntroducedModel" (53 : Nat) "HuntersIntroducedModel" "words" "[I"), (Jvm.Cond.fieldLink "HuntersIntroducedModel" (56 : Nat) "HuntersIntroducedModel" "held" "[I"), (Jvm.Cond.fieldLink "HuntersIntroducedModel" (140 : Nat) "HuntersIntroducedModel" "heldMany" "I"), (Jvm.Cond.fieldLink "HuntersIntroducedModel" (146 : Nat) "HuntersIntroducedModel" "opens" "I"), (Jvm.Cond.fieldLink "HuntersIntroducedModel" (137 : Nat) "HuntersIntroducedModel" "out" "I"), (Jvm.Cond.fieldLink "HuntersIntroducedModel" (59 : Nat) "HuntersIntroducedModel" "stack" "[I"), (Jvm.Cond.fieldLink "HuntersIntroducedModel" (62 : Nat) "HuntersIntroducedModel" "named" "[I"), (Jvm.Cond.fieldLink "HuntersIntroducedModel" (65 : Nat) "HuntersIntroducedModel" "farOf" "[I"), (Jvm.Cond.fieldLink "HuntersIntroducedModel" (202 : Nat) "HuntersIntroducedModel" "willing" "I"), (Jvm.Cond.fieldLink "HuntersIntroducedModel" (68 : Nat) "HuntersIntroducedModel" "kept" "[I"), (Jvm.Cond.fieldLink "HuntersIntroducedModel" (71 : Nat) "HuntersIntroducedModel" "shots" "[I"), (Jvm.Cond.fieldLink "HuntersIntroducedModel" (272 : Nat) "HuntersIntroducedModel" "hitThen" "I"), (Jvm.Cond.lays "HuntersIntroducedModel" "HuntersIntroducedModel" "hunters" "I"), (Jvm.Cond.soleField "HuntersIntroducedModel" "hunters"), (Jvm.Cond.laysFinal "HuntersIntroducedModel" "HuntersIntroducedModel" "kind" "[I")]
def gl_4_9 : List Cond := [(Jvm.Cond.soleField "HuntersIntroducedModel" "kind"), (Jvm.Cond.laysFinal "HuntersIntroducedModel" "HuntersIntroducedModel" "moreOf" "[I"), (Jvm.Cond.soleField "HuntersIntroducedModel" "moreOf"), (Jvm.Cond.laysFinal "HuntersIntroducedModel" "HuntersIntroducedModel" "rows" "[I"), (Jvm.Cond.soleField "HuntersIntroducedModel" "rows"), (Jvm.Cond.laysFinal "HuntersIntroducedModel" "HuntersIntroducedModel" "shy" "[I"), (Jvm.Cond.soleField "HuntersIntroducedModel" "shy"), (Jvm.Cond.lays "HuntersIntroducedModel" "HuntersIntroducedModel" "alive" "I"), (Jvm.Cond.soleField "HuntersIntroducedModel" "alive"), (Jvm.Cond.lays "HuntersIntroducedModel" "HuntersIntroducedModel" "days" "I"), (Jvm.Cond.soleField "HuntersIntroducedModel" "days"), (Jvm.Cond.laysFinal "HuntersIntroducedModel" "HuntersIntroducedModel" "tape" "[I"), (Jvm.Cond.soleField "HuntersIntroducedModel" "tape"), (Jvm.Cond.lays "HuntersIntroducedModel" "HuntersIntroducedModel" "taped" "I"), (Jvm.Cond.soleField "HuntersIntroducedModel" "taped"), (Jvm.Cond.laysFinal "HuntersIntroducedModel" "HuntersIntroducedModel" "codes" "[I")]
def gl_4_10 : List Cond := [(Jvm.Cond.soleField "HuntersIntroducedModel" "codes"), (Jvm.Cond.laysFinal "HuntersIntroducedModel" "HuntersIntroducedModel" "starts" "[I"), (Jvm.Cond.soleField "HuntersIntroducedModel" "starts"), (Jvm.Cond.lays "HuntersIntroducedModel" "HuntersIntroducedModel" "texts" "I"), (Jvm.Cond.soleField "HuntersIntroducedModel" "texts"), (Jvm.Cond.lays "HuntersIntroducedModel" "HuntersIntroducedModel" "rule" "I"), (Jvm.Cond.soleField "HuntersIntroducedModel" "rule"), (Jvm.Cond.lays "HuntersIntroducedModel" "HuntersIntroducedModel" "hasImage" "Z"), (Jvm.Cond.soleField "HuntersIntroducedModel" "hasImage"), (Jvm.Cond.laysFinal "HuntersIntroducedModel" "HuntersIntroducedModel" "imageRows" "[I"), (Jvm.Cond.soleField "HuntersIntroducedModel" "imageRows"), (Jvm.Cond.laysFinal "HuntersIntroducedModel" "HuntersIntroducedModel" "imageHeld" "[I"), (Jvm.Cond.soleField "HuntersIntroducedModel" "imageHeld"), (Jvm.Cond.laysFinal "HuntersIntroducedModel" "HuntersIntroducedModel" "sheetSort" "[I"), (Jvm.Cond.soleField "HuntersIntroducedModel" "sheetSort"), (Jvm.Cond.laysFinal "HuntersIntroducedModel" "HuntersIntroducedModel" "sheetSize" "[I")]
def gl_4_11 : List Cond := [(Jvm.Cond.soleField "HuntersIntroducedModel" "sheetSize"), (Jvm.Cond.laysFinal "HuntersIntroducedModel" "HuntersIntroducedModel" "cells" "[I"), (Jvm.Cond.soleField "HuntersIntroducedModel" "cells"), (Jvm.Cond.laysFinal "HuntersIntroducedModel" "HuntersIntroducedModel" "law" "[I"), (Jvm.Cond.soleField "HuntersIntroducedModel" "law"), (Jvm.Cond.lays "HuntersIntroducedModel" "HuntersIntroducedModel" "at" "I"), (Jvm.Cond.soleField "HuntersIntroducedModel" "at"), (Jvm.Cond.lays "HuntersIntroducedModel" "HuntersIntroducedModel" "begun" "I"), (Jvm.Cond.soleField "HuntersIntroducedModel" "begun"), (Jvm.Cond.lays "HuntersIntroducedModel" "HuntersIntroducedModel" "token" "I"), (Jvm.Cond.soleField "HuntersIntroducedModel" "token"), (Jvm.Cond.lays "HuntersIntroducedModel" "HuntersIntroducedModel" "value" "I"), (Jvm.Cond.soleField "HuntersIntroducedModel" "value"), (Jvm.Cond.laysFinal "HuntersIntroducedModel" "HuntersIntroducedModel" "words" "[I"), (Jvm.Cond.soleField "HuntersIntroducedModel" "words"), (Jvm.Cond.laysFinal "HuntersIntroducedModel" "HuntersIntroducedModel" "held" "[I")]
def gl_4_12 : List Cond := [(Jvm.Cond.soleField "HuntersIntroducedModel" "held"), (Jvm.Cond.lays "HuntersIntroducedModel" "HuntersIntroducedModel" "heldMany" "I"), (Jvm.Cond.soleField "HuntersIntroducedModel" "heldMany"), (Jvm.Cond.lays "HuntersIntroducedModel" "HuntersIntroducedModel" "opens" "I"), (Jvm.Cond.soleField "HuntersIntroducedModel" "opens"), (Jvm.Cond.lays "HuntersIntroducedModel" "HuntersIntroducedModel" "out" "I"), (Jvm.Cond.soleField "HuntersIntroducedModel" "out"), (Jvm.Cond.laysFinal "HuntersIntroducedModel" "HuntersIntroducedModel" "stack" "[I"), (Jvm.Cond.soleField "HuntersIntroducedModel" "stack"), (Jvm.Cond.laysFinal "HuntersIntroducedModel" "HuntersIntroducedModel" "named" "[I"), (Jvm.Cond.soleField "HuntersIntroducedModel" "named"), (Jvm.Cond.laysFinal "HuntersIntroducedModel" "HuntersIntroducedModel" "farOf" "[I"), (Jvm.Cond.soleField "HuntersIntroducedModel" "farOf"), (Jvm.Cond.lays "HuntersIntroducedModel" "HuntersIntroducedModel" "willing" "I"), (Jvm.Cond.soleField "HuntersIntroducedModel" "willing"), (Jvm.Cond.laysFinal "HuntersIntroducedModel" "HuntersIntroducedModel" "kept" "[I")]
def gl_4_13 : List Cond := [(Jvm.Cond.soleField "HuntersIntroducedModel" "kept"), (Jvm.Cond.laysFinal "HuntersIntroducedModel" "HuntersIntroducedModel" "shots" "[I"), (Jvm.Cond.soleField "HuntersIntroducedModel" "shots"), (Jvm.Cond.lays "HuntersIntroducedModel" "HuntersIntroducedModel" "hitThen" "I"), (Jvm.Cond.soleField "HuntersIntroducedModel" "hitThen"), (Jvm.Cond.superclass "HuntersIntroducedModel" "java/lang/Object"), (Jvm.Cond.methodLink "HuntersIntroducedLaw" (17 : Nat) ({ cls := "HuntersIntroducedModel", name := "count", desc := "(I)I" } : Jvm.MethodName)), (Jvm.Cond.instanceMethod ({ cls := "HuntersIntroducedModel", name := "count", desc := "(I)I" } : Jvm.MethodName)), (Jvm.Cond.selects "HuntersIntroducedModel" ({ cls := "HuntersIntroducedModel", name := "count", desc := "(I)I" } : Jvm.MethodName) ({ cls := "HuntersIntroducedModel", name := "count", desc := "(I)I" } : Jvm.MethodName)), (Jvm.Cond.code ({ cls := "HuntersIntroducedModel", name := "count", desc := "(I)I" } : Jvm.MethodName) prog_10_method_12_code (2 : Nat) (Option.some Jvm.ClassFile.FieldType.int)), (Jvm.Cond.methodLink "HuntersIntroducedModel" (92 : Nat) ({ cls := "HuntersIntroducedModel", name := "bitsOf", desc := "(I)I" } : Jvm.MethodName)), (Jvm.Cond.static ({ cls := "HuntersIntroducedModel", name := "bitsOf", desc := "(I)I" } : Jvm.MethodName)), (Jvm.Cond.code ({ cls := "HuntersIntroducedModel", name := "bitsOf", desc := "(I)I" } : Jvm.MethodName) prog_10_method_5_code (3 : Nat) (Option.some Jvm.ClassFile.FieldType.int)), (Jvm.Cond.methodLink "HuntersIntroducedLaw" (22 : Nat) ({ cls := "HuntersIntroducedModel", name := "forest", desc := "(III)I" } : Jvm.MethodName)), (Jvm.Cond.instanceMethod ({ cls := "HuntersIntroducedModel", name := "forest", desc := "(III)I" } : Jvm.MethodName)), (Jvm.Cond.selects "HuntersIntroducedModel" ({ cls := "HuntersIntroducedModel", name := "forest", desc := "(III)I" } : Jvm.MethodName) ({ cls := "HuntersIntroducedModel", name := "forest", desc := "(III)I" } : Jvm.MethodName))]
def gl_4_14 : List Cond := [(Jvm.Cond.code ({ cls := "HuntersIntroducedModel", name := "forest", desc := "(III)I" } : Jvm.MethodName) prog_10_method_14_code (5 : Nat) (Option.some Jvm.ClassFile.FieldType.int)), (Jvm.Cond.methodLink "HuntersIntroducedModel" (105 : Nat) ({ cls := "HuntersIntroducedModel", name := "isDeer", desc := "(I)Z" } : Jvm.MethodName)), (Jvm.Cond.static ({ cls := "HuntersIntroducedModel", name := "isDeer", desc := "(I)Z" } : Jvm.MethodName)), (Jvm.Cond.code ({ cls := "HuntersIntroducedModel", name := "isDeer", desc := "(I)Z" } : Jvm.MethodName) prog_10_method_8_code (1 : Nat) (Option.some Jvm.ClassFile.FieldType.boolean)), (Jvm.Cond.methodLink "HuntersIntroducedModel" (108 : Nat) ({ cls := "HuntersIntroducedModel", name := "forestHeld", desc := "(II)I" } : Jvm.MethodName)), (Jvm.Cond.privateMethod ({ cls := "HuntersIntroducedModel", name := "forestHeld", desc := "(II)I" } : Jvm.MethodName)), (Jvm.Cond.instanceMethod ({ cls := "HuntersIntroducedModel", name := "forestHeld", desc := "(II)I" } : Jvm.MethodName)), (Jvm.Cond.code ({ cls := "HuntersIntroducedModel", name := "forestHeld", desc := "(II)I" } : Jvm.MethodName) prog_10_method_13_code (3 : Nat) (Option.some Jvm.ClassFile.FieldType.int)), (Jvm.Cond.methodLink "HuntersIntroducedLaw" (27 : Nat) ({ cls := "HuntersIntroducedModel", name := "deer", desc := "(II)I" } : Jvm.MethodName)), (Jvm.Cond.instanceMethod ({ cls := "HuntersIntroducedModel", name := "deer", desc := "(II)I" } : Jvm.MethodName)), (Jvm.Cond.selects "HuntersIntroducedModel" ({ cls := "HuntersIntroducedModel", name := "deer", desc := "(II)I" } : Jvm.MethodName) ({ cls := "HuntersIntroducedModel", name := "deer", desc := "(II)I" } : Jvm.MethodName)), (Jvm.Cond.code ({ cls := "HuntersIntroducedModel", name := "deer", desc := "(II)I" } : Jvm.MethodName) prog_10_method_16_code (3 : Nat) (Option.some Jvm.ClassFile.FieldType.int)), (Jvm.Cond.methodLink "HuntersIntroducedModel" (116 : Nat) ({ cls := "HuntersIntroducedModel", name := "cardsWith", desc := "(I)I" } : Jvm.MethodName)), (Jvm.Cond.privateMethod ({ cls := "HuntersIntroducedModel", name := "cardsWith", desc := "(I)I" } : Jvm.MethodName)), (Jvm.Cond.instanceMethod ({ cls := "HuntersIntroducedModel", name := "cardsWith", desc := "(I)I" } : Jvm.MethodName)), (Jvm.Cond.code ({ cls := "HuntersIntroducedModel", name := "cardsWith", desc := "(I)I" } : Jvm.MethodName) prog_10_method_15_code (4 : Nat) (Option.some Jvm.ClassFile.FieldType.int))]
set_option maxRecDepth 100000 in
theorem tq_4 : tables_1_4 = gl_4_0 ++ (gl_4_1 ++ (gl_4_2 ++ (gl_4_3 ++ (gl_4_4 ++ (gl_4_5 ++ (gl_4_6 ++ (gl_4_7 ++ (gl_4_8 ++ (gl_4_9 ++ (gl_4_10 ++ (gl_4_11 ++ (gl_4_12 ++ (gl_4_13 ++ (gl_4_14)))))))))))))) := rfl
theorem ck_4_0 : ∀ w ∈ gl_4_0, w ∈ tables_1 := fun w h => List.mem_append_right _ (List.mem_append_right _ (List.mem_append_right _ (List.mem_append_left _ (tq_4 ▸ (List.mem_append_left _ h) : w ∈ tables_1_4))))
theorem ck_4_1 : ∀ w ∈ gl_4_1, w ∈ tables_1 := fun w h => List.mem_append_right _ (List.mem_append_right _ (List.mem_append_right _ (List.mem_append_left _ (tq_4 ▸ (List.mem_append_right _ (List.mem_append_left _ h)) : w ∈ tables_1_4))))
theorem ck_4_2 : ∀ w ∈ gl_4_2, w ∈ tables_1 := fun w h => List.mem_append_right _ (List.mem_append_right _ (List.mem_append_right _ (List.mem_append_left _ (tq_4 ▸ (List.mem_append_right _ (List.mem_append_right _ (List.mem_append_left _ h))) : w ∈ tables_1_4))))
theorem ck_4_3 : ∀ w ∈ gl_4_3, w ∈ tables_1 := fun w h => List.mem_append_right _ (List.mem_append_right _ (List.mem_append_right _ (List.mem_append_left _ (tq_4 ▸ (List.mem_append_right _ (List.mem_append_right _ (List.mem_append_right _ (List.mem_append_left _ h)))) : w ∈ tables_1_4))))
theorem ck_4_4 : ∀ w ∈ gl_4_4, w ∈ tables_1 := fun w h => List.mem_append_right _ (List.mem_append_right _ (List.mem_append_right _ (List.mem_append_left _ (tq_4 ▸ (List.mem_append_right _ (List.mem_append_right _ (List.mem_append_right _ (List.mem_append_right _ (List.mem_append_left _ h))))) : w ∈ tables_1_4))))
theorem ck_4_5 : ∀ w ∈ gl_4_5, w ∈ tables_1 := fun w h => List.mem_append_right _ (List.mem_append_right _ (List.mem_append_right _ (List.mem_append_left _ (tq_4 ▸ (List.mem_append_right _ (List.mem_append_right _ (List.mem_append_right _ (List.mem_append_right _ (List.mem_append_right _ (List.mem_append_left _ h)))))) : w ∈ tables_1_4))))
theorem ck_4_6 : ∀ w ∈ gl_4_6, w ∈ tables_1 := fun w h => List.mem_append_right _ (List.mem_append_right _ (List.mem_append_right _ (List.mem_append_left _ (tq_4 ▸ (List.mem_append_right _ (List.mem_append_right _ (List.mem_append_right _ (List.mem_append_right _ (List.mem_append_right _ (List.mem_append_right _ (List.mem_append_left _ h))))))) : w ∈ tables_1_4))))
theorem ck_4_7 : ∀ w ∈ gl_4_7, w ∈ tables_1 := fun w h => List.mem_append_right _ (List.mem_append_right _ (List.mem_append_right _ (List.mem_append_left _ (tq_4 ▸ (List.mem_append_right _ (List.mem_append_right _ (List.mem_append_right _ (List.mem_append_right _ (List.mem_append_right _ (List.mem_append_right _ (List.mem_append_right _ (List.mem_append_left _ h)))))))) : w ∈ tables_1_4))))
theorem ck_4_8 : ∀ w ∈ gl_4_8, w ∈ tables_1 := fun w h => List.mem_append_right _ (List.mem_append_right _ (List.mem_append_right _ (List.mem_append_left _ (tq_4 ▸ (List.mem_append_right _ (List.mem_append_right _ (List.mem_append_right _ (List.mem_append_right _ (List.mem_append_right _ (List.mem_append_right _ (List.mem_append_right _ (List.mem_append_right _ (List.mem_append_left _ h))))))))) : w ∈ tables_1_4))))
theorem ck_4_9 : ∀ w ∈ gl_4_9, w ∈ tables_1 := fun w h => List.mem_append_right _ (List.mem_append_right _ (List.mem_append_right _ (List.mem_append_left _ (tq_4 ▸ (List.mem_append_right _ (List.mem_append_right _ (List.mem_append_right _ (List.mem_append_right _ (List.mem_append_right _ (List.mem_append_right _ (List.mem_append_right _ (List.mem_append_right _ (List.mem_append_right _ (List.mem_append_left _ h)))))))))) : w ∈ tables_1_4))))
theorem ck_4_10 : ∀ w ∈ gl_4_10, w ∈ tables_1 := fun w h => List.mem_append_right _ (List.mem_append_right _ (List.mem_append_right _ (List.mem_append_left _ (tq_4 ▸ (List.mem_append_right _ (List.mem_append_right _ (List.mem_append_right _ (List.mem_append_right _ (List.mem_append_right _ (List.mem_append_right _ (List.mem_append_right _ (List.mem_append_right _ (List.mem_append_right _ (List.mem_append_right _ (List.mem_append_left _ h))))))))))) : w ∈ tables_1_4))))
theorem ck_4_11 : ∀ w ∈ gl_4_11, w ∈ tables_1 := fun w h => List.mem_append_right _ (List.mem_append_right _ (List.mem_append_right _ (List.mem_append_left _ (tq_4 ▸ (List.mem_append_right _ (List.mem_append_right _ (List.mem_append_right _ (List.mem_append_right _ (List.mem_append_right _ (List.mem_append_right _ (List.mem_append_right _ (List.mem_append_right _ (List.mem_append_right _ (List.mem_append_right _ (List.mem_append_right _ (List.mem_append_left _ h)))))))))))) : w ∈ tables_1_4))))
theorem ck_4_12 : ∀ w ∈ gl_4_12, w ∈ tables_1 := fun w h => List.mem_append_right _ (List.mem_append_right _ (List.mem_append_right _ (List.mem_append_left _ (tq_4 ▸ (List.mem_append_right _ (List.mem_append_right _ (List.mem_append_right _ (List.mem_append_right _ (List.mem_append_right _ (List.mem_append_right _ (List.mem_append_right _ (List.mem_append_right _ (List.mem_append_right _ (List.mem_append_right _ (List.mem_append_right _ (List.mem_append_right _ (List.mem_append_left _ h))))))))))))) : w ∈ tables_1_4))))
theorem ck_4_13 : ∀ w ∈ gl_4_13, w ∈ tables_1 := fun w h => List.mem_append_right _ (List.mem_append_right _ (List.mem_append_right _ (List.mem_append_left _ (tq_4 ▸ (List.mem_append_right _ (List.mem_append_right _ (List.mem_append_right _ (List.mem_append_right _ (List.mem_append_right _ (List.mem_append_right _ (List.mem_append_right _ (List.mem_append_right _ (List.mem_append_right _ (List.mem_append_right _ (List.mem_append_right _ (List.mem_append_right _ (List.mem_append_right _ (List.mem_append_left _ h)))))))))))))) : w ∈ tables_1_4))))
theorem ck_4_14 : ∀ w ∈ gl_4_14, w ∈ tables_1 := fun w h => List.mem_append_right _ (List.mem_append_right _ (List.mem_append_right _ (List.mem_append_left _ (tq_4 ▸ (List.mem_append_right _ (List.mem_append_right _ (List.mem_append_right _ (List.mem_append_right _ (List.mem_append_right _ (List.mem_append_right _ (List.mem_append_right _ (List.mem_append_right _ (List.mem_append_right _ (List.mem_append_right _ (List.mem_append_right _ (List.mem_append_right _ (List.mem_append_right _ (List.mem_append_right _ (h))))))))))))))) : w ∈ tables_1_4))))
def gl_5_0 : List Cond := [(Jvm.Cond.methodLink "HuntersIntroducedModel" (112 : Nat) ({ cls := "HuntersIntroducedModel", name := "isCard", desc := "(II)Z" } : Jvm.MethodName)), (Jvm.Cond.privateMethod ({ cls := "HuntersIntroducedModel", name := "isCard", desc := "(II)Z" } : Jvm.MethodName)), (Jvm.Cond.instanceMethod ({ cls := "HuntersIntroducedModel", name := "isCard", desc := "(II)Z" } : Jvm.MethodName)), (Jvm.Cond.code ({ cls := "HuntersIntroducedModel", name := "isCard", desc := "(II)Z" } : Jvm.MethodName) prog_10_method_10_code (3 : Nat) (Option.some Jvm.ClassFile.FieldType.boolean)), (Jvm.Cond.methodLink "HuntersIntroducedLaw" (32 : Nat) ({ cls := "HuntersIntroducedModel", name := "feed", desc := "(IIIIII)I" } : Jvm.MethodName)), (Jvm.Cond.instanceMethod ({ cls := "HuntersIntroducedModel", name := "feed", desc := "(IIIIII)I" } : Jvm.MethodName)), (Jvm.Cond.selects "HuntersIntroducedModel" ({ cls := "HuntersIntroducedModel", name := "feed", desc := "(IIIIII)I" } : Jvm.MethodName) ({ cls := "HuntersIntroducedModel", name := "feed", desc := "(IIIIII)I" } : Jvm.MethodName)), (Jvm.Cond.code ({ cls := "HuntersIntroducedModel", name := "feed", desc := "(IIIIII)I" } : Jvm.MethodName) prog_10_method_18_code (8 : Nat) (Option.some Jvm.ClassFile.FieldType.int)), (Jvm.Cond.methodLink "HuntersIntroducedModel" (119 : Nat) ({ cls := "HuntersIntroducedModel", name := "isByte", desc := "(I)Z" } : Jvm.MethodName)), (Jvm.Cond.static ({ cls := "HuntersIntroducedModel", name := "isByte", desc := "(I)Z" } : Jvm.MethodName)), (Jvm.Cond.code ({ cls := "HuntersIntroducedModel", name := "isByte", desc := "(I)Z" } : Jvm.MethodName) prog_10_method_17_code (1 : Nat) (Option.some Jvm.ClassFile.FieldType.boolean)), (Jvm.Cond.methodLink "HuntersIntroducedLaw" (37 : Nat) ({ cls := "HuntersIntroducedModel", name := "text", desc := "()I" } : Jvm.MethodName)), (Jvm.Cond.methodLink "HuntersIntroducedLaw" (41 : Nat) ({ cls := "HuntersIntroducedModel", name := "force", desc := "(I)I" } : Jvm.MethodName)), (Jvm.Cond.instanceMethod ({ cls := "HuntersIntroducedModel", name := "force", desc := "(I)I" } : Jvm.MethodName)), (Jvm.Cond.selects "HuntersIntroducedModel" ({ cls := "HuntersIntroducedModel", name := "force", desc := "(I)I" } : Jvm.MethodName) ({ cls := "HuntersIntroducedModel", name := "force", desc := "(I)I" } : Jvm.MethodName)), (Jvm.Cond.code ({ cls := "HuntersIntroducedModel", name := "force", desc := "(I)I" } : Jvm.MethodName) prog_10_method_32_code (3 : Nat) (Option.some Jvm.ClassFile.FieldType.int))]
def gl_5_1 : List Cond := [(Jvm.Cond.methodLink "HuntersIntroducedLaw" (45 : Nat) ({ cls := "HuntersIntroducedModel", name := "asks", desc := "(III)I" } : Jvm.MethodName)), (Jvm.Cond.instanceMethod ({ cls := "HuntersIntroducedModel", name := "asks", desc := "(III)I" } : Jvm.MethodName)), (Jvm.Cond.selects "HuntersIntroducedModel" ({ cls := "HuntersIntroducedModel", name := "asks", desc := "(III)I" } : Jvm.MethodName) ({ cls := "HuntersIntroducedModel", name := "asks", desc := "(III)I" } : Jvm.MethodName)), (Jvm.Cond.code ({ cls := "HuntersIntroducedModel", name := "asks", desc := "(III)I" } : Jvm.MethodName) prog_10_method_34_code (4 : Nat) (Option.some Jvm.ClassFile.FieldType.int)), (Jvm.Cond.methodLink "HuntersIntroducedModel" (88 : Nat) ({ cls := "HuntersIntroducedModel", name := "isOne", desc := "(I)Z" } : Jvm.MethodName)), (Jvm.Cond.privateMethod ({ cls := "HuntersIntroducedModel", name := "isOne", desc := "(I)Z" } : Jvm.MethodName)), (Jvm.Cond.instanceMethod ({ cls := "HuntersIntroducedModel", name := "isOne", desc := "(I)Z" } : Jvm.MethodName)), (Jvm.Cond.code ({ cls := "HuntersIntroducedModel", name := "isOne", desc := "(I)Z" } : Jvm.MethodName) prog_10_method_6_code (2 : Nat) (Option.some Jvm.ClassFile.FieldType.boolean)), (Jvm.Cond.methodLink "HuntersIntroducedModel" (186 : Nat) ({ cls := "HuntersIntroducedModel", name := "asksOf", desc := "(III)I" } : Jvm.MethodName)), (Jvm.Cond.privateMethod ({ cls := "HuntersIntroducedModel", name := "asksOf", desc := "(III)I" } : Jvm.MethodName)), (Jvm.Cond.instanceMethod ({ cls := "HuntersIntroducedModel", name := "asksOf", desc := "(III)I" } : Jvm.MethodName)), (Jvm.Cond.code ({ cls := "HuntersIntroducedModel", name := "asksOf", desc := "(III)I" } : Jvm.MethodName) prog_10_method_33_code (5 : Nat) (Option.some Jvm.ClassFile.FieldType.int)), (Jvm.Cond.methodLink "HuntersIntroducedModel" (180 : Nat) ({ cls := "HuntersIntroducedModel", name := "says", desc := "(I)I" } : Jvm.MethodName)), (Jvm.Cond.privateMethod ({ cls := "HuntersIntroducedModel", name := "says", desc := "(I)I" } : Jvm.MethodName)), (Jvm.Cond.instanceMethod ({ cls := "HuntersIntroducedModel", name := "says", desc := "(I)I" } : Jvm.MethodName)), (Jvm.Cond.code ({ cls := "HuntersIntroducedModel", name := "says", desc := "(I)I" } : Jvm.MethodName) prog_10_method_31_code (5 : Nat) (Option.some Jvm.ClassFile.FieldType.int))]
def gl_5_2 : List Cond := [(Jvm.Cond.methodLink "HuntersIntroducedModel" (176 : Nat) ({ cls := "HuntersIntroducedModel", name := "two", desc := "(III)I" } : Jvm.MethodName)), (Jvm.Cond.static ({ cls := "HuntersIntroducedModel", name := "two", desc := "(III)I" } : Jvm.MethodName)), (Jvm.Cond.code ({ cls := "HuntersIntroducedModel", name := "two", desc := "(III)I" } : Jvm.MethodName) prog_10_method_30_code (3 : Nat) (Option.some Jvm.ClassFile.FieldType.int)), (Jvm.Cond.methodLink "HuntersIntroducedModel" (183 : Nat) ({ cls := "HuntersIntroducedModel", name := "within", desc := "(III)I" } : Jvm.MethodName)), (Jvm.Cond.static ({ cls := "HuntersIntroducedModel", name := "within", desc := "(III)I" } : Jvm.MethodName)), (Jvm.Cond.code ({ cls := "HuntersIntroducedModel", name := "within", desc := "(III)I" } : Jvm.MethodName) prog_10_method_4_code (3 : Nat) (Option.some Jvm.ClassFile.FieldType.int)), (Jvm.Cond.methodLink "HuntersIntroducedLaw" (49 : Nat) ({ cls := "HuntersIntroducedModel", name := "hunter", desc := "(III)I" } : Jvm.MethodName)), (Jvm.Cond.instanceMethod ({ cls := "HuntersIntroducedModel", name := "hunter", desc := "(III)I" } : Jvm.MethodName)), (Jvm.Cond.selects "HuntersIntroducedModel" ({ cls := "HuntersIntroducedModel", name := "hunter", desc := "(III)I" } : Jvm.MethodName) ({ cls := "HuntersIntroducedModel", name := "hunter", desc := "(III)I" } : Jvm.MethodName)), (Jvm.Cond.code ({ cls := "HuntersIntroducedModel", name := "hunter", desc := "(III)I" } : Jvm.MethodName) prog_10_method_35_code (4 : Nat) (Option.some Jvm.ClassFile.FieldType.int)), (Jvm.Cond.methodLink "HuntersIntroducedLaw" (53 : Nat) ({ cls := "HuntersIntroducedModel", name := "friends", desc := "(III)I" } : Jvm.MethodName)), (Jvm.Cond.instanceMethod ({ cls := "HuntersIntroducedModel", name := "friends", desc := "(III)I" } : Jvm.MethodName)), (Jvm.Cond.selects "HuntersIntroducedModel" ({ cls := "HuntersIntroducedModel", name := "friends", desc := "(III)I" } : Jvm.MethodName) ({ cls := "HuntersIntroducedModel", name := "friends", desc := "(III)I" } : Jvm.MethodName)), (Jvm.Cond.code ({ cls := "HuntersIntroducedModel", name := "friends", desc := "(III)I" } : Jvm.MethodName) prog_10_method_37_code (5 : Nat) (Option.some Jvm.ClassFile.FieldType.int)), (Jvm.Cond.methodLink "HuntersIntroducedModel" (189 : Nat) ({ cls := "HuntersIntroducedModel", name := "areTwo", desc := "(II)Z" } : Jvm.MethodName)), (Jvm.Cond.privateMethod ({ cls := "HuntersIntroducedModel", name := "areTwo", desc := "(II)Z" } : Jvm.MethodName))]
def gl_5_3 : List Cond := [(Jvm.Cond.instanceMethod ({ cls := "HuntersIntroducedModel", name := "areTwo", desc := "(II)Z" } : Jvm.MethodName)), (Jvm.Cond.code ({ cls := "HuntersIntroducedModel", name := "areTwo", desc := "(II)Z" } : Jvm.MethodName) prog_10_method_7_code (3 : Nat) (Option.some Jvm.ClassFile.FieldType.boolean)), (Jvm.Cond.methodLink "HuntersIntroducedModel" (192 : Nat) ({ cls := "HuntersIntroducedModel", name := "haveMet", desc := "(II)Z" } : Jvm.MethodName)), (Jvm.Cond.privateMethod ({ cls := "HuntersIntroducedModel", name := "haveMet", desc := "(II)Z" } : Jvm.MethodName)), (Jvm.Cond.instanceMethod ({ cls := "HuntersIntroducedModel", name := "haveMet", desc := "(II)Z" } : Jvm.MethodName)), (Jvm.Cond.code ({ cls := "HuntersIntroducedModel", name := "haveMet", desc := "(II)Z" } : Jvm.MethodName) prog_10_method_11_code (3 : Nat) (Option.some Jvm.ClassFile.FieldType.boolean)), (Jvm.Cond.methodLink "HuntersIntroducedModel" (195 : Nat) ({ cls := "HuntersIntroducedModel", name := "meets", desc := "(III)V" } : Jvm.MethodName)), (Jvm.Cond.privateMethod ({ cls := "HuntersIntroducedModel", name := "meets", desc := "(III)V" } : Jvm.MethodName)), (Jvm.Cond.instanceMethod ({ cls := "HuntersIntroducedModel", name := "meets", desc := "(III)V" } : Jvm.MethodName)), (Jvm.Cond.code ({ cls := "HuntersIntroducedModel", name := "meets", desc := "(III)V" } : Jvm.MethodName) prog_10_method_36_code (4 : Nat) (Option.none : Option Jvm.ClassFile.FieldType)), (Jvm.Cond.methodLink "HuntersIntroducedLaw" (57 : Nat) ({ cls := "HuntersIntroducedModel", name := "put", desc := "(III)I" } : Jvm.MethodName)), (Jvm.Cond.instanceMethod ({ cls := "HuntersIntroducedModel", name := "put", desc := "(III)I" } : Jvm.MethodName)), (Jvm.Cond.selects "HuntersIntroducedModel" ({ cls := "HuntersIntroducedModel", name := "put", desc := "(III)I" } : Jvm.MethodName) ({ cls := "HuntersIntroducedModel", name := "put", desc := "(III)I" } : Jvm.MethodName)), (Jvm.Cond.code ({ cls := "HuntersIntroducedModel", name := "put", desc := "(III)I" } : Jvm.MethodName) prog_10_method_38_code (5 : Nat) (Option.some Jvm.ClassFile.FieldType.int)), (Jvm.Cond.methodLink "HuntersIntroducedLaw" (65 : Nat) ({ cls := "HuntersIntroducedModel", name := "hits", desc := "(II)I" } : Jvm.MethodName)), (Jvm.Cond.instanceMethod ({ cls := "HuntersIntroducedModel", name := "hits", desc := "(II)I" } : Jvm.MethodName))]
def gl_5_4 : List Cond := [(Jvm.Cond.selects "HuntersIntroducedModel" ({ cls := "HuntersIntroducedModel", name := "hits", desc := "(II)I" } : Jvm.MethodName) ({ cls := "HuntersIntroducedModel", name := "hits", desc := "(II)I" } : Jvm.MethodName)), (Jvm.Cond.code ({ cls := "HuntersIntroducedModel", name := "hits", desc := "(II)I" } : Jvm.MethodName) prog_10_method_42_code (3 : Nat) (Option.some Jvm.ClassFile.FieldType.int)), (Jvm.Cond.methodLink "HuntersIntroducedModel" (199 : Nat) ({ cls := "HuntersIntroducedModel", name := "hitsOf", desc := "(II)I" } : Jvm.MethodName)), (Jvm.Cond.privateMethod ({ cls := "HuntersIntroducedModel", name := "hitsOf", desc := "(II)I" } : Jvm.MethodName)), (Jvm.Cond.instanceMethod ({ cls := "HuntersIntroducedModel", name := "hitsOf", desc := "(II)I" } : Jvm.MethodName)), (Jvm.Cond.code ({ cls := "HuntersIntroducedModel", name := "hitsOf", desc := "(II)I" } : Jvm.MethodName) prog_10_method_40_code (7 : Nat) (Option.some Jvm.ClassFile.FieldType.int)), (Jvm.Cond.methodLink "HuntersIntroducedLaw" (61 : Nat) ({ cls := "HuntersIntroducedModel", name := "told", desc := "(II)I" } : Jvm.MethodName)), (Jvm.Cond.instanceMethod ({ cls := "HuntersIntroducedModel", name := "told", desc := "(II)I" } : Jvm.MethodName)), (Jvm.Cond.selects "HuntersIntroducedModel" ({ cls := "HuntersIntroducedModel", name := "told", desc := "(II)I" } : Jvm.MethodName) ({ cls := "HuntersIntroducedModel", name := "told", desc := "(II)I" } : Jvm.MethodName)), (Jvm.Cond.code ({ cls := "HuntersIntroducedModel", name := "told", desc := "(II)I" } : Jvm.MethodName) prog_10_method_47_code (3 : Nat) (Option.some Jvm.ClassFile.FieldType.int)), (Jvm.Cond.methodLink "HuntersIntroducedModel" (205 : Nat) ({ cls := "HuntersIntroducedModel", name := "doesWill", desc := "(I)Z" } : Jvm.MethodName)), (Jvm.Cond.privateMethod ({ cls := "HuntersIntroducedModel", name := "doesWill", desc := "(I)Z" } : Jvm.MethodName)), (Jvm.Cond.instanceMethod ({ cls := "HuntersIntroducedModel", name := "doesWill", desc := "(I)Z" } : Jvm.MethodName)), (Jvm.Cond.code ({ cls := "HuntersIntroducedModel", name := "doesWill", desc := "(I)Z" } : Jvm.MethodName) prog_10_method_41_code (3 : Nat) (Option.some Jvm.ClassFile.FieldType.boolean)), (Jvm.Cond.methodLink "HuntersIntroducedModel" (220 : Nat) ({ cls := "HuntersIntroducedModel", name := "gainsOf", desc := "(I)I" } : Jvm.MethodName)), (Jvm.Cond.privateMethod ({ cls := "HuntersIntroducedModel", name := "gainsOf", desc := "(I)I" } : Jvm.MethodName))]
def gl_5_5 : List Cond := [(Jvm.Cond.instanceMethod ({ cls := "HuntersIntroducedModel", name := "gainsOf", desc := "(I)I" } : Jvm.MethodName)), (Jvm.Cond.code ({ cls := "HuntersIntroducedModel", name := "gainsOf", desc := "(I)I" } : Jvm.MethodName) prog_10_method_39_code (3 : Nat) (Option.some Jvm.ClassFile.FieldType.int)), (Jvm.Cond.methodLink "HuntersIntroducedModel" (223 : Nat) ({ cls := "HuntersIntroducedModel", name := "sponsored", desc := "(I)I" } : Jvm.MethodName)), (Jvm.Cond.privateMethod ({ cls := "HuntersIntroducedModel", name := "sponsored", desc := "(I)I" } : Jvm.MethodName)), (Jvm.Cond.instanceMethod ({ cls := "HuntersIntroducedModel", name := "sponsored", desc := "(I)I" } : Jvm.MethodName)), (Jvm.Cond.code ({ cls := "HuntersIntroducedModel", name := "sponsored", desc := "(I)I" } : Jvm.MethodName) prog_10_method_46_code (4 : Nat) (Option.some Jvm.ClassFile.FieldType.int)), (Jvm.Cond.methodLink "HuntersIntroducedModel" (211 : Nat) ({ cls := "HuntersIntroducedModel", name := "tellsWilling", desc := "()V" } : Jvm.MethodName)), (Jvm.Cond.privateMethod ({ cls := "HuntersIntroducedModel", name := "tellsWilling", desc := "()V" } : Jvm.MethodName)), (Jvm.Cond.instanceMethod ({ cls := "HuntersIntroducedModel", name := "tellsWilling", desc := "()V" } : Jvm.MethodName)), (Jvm.Cond.code ({ cls := "HuntersIntroducedModel", name := "tellsWilling", desc := "()V" } : Jvm.MethodName) prog_10_method_43_code (2 : Nat) (Option.none : Option Jvm.ClassFile.FieldType)), (Jvm.Cond.methodLink "HuntersIntroducedModel" (214 : Nat) ({ cls := "HuntersIntroducedModel", name := "tellsFar", desc := "(I)V" } : Jvm.MethodName)), (Jvm.Cond.privateMethod ({ cls := "HuntersIntroducedModel", name := "tellsFar", desc := "(I)V" } : Jvm.MethodName)), (Jvm.Cond.instanceMethod ({ cls := "HuntersIntroducedModel", name := "tellsFar", desc := "(I)V" } : Jvm.MethodName)), (Jvm.Cond.code ({ cls := "HuntersIntroducedModel", name := "tellsFar", desc := "(I)V" } : Jvm.MethodName) prog_10_method_44_code (6 : Nat) (Option.none : Option Jvm.ClassFile.FieldType)), (Jvm.Cond.methodLink "HuntersIntroducedModel" (217 : Nat) ({ cls := "HuntersIntroducedModel", name := "sponsorBy", desc := "(II)I" } : Jvm.MethodName)), (Jvm.Cond.privateMethod ({ cls := "HuntersIntroducedModel", name := "sponsorBy", desc := "(II)I" } : Jvm.MethodName))]
def gl_5_6 : List Cond := [(Jvm.Cond.instanceMethod ({ cls := "HuntersIntroducedModel", name := "sponsorBy", desc := "(II)I" } : Jvm.MethodName)), (Jvm.Cond.code ({ cls := "HuntersIntroducedModel", name := "sponsorBy", desc := "(II)I" } : Jvm.MethodName) prog_10_method_45_code (7 : Nat) (Option.some Jvm.ClassFile.FieldType.int)), (Jvm.Cond.methodLink "HuntersIntroducedModel" (208 : Nat) ({ cls := "HuntersIntroducedModel", name := "isAlive", desc := "(I)Z" } : Jvm.MethodName)), (Jvm.Cond.privateMethod ({ cls := "HuntersIntroducedModel", name := "isAlive", desc := "(I)Z" } : Jvm.MethodName)), (Jvm.Cond.instanceMethod ({ cls := "HuntersIntroducedModel", name := "isAlive", desc := "(I)Z" } : Jvm.MethodName)), (Jvm.Cond.code ({ cls := "HuntersIntroducedModel", name := "isAlive", desc := "(I)Z" } : Jvm.MethodName) prog_10_method_9_code (2 : Nat) (Option.some Jvm.ClassFile.FieldType.boolean)), (Jvm.Cond.methodLink "HuntersIntroducedLaw" (69 : Nat) ({ cls := "HuntersIntroducedModel", name := "meet", desc := "(III)I" } : Jvm.MethodName)), (Jvm.Cond.instanceMethod ({ cls := "HuntersIntroducedModel", name := "meet", desc := "(III)I" } : Jvm.MethodName)), (Jvm.Cond.selects "HuntersIntroducedModel" ({ cls := "HuntersIntroducedModel", name := "meet", desc := "(III)I" } : Jvm.MethodName) ({ cls := "HuntersIntroducedModel", name := "meet", desc := "(III)I" } : Jvm.MethodName)), (Jvm.Cond.code ({ cls := "HuntersIntroducedModel", name := "meet", desc := "(III)I" } : Jvm.MethodName) prog_10_method_49_code (4 : Nat) (Option.some Jvm.ClassFile.FieldType.int)), (Jvm.Cond.methodLink "HuntersIntroducedModel" (226 : Nat) ({ cls := "HuntersIntroducedModel", name := "gainsBy", desc := "(I)I" } : Jvm.MethodName)), (Jvm.Cond.privateMethod ({ cls := "HuntersIntroducedModel", name := "gainsBy", desc := "(I)I" } : Jvm.MethodName)), (Jvm.Cond.instanceMethod ({ cls := "HuntersIntroducedModel", name := "gainsBy", desc := "(I)I" } : Jvm.MethodName)), (Jvm.Cond.code ({ cls := "HuntersIntroducedModel", name := "gainsBy", desc := "(I)I" } : Jvm.MethodName) prog_10_method_48_code (2 : Nat) (Option.some Jvm.ClassFile.FieldType.int)), (Jvm.Cond.methodLink "HuntersIntroducedLaw" (73 : Nat) ({ cls := "HuntersIntroducedModel", name := "present", desc := "(III)I" } : Jvm.MethodName)), (Jvm.Cond.instanceMethod ({ cls := "HuntersIntroducedModel", name := "present", desc := "(III)I" } : Jvm.MethodName))]
def gl_5_7 : List Cond := [(Jvm.Cond.selects "HuntersIntroducedModel" ({ cls := "HuntersIntroducedModel", name := "present", desc := "(III)I" } : Jvm.MethodName) ({ cls := "HuntersIntroducedModel", name := "present", desc := "(III)I" } : Jvm.MethodName)), (Jvm.Cond.code ({ cls := "HuntersIntroducedModel", name := "present", desc := "(III)I" } : Jvm.MethodName) prog_10_method_50_code (5 : Nat) (Option.some Jvm.ClassFile.FieldType.int)), (Jvm.Cond.methodLink "HuntersIntroducedLaw" (77 : Nat) ({ cls := "HuntersIntroducedModel", name := "circle", desc := "(II)I" } : Jvm.MethodName)), (Jvm.Cond.instanceMethod ({ cls := "HuntersIntroducedModel", name := "circle", desc := "(II)I" } : Jvm.MethodName)), (Jvm.Cond.selects "HuntersIntroducedModel" ({ cls := "HuntersIntroducedModel", name := "circle", desc := "(II)I" } : Jvm.MethodName) ({ cls := "HuntersIntroducedModel", name := "circle", desc := "(II)I" } : Jvm.MethodName)), (Jvm.Cond.code ({ cls := "HuntersIntroducedModel", name := "circle", desc := "(II)I" } : Jvm.MethodName) prog_10_method_51_code (5 : Nat) (Option.some Jvm.ClassFile.FieldType.int)), (Jvm.Cond.methodLink "HuntersIntroducedLaw" (81 : Nat) ({ cls := "HuntersIntroducedModel", name := "way", desc := "(III)I" } : Jvm.MethodName)), (Jvm.Cond.instanceMethod ({ cls := "HuntersIntroducedModel", name := "way", desc := "(III)I" } : Jvm.MethodName)), (Jvm.Cond.selects "HuntersIntroducedModel" ({ cls := "HuntersIntroducedModel", name := "way", desc := "(III)I" } : Jvm.MethodName) ({ cls := "HuntersIntroducedModel", name := "way", desc := "(III)I" } : Jvm.MethodName)), (Jvm.Cond.code ({ cls := "HuntersIntroducedModel", name := "way", desc := "(III)I" } : Jvm.MethodName) prog_10_method_53_code (5 : Nat) (Option.some Jvm.ClassFile.FieldType.int)), (Jvm.Cond.methodLink "HuntersIntroducedModel" (229 : Nat) ({ cls := "HuntersIntroducedModel", name := "digitsTo", desc := "(I)I" } : Jvm.MethodName)), (Jvm.Cond.privateMethod ({ cls := "HuntersIntroducedModel", name := "digitsTo", desc := "(I)I" } : Jvm.MethodName)), (Jvm.Cond.instanceMethod ({ cls := "HuntersIntroducedModel", name := "digitsTo", desc := "(I)I" } : Jvm.MethodName)), (Jvm.Cond.code ({ cls := "HuntersIntroducedModel", name := "digitsTo", desc := "(I)I" } : Jvm.MethodName) prog_10_method_52_code (8 : Nat) (Option.some Jvm.ClassFile.FieldType.int)), (Jvm.Cond.methodLink "HuntersIntroducedLaw" (85 : Nat) ({ cls := "HuntersIntroducedModel", name := "shoot", desc := "(II)I" } : Jvm.MethodName)), (Jvm.Cond.instanceMethod ({ cls := "HuntersIntroducedModel", name := "shoot", desc := "(II)I" } : Jvm.MethodName))]
def gl_5_8 : List Cond := [(Jvm.Cond.selects "HuntersIntroducedModel" ({ cls := "HuntersIntroducedModel", name := "shoot", desc := "(II)I" } : Jvm.MethodName) ({ cls := "HuntersIntroducedModel", name := "shoot", desc := "(II)I" } : Jvm.MethodName)), (Jvm.Cond.code ({ cls := "HuntersIntroducedModel", name := "shoot", desc := "(II)I" } : Jvm.MethodName) prog_10_method_56_code (3 : Nat) (Option.some Jvm.ClassFile.FieldType.int)), (Jvm.Cond.methodLink "HuntersIntroducedModel" (235 : Nat) ({ cls := "HuntersIntroducedModel", name := "shotOf", desc := "(II)I" } : Jvm.MethodName)), (Jvm.Cond.privateMethod ({ cls := "HuntersIntroducedModel", name := "shotOf", desc := "(II)I" } : Jvm.MethodName)), (Jvm.Cond.instanceMethod ({ cls := "HuntersIntroducedModel", name := "shotOf", desc := "(II)I" } : Jvm.MethodName)), (Jvm.Cond.code ({ cls := "HuntersIntroducedModel", name := "shotOf", desc := "(II)I" } : Jvm.MethodName) prog_10_method_55_code (5 : Nat) (Option.some Jvm.ClassFile.FieldType.int)), (Jvm.Cond.methodLink "HuntersIntroducedModel" (232 : Nat) ({ cls := "HuntersIntroducedModel", name := "aimOf", desc := "(II)I" } : Jvm.MethodName)), (Jvm.Cond.privateMethod ({ cls := "HuntersIntroducedModel", name := "aimOf", desc := "(II)I" } : Jvm.MethodName)), (Jvm.Cond.instanceMethod ({ cls := "HuntersIntroducedModel", name := "aimOf", desc := "(II)I" } : Jvm.MethodName)), (Jvm.Cond.code ({ cls := "HuntersIntroducedModel", name := "aimOf", desc := "(II)I" } : Jvm.MethodName) prog_10_method_54_code (3 : Nat) (Option.some Jvm.ClassFile.FieldType.int)), (Jvm.Cond.methodLink "HuntersIntroducedLaw" (89 : Nat) ({ cls := "HuntersIntroducedModel", name := "aims", desc := "(II)I" } : Jvm.MethodName)), (Jvm.Cond.instanceMethod ({ cls := "HuntersIntroducedModel", name := "aims", desc := "(II)I" } : Jvm.MethodName)), (Jvm.Cond.selects "HuntersIntroducedModel" ({ cls := "HuntersIntroducedModel", name := "aims", desc := "(II)I" } : Jvm.MethodName) ({ cls := "HuntersIntroducedModel", name := "aims", desc := "(II)I" } : Jvm.MethodName)), (Jvm.Cond.code ({ cls := "HuntersIntroducedModel", name := "aims", desc := "(II)I" } : Jvm.MethodName) prog_10_method_57_code (3 : Nat) (Option.some Jvm.ClassFile.FieldType.int)), (Jvm.Cond.methodLink "HuntersIntroducedLaw" (93 : Nat) ({ cls := "HuntersIntroducedModel", name := "season", desc := "(III)I" } : Jvm.MethodName)), (Jvm.Cond.instanceMethod ({ cls := "HuntersIntroducedModel", name := "season", desc := "(III)I" } : Jvm.MethodName))]
def gl_5_9 : List Cond := [(Jvm.Cond.selects "HuntersIntroducedModel" ({ cls := "HuntersIntroducedModel", name := "season", desc := "(III)I" } : Jvm.MethodName) ({ cls := "HuntersIntroducedModel", name := "season", desc := "(III)I" } : Jvm.MethodName)), (Jvm.Cond.code ({ cls := "HuntersIntroducedModel", name := "season", desc := "(III)I" } : Jvm.MethodName) prog_10_method_63_code (6 : Nat) (Option.some Jvm.ClassFile.FieldType.int)), (Jvm.Cond.methodLink "HuntersIntroducedModel" (241 : Nat) ({ cls := "HuntersIntroducedModel", name := "oneWrong", desc := "(II)I" } : Jvm.MethodName)), (Jvm.Cond.privateMethod ({ cls := "HuntersIntroducedModel", name := "oneWrong", desc := "(II)I" } : Jvm.MethodName)), (Jvm.Cond.instanceMethod ({ cls := "HuntersIntroducedModel", name := "oneWrong", desc := "(II)I" } : Jvm.MethodName)), (Jvm.Cond.code ({ cls := "HuntersIntroducedModel", name := "oneWrong", desc := "(II)I" } : Jvm.MethodName) prog_10_method_61_code (4 : Nat) (Option.some Jvm.ClassFile.FieldType.int)), (Jvm.Cond.methodLink "HuntersIntroducedModel" (238 : Nat) ({ cls := "HuntersIntroducedModel", name := "seasonWrong", desc := "(I)I" } : Jvm.MethodName)), (Jvm.Cond.privateMethod ({ cls := "HuntersIntroducedModel", name := "seasonWrong", desc := "(I)I" } : Jvm.MethodName)), (Jvm.Cond.instanceMethod ({ cls := "HuntersIntroducedModel", name := "seasonWrong", desc := "(I)I" } : Jvm.MethodName)), (Jvm.Cond.code ({ cls := "HuntersIntroducedModel", name := "seasonWrong", desc := "(I)I" } : Jvm.MethodName) prog_10_method_60_code (3 : Nat) (Option.some Jvm.ClassFile.FieldType.int)), (Jvm.Cond.methodLink "HuntersIntroducedModel" (244 : Nat) ({ cls := "HuntersIntroducedModel", name := "keeps", desc := "()V" } : Jvm.MethodName)), (Jvm.Cond.privateMethod ({ cls := "HuntersIntroducedModel", name := "keeps", desc := "()V" } : Jvm.MethodName)), (Jvm.Cond.instanceMethod ({ cls := "HuntersIntroducedModel", name := "keeps", desc := "()V" } : Jvm.MethodName)), (Jvm.Cond.code ({ cls := "HuntersIntroducedModel", name := "keeps", desc := "()V" } : Jvm.MethodName) prog_10_method_58_code (2 : Nat) (Option.none : Option Jvm.ClassFile.FieldType)), (Jvm.Cond.methodLink "HuntersIntroducedModel" (247 : Nat) ({ cls := "HuntersIntroducedModel", name := "goes", desc := "(II)V" } : Jvm.MethodName)), (Jvm.Cond.privateMethod ({ cls := "HuntersIntroducedModel", name := "goes", desc := "(II)V" } : Jvm.MethodName))]
def gl_5_10 : List Cond := [(Jvm.Cond.instanceMethod ({ cls := "HuntersIntroducedModel", name := "goes", desc := "(II)V" } : Jvm.MethodName)), (Jvm.Cond.code ({ cls := "HuntersIntroducedModel", name := "goes", desc := "(II)V" } : Jvm.MethodName) prog_10_method_62_code (4 : Nat) (Option.none : Option Jvm.ClassFile.FieldType)), (Jvm.Cond.methodLink "HuntersIntroducedModel" (251 : Nat) ({ cls := "HuntersIntroducedModel", name := "lays", desc := "()V" } : Jvm.MethodName)), (Jvm.Cond.privateMethod ({ cls := "HuntersIntroducedModel", name := "lays", desc := "()V" } : Jvm.MethodName)), (Jvm.Cond.instanceMethod ({ cls := "HuntersIntroducedModel", name := "lays", desc := "()V" } : Jvm.MethodName)), (Jvm.Cond.code ({ cls := "HuntersIntroducedModel", name := "lays", desc := "()V" } : Jvm.MethodName) prog_10_method_59_code (2 : Nat) (Option.none : Option Jvm.ClassFile.FieldType)), (Jvm.Cond.methodLink "HuntersIntroducedLaw" (97 : Nat) ({ cls := "HuntersIntroducedModel", name := "hunt", desc := "(II)I" } : Jvm.MethodName)), (Jvm.Cond.instanceMethod ({ cls := "HuntersIntroducedModel", name := "hunt", desc := "(II)I" } : Jvm.MethodName)), (Jvm.Cond.selects "HuntersIntroducedModel" ({ cls := "HuntersIntroducedModel", name := "hunt", desc := "(II)I" } : Jvm.MethodName) ({ cls := "HuntersIntroducedModel", name := "hunt", desc := "(II)I" } : Jvm.MethodName)), (Jvm.Cond.code ({ cls := "HuntersIntroducedModel", name := "hunt", desc := "(II)I" } : Jvm.MethodName) prog_10_method_64_code (4 : Nat) (Option.some Jvm.ClassFile.FieldType.int)), (Jvm.Cond.methodLink "HuntersIntroducedLaw" (101 : Nat) ({ cls := "HuntersIntroducedModel", name := "ball", desc := "(I)I" } : Jvm.MethodName)), (Jvm.Cond.instanceMethod ({ cls := "HuntersIntroducedModel", name := "ball", desc := "(I)I" } : Jvm.MethodName)), (Jvm.Cond.selects "HuntersIntroducedModel" ({ cls := "HuntersIntroducedModel", name := "ball", desc := "(I)I" } : Jvm.MethodName) ({ cls := "HuntersIntroducedModel", name := "ball", desc := "(I)I" } : Jvm.MethodName)), (Jvm.Cond.code ({ cls := "HuntersIntroducedModel", name := "ball", desc := "(I)I" } : Jvm.MethodName) prog_10_method_66_code (7 : Nat) (Option.some Jvm.ClassFile.FieldType.int)), (Jvm.Cond.methodLink "HuntersIntroducedModel" (254 : Nat) ({ cls := "HuntersIntroducedModel", name := "sponsoredAll", desc := "()I" } : Jvm.MethodName)), (Jvm.Cond.privateMethod ({ cls := "HuntersIntroducedModel", name := "sponsoredAll", desc := "()I" } : Jvm.MethodName))]
def gl_5_11 : List Cond := [(Jvm.Cond.instanceMethod ({ cls := "HuntersIntroducedModel", name := "sponsoredAll", desc := "()I" } : Jvm.MethodName)), (Jvm.Cond.code ({ cls := "HuntersIntroducedModel", name := "sponsoredAll", desc := "()I" } : Jvm.MethodName) prog_10_method_65_code (3 : Nat) (Option.some Jvm.ClassFile.FieldType.int)), (Jvm.Cond.methodLink "HuntersIntroducedLaw" (105 : Nat) ({ cls := "HuntersIntroducedModel", name := "safest", desc := "(I)I" } : Jvm.MethodName)), (Jvm.Cond.instanceMethod ({ cls := "HuntersIntroducedModel", name := "safest", desc := "(I)I" } : Jvm.MethodName)), (Jvm.Cond.selects "HuntersIntroducedModel" ({ cls := "HuntersIntroducedModel", name := "safest", desc := "(I)I" } : Jvm.MethodName) ({ cls := "HuntersIntroducedModel", name := "safest", desc := "(I)I" } : Jvm.MethodName)), (Jvm.Cond.code ({ cls := "HuntersIntroducedModel", name := "safest", desc := "(I)I" } : Jvm.MethodName) prog_10_method_67_code (7 : Nat) (Option.some Jvm.ClassFile.FieldType.int)), (Jvm.Cond.methodLink "HuntersIntroducedLaw" (109 : Nat) ({ cls := "HuntersIntroducedModel", name := "prize", desc := "(II)I" } : Jvm.MethodName)), (Jvm.Cond.instanceMethod ({ cls := "HuntersIntroducedModel", name := "prize", desc := "(II)I" } : Jvm.MethodName)), (Jvm.Cond.selects "HuntersIntroducedModel" ({ cls := "HuntersIntroducedModel", name := "prize", desc := "(II)I" } : Jvm.MethodName) ({ cls := "HuntersIntroducedModel", name := "prize", desc := "(II)I" } : Jvm.MethodName)), (Jvm.Cond.code ({ cls := "HuntersIntroducedModel", name := "prize", desc := "(II)I" } : Jvm.MethodName) prog_10_method_68_code (8 : Nat) (Option.some Jvm.ClassFile.FieldType.int)), (Jvm.Cond.methodLink "HuntersIntroducedLaw" (114 : Nat) ({ cls := "HuntersIntroducedModel", name := "society", desc := "(I)J" } : Jvm.MethodName)), (Jvm.Cond.instanceMethod ({ cls := "HuntersIntroducedModel", name := "society", desc := "(I)J" } : Jvm.MethodName)), (Jvm.Cond.selects "HuntersIntroducedModel" ({ cls := "HuntersIntroducedModel", name := "society", desc := "(I)J" } : Jvm.MethodName) ({ cls := "HuntersIntroducedModel", name := "society", desc := "(I)J" } : Jvm.MethodName)), (Jvm.Cond.code ({ cls := "HuntersIntroducedModel", name := "society", desc := "(I)J" } : Jvm.MethodName) prog_10_method_70_code (4 : Nat) (Option.some Jvm.ClassFile.FieldType.long)), (Jvm.Cond.constantLong "HuntersIntroducedModel" (257 : Nat) (-4611686018427387904 : Int64)), (Jvm.Cond.methodLink "HuntersIntroducedModel" (259 : Nat) ({ cls := "HuntersIntroducedModel", name := "lowest", desc := "(JJI)J" } : Jvm.MethodName))]
def gl_5_12 : List Cond := [(Jvm.Cond.static ({ cls := "HuntersIntroducedModel", name := "lowest", desc := "(JJI)J" } : Jvm.MethodName)), (Jvm.Cond.code ({ cls := "HuntersIntroducedModel", name := "lowest", desc := "(JJI)J" } : Jvm.MethodName) prog_10_method_69_code (11 : Nat) (Option.some Jvm.ClassFile.FieldType.long)), (Jvm.Cond.methodLink "HuntersIntroducedLaw" (118 : Nat) ({ cls := "HuntersIntroducedModel", name := "judge", desc := "(III)I" } : Jvm.MethodName)), (Jvm.Cond.instanceMethod ({ cls := "HuntersIntroducedModel", name := "judge", desc := "(III)I" } : Jvm.MethodName)), (Jvm.Cond.selects "HuntersIntroducedModel" ({ cls := "HuntersIntroducedModel", name := "judge", desc := "(III)I" } : Jvm.MethodName) ({ cls := "HuntersIntroducedModel", name := "judge", desc := "(III)I" } : Jvm.MethodName)), (Jvm.Cond.code ({ cls := "HuntersIntroducedModel", name := "judge", desc := "(III)I" } : Jvm.MethodName) prog_10_method_74_code (5 : Nat) (Option.some Jvm.ClassFile.FieldType.int)), (Jvm.Cond.methodLink "HuntersIntroducedModel" (266 : Nat) ({ cls := "HuntersIntroducedModel", name := "toldWrong", desc := "(III)I" } : Jvm.MethodName)), (Jvm.Cond.privateMethod ({ cls := "HuntersIntroducedModel", name := "toldWrong", desc := "(III)I" } : Jvm.MethodName)), (Jvm.Cond.instanceMethod ({ cls := "HuntersIntroducedModel", name := "toldWrong", desc := "(III)I" } : Jvm.MethodName)), (Jvm.Cond.code ({ cls := "HuntersIntroducedModel", name := "toldWrong", desc := "(III)I" } : Jvm.MethodName) prog_10_method_72_code (5 : Nat) (Option.some Jvm.ClassFile.FieldType.int)), (Jvm.Cond.methodLink "HuntersIntroducedModel" (263 : Nat) ({ cls := "HuntersIntroducedModel", name := "twoWrong", desc := "(II)I" } : Jvm.MethodName)), (Jvm.Cond.privateMethod ({ cls := "HuntersIntroducedModel", name := "twoWrong", desc := "(II)I" } : Jvm.MethodName)), (Jvm.Cond.instanceMethod ({ cls := "HuntersIntroducedModel", name := "twoWrong", desc := "(II)I" } : Jvm.MethodName)), (Jvm.Cond.code ({ cls := "HuntersIntroducedModel", name := "twoWrong", desc := "(II)I" } : Jvm.MethodName) prog_10_method_71_code (4 : Nat) (Option.some Jvm.ClassFile.FieldType.int)), (Jvm.Cond.methodLink "HuntersIntroducedModel" (269 : Nat) ({ cls := "HuntersIntroducedModel", name := "unlike", desc := "(III)I" } : Jvm.MethodName)), (Jvm.Cond.privateMethod ({ cls := "HuntersIntroducedModel", name := "unlike", desc := "(III)I" } : Jvm.MethodName))]
def gl_5_13 : List Cond := [(Jvm.Cond.instanceMethod ({ cls := "HuntersIntroducedModel", name := "unlike", desc := "(III)I" } : Jvm.MethodName)), (Jvm.Cond.code ({ cls := "HuntersIntroducedModel", name := "unlike", desc := "(III)I" } : Jvm.MethodName) prog_10_method_73_code (6 : Nat) (Option.some Jvm.ClassFile.FieldType.int)), (Jvm.Cond.methodLink "HuntersIntroducedLaw" (123 : Nat) ({ cls := "HuntersIntroducedModel", name := "kinds", desc := "(IIII)I" } : Jvm.MethodName)), (Jvm.Cond.instanceMethod ({ cls := "HuntersIntroducedModel", name := "kinds", desc := "(IIII)I" } : Jvm.MethodName)), (Jvm.Cond.selects "HuntersIntroducedModel" ({ cls := "HuntersIntroducedModel", name := "kinds", desc := "(IIII)I" } : Jvm.MethodName) ({ cls := "HuntersIntroducedModel", name := "kinds", desc := "(IIII)I" } : Jvm.MethodName)), (Jvm.Cond.code ({ cls := "HuntersIntroducedModel", name := "kinds", desc := "(IIII)I" } : Jvm.MethodName) prog_10_method_75_code (10 : Nat) (Option.some Jvm.ClassFile.FieldType.int)), (Jvm.Cond.methodLink "HuntersIntroducedLaw" (127 : Nat) ({ cls := "HuntersIntroducedModel", name := "turned", desc := "(III)I" } : Jvm.MethodName)), (Jvm.Cond.instanceMethod ({ cls := "HuntersIntroducedModel", name := "turned", desc := "(III)I" } : Jvm.MethodName)), (Jvm.Cond.selects "HuntersIntroducedModel" ({ cls := "HuntersIntroducedModel", name := "turned", desc := "(III)I" } : Jvm.MethodName) ({ cls := "HuntersIntroducedModel", name := "turned", desc := "(III)I" } : Jvm.MethodName)), (Jvm.Cond.code ({ cls := "HuntersIntroducedModel", name := "turned", desc := "(III)I" } : Jvm.MethodName) prog_10_method_76_code (8 : Nat) (Option.some Jvm.ClassFile.FieldType.int)), (Jvm.Cond.methodLink "HuntersIntroducedLaw" (131 : Nat) ({ cls := "HuntersIntroducedModel", name := "honours", desc := "(IIII)I" } : Jvm.MethodName)), (Jvm.Cond.instanceMethod ({ cls := "HuntersIntroducedModel", name := "honours", desc := "(IIII)I" } : Jvm.MethodName)), (Jvm.Cond.selects "HuntersIntroducedModel" ({ cls := "HuntersIntroducedModel", name := "honours", desc := "(IIII)I" } : Jvm.MethodName) ({ cls := "HuntersIntroducedModel", name := "honours", desc := "(IIII)I" } : Jvm.MethodName)), (Jvm.Cond.code ({ cls := "HuntersIntroducedModel", name := "honours", desc := "(IIII)I" } : Jvm.MethodName) prog_10_method_77_code (11 : Nat) (Option.some Jvm.ClassFile.FieldType.int)), (Jvm.Cond.methodLink "HuntersIntroducedLaw" (135 : Nat) ({ cls := "HuntersIntroducedModel", name := "whose", desc := "(II)I" } : Jvm.MethodName)), (Jvm.Cond.instanceMethod ({ cls := "HuntersIntroducedModel", name := "whose", desc := "(II)I" } : Jvm.MethodName))]
def gl_5_14 : List Cond := [(Jvm.Cond.selects "HuntersIntroducedModel" ({ cls := "HuntersIntroducedModel", name := "whose", desc := "(II)I" } : Jvm.MethodName) ({ cls := "HuntersIntroducedModel", name := "whose", desc := "(II)I" } : Jvm.MethodName)), (Jvm.Cond.code ({ cls := "HuntersIntroducedModel", name := "whose", desc := "(II)I" } : Jvm.MethodName) prog_10_method_78_code (6 : Nat) (Option.some Jvm.ClassFile.FieldType.int)), (Jvm.Cond.methodLink "HuntersIntroducedLaw" (139 : Nat) ({ cls := "HuntersIntroducedModel", name := "laws", desc := "(III)I" } : Jvm.MethodName)), (Jvm.Cond.instanceMethod ({ cls := "HuntersIntroducedModel", name := "laws", desc := "(III)I" } : Jvm.MethodName)), (Jvm.Cond.selects "HuntersIntroducedModel" ({ cls := "HuntersIntroducedModel", name := "laws", desc := "(III)I" } : Jvm.MethodName) ({ cls := "HuntersIntroducedModel", name := "laws", desc := "(III)I" } : Jvm.MethodName)), (Jvm.Cond.code ({ cls := "HuntersIntroducedModel", name := "laws", desc := "(III)I" } : Jvm.MethodName) prog_10_method_79_code (8 : Nat) (Option.some Jvm.ClassFile.FieldType.int)), (Jvm.Cond.methodLink "HuntersIntroducedLaw" (143 : Nat) ({ cls := "HuntersIntroducedModel", name := "film", desc := "(III)I" } : Jvm.MethodName)), (Jvm.Cond.instanceMethod ({ cls := "HuntersIntroducedModel", name := "film", desc := "(III)I" } : Jvm.MethodName)), (Jvm.Cond.selects "HuntersIntroducedModel" ({ cls := "HuntersIntroducedModel", name := "film", desc := "(III)I" } : Jvm.MethodName) ({ cls := "HuntersIntroducedModel", name := "film", desc := "(III)I" } : Jvm.MethodName)), (Jvm.Cond.code ({ cls := "HuntersIntroducedModel", name := "film", desc := "(III)I" } : Jvm.MethodName) prog_10_method_80_code (6 : Nat) (Option.some Jvm.ClassFile.FieldType.int)), (Jvm.Cond.methodLink "HuntersIntroducedLaw" (147 : Nat) ({ cls := "HuntersIntroducedModel", name := "drawn", desc := "(III)I" } : Jvm.MethodName)), (Jvm.Cond.instanceMethod ({ cls := "HuntersIntroducedModel", name := "drawn", desc := "(III)I" } : Jvm.MethodName)), (Jvm.Cond.selects "HuntersIntroducedModel" ({ cls := "HuntersIntroducedModel", name := "drawn", desc := "(III)I" } : Jvm.MethodName) ({ cls := "HuntersIntroducedModel", name := "drawn", desc := "(III)I" } : Jvm.MethodName)), (Jvm.Cond.code ({ cls := "HuntersIntroducedModel", name := "drawn", desc := "(III)I" } : Jvm.MethodName) prog_10_method_82_code (5 : Nat) (Option.some Jvm.ClassFile.FieldType.int)), (Jvm.Cond.constant "HuntersIntroducedModel" (283 : Nat) (99999 : Int32)), (Jvm.Cond.methodLink "HuntersIntroducedModel" (284 : Nat) ({ cls := "HuntersIntroducedModel", name := "lotSeasons", desc := "(II)I" } : Jvm.MethodName))]
set_option maxRecDepth 100000 in
theorem tq_5 : tables_1_5 = gl_5_0 ++ (gl_5_1 ++ (gl_5_2 ++ (gl_5_3 ++ (gl_5_4 ++ (gl_5_5 ++ (gl_5_6 ++ (gl_5_7 ++ (gl_5_8 ++ (gl_5_9 ++ (gl_5_10 ++ (gl_5_11 ++ (gl_5_12 ++ (gl_5_13 ++ (gl_5_14)))))))))))))) := rfl
theorem ck_5_0 : ∀ w ∈ gl_5_0, w ∈ tables_1 := fun w h => List.mem_append_right _ (List.mem_append_right _ (List.mem_append_right _ (List.mem_append_right _ (List.mem_append_left _ (tq_5 ▸ (List.mem_append_left _ h) : w ∈ tables_1_5)))))
theorem ck_5_1 : ∀ w ∈ gl_5_1, w ∈ tables_1 := fun w h => List.mem_append_right _ (List.mem_append_right _ (List.mem_append_right _ (List.mem_append_right _ (List.mem_append_left _ (tq_5 ▸ (List.mem_append_right _ (List.mem_append_left _ h)) : w ∈ tables_1_5)))))
theorem ck_5_2 : ∀ w ∈ gl_5_2, w ∈ tables_1 := fun w h => List.mem_append_right _ (List.mem_append_right _ (List.mem_append_right _ (List.mem_append_right _ (List.mem_append_left _ (tq_5 ▸ (List.mem_append_right _ (List.mem_append_right _ (List.mem_append_left _ h))) : w ∈ tables_1_5)))))
theorem ck_5_3 : ∀ w ∈ gl_5_3, w ∈ tables_1 := fun w h => List.mem_append_right _ (List.mem_append_right _ (List.mem_append_right _ (List.mem_append_right _ (List.mem_append_left _ (tq_5 ▸ (List.mem_append_right _ (List.mem_append_right _ (List.mem_append_right _ (List.mem_append_left _ h)))) : w ∈ tables_1_5)))))
theorem ck_5_4 : ∀ w ∈ gl_5_4, w ∈ tables_1 := fun w h => List.mem_append_right _ (List.mem_append_right _ (List.mem_append_right _ (List.mem_append_right _ (List.mem_append_left _ (tq_5 ▸ (List.mem_append_right _ (List.mem_append_right _ (List.mem_append_right _ (List.mem_append_right _ (List.mem_append_left _ h))))) : w ∈ tables_1_5)))))
theorem ck_5_5 : ∀ w ∈ gl_5_5, w ∈ tables_1 := fun w h => List.mem_append_right _ (List.mem_append_right _ (List.mem_append_right _ (List.mem_append_right _ (List.mem_append_left _ (tq_5 ▸ (List.mem_append_right _ (List.mem_append_right _ (List.mem_append_right _ (List.mem_append_right _ (List.mem_append_right _ (List.mem_append_left _ h)))))) : w ∈ tables_1_5)))))
theorem ck_5_6 : ∀ w ∈ gl_5_6, w ∈ tables_1 := fun w h => List.mem_append_right _ (List.mem_append_right _ (List.mem_append_right _ (List.mem_append_right _ (List.mem_append_left _ (tq_5 ▸ (List.mem_append_right _ (List.mem_append_right _ (List.mem_append_right _ (List.mem_append_right _ (List.mem_append_right _ (List.mem_append_right _ (List.mem_append_left _ h))))))) : w ∈ tables_1_5)))))
theorem ck_5_7 : ∀ w ∈ gl_5_7, w ∈ tables_1 := fun w h => List.mem_append_right _ (List.mem_append_right _ (List.mem_append_right _ (List.mem_append_right _ (List.mem_append_left _ (tq_5 ▸ (List.mem_append_right _ (List.mem_append_right _ (List.mem_append_right _ (List.mem_append_right _ (List.mem_append_right _ (List.mem_append_right _ (List.mem_append_right _ (List.mem_append_left _ h)))))))) : w ∈ tables_1_5)))))
theorem ck_5_8 : ∀ w ∈ gl_5_8, w ∈ tables_1 := fun w h => List.mem_append_right _ (List.mem_append_right _ (List.mem_append_right _ (List.mem_append_right _ (List.mem_append_left _ (tq_5 ▸ (List.mem_append_right _ (List.mem_append_right _ (List.mem_append_right _ (List.mem_append_right _ (List.mem_append_right _ (List.mem_append_right _ (List.mem_append_right _ (List.mem_append_right _ (List.mem_append_left _ h))))))))) : w ∈ tables_1_5)))))
theorem ck_5_9 : ∀ w ∈ gl_5_9, w ∈ tables_1 := fun w h => List.mem_append_right _ (List.mem_append_right _ (List.mem_append_right _ (List.mem_append_right _ (List.mem_append_left _ (tq_5 ▸ (List.mem_append_right _ (List.mem_append_right _ (List.mem_append_right _ (List.mem_append_right _ (List.mem_append_right _ (List.mem_append_right _ (List.mem_append_right _ (List.mem_append_right _ (List.mem_append_right _ (List.mem_append_left _ h)))))))))) : w ∈ tables_1_5)))))
theorem ck_5_10 : ∀ w ∈ gl_5_10, w ∈ tables_1 := fun w h => List.mem_append_right _ (List.mem_append_right _ (List.mem_append_right _ (List.mem_append_right _ (List.mem_append_left _ (tq_5 ▸ (List.mem_append_right _ (List.mem_append_right _ (List.mem_append_right _ (List.mem_append_right _ (List.mem_append_right _ (List.mem_append_right _ (List.mem_append_right _ (List.mem_append_right _ (List.mem_append_right _ (List.mem_append_right _ (List.mem_append_left _ h))))))))))) : w ∈ tables_1_5)))))
theorem ck_5_11 : ∀ w ∈ gl_5_11, w ∈ tables_1 := fun w h => List.mem_append_right _ (List.mem_append_right _ (List.mem_append_right _ (List.mem_append_right _ (List.mem_append_left _ (tq_5 ▸ (List.mem_append_right _ (List.mem_append_right _ (List.mem_append_right _ (List.mem_append_right _ (List.mem_append_right _ (List.mem_append_right _ (List.mem_append_right _ (List.mem_append_right _ (List.mem_append_right _ (List.mem_append_right _ (List.mem_append_right _ (List.mem_append_left _ h)))))))))))) : w ∈ tables_1_5)))))
theorem ck_5_12 : ∀ w ∈ gl_5_12, w ∈ tables_1 := fun w h => List.mem_append_right _ (List.mem_append_right _ (List.mem_append_right _ (List.mem_append_right _ (List.mem_append_left _ (tq_5 ▸ (List.mem_append_right _ (List.mem_append_right _ (List.mem_append_right _ (List.mem_append_right _ (List.mem_append_right _ (List.mem_append_right _ (List.mem_append_right _ (List.mem_append_right _ (List.mem_append_right _ (List.mem_append_right _ (List.mem_append_right _ (List.mem_append_right _ (List.mem_append_left _ h))))))))))))) : w ∈ tables_1_5)))))
theorem ck_5_13 : ∀ w ∈ gl_5_13, w ∈ tables_1 := fun w h => List.mem_append_right _ (List.mem_append_right _ (List.mem_append_right _ (List.mem_append_right _ (List.mem_append_left _ (tq_5 ▸ (List.mem_append_right _ (List.mem_append_right _ (List.mem_append_right _ (List.mem_append_right _ (List.mem_append_right _ (List.mem_append_right _ (List.mem_append_right _ (List.mem_append_right _ (List.mem_append_right _ (List.mem_append_right _ (List.mem_append_right _ (List.mem_append_right _ (List.mem_append_right _ (List.mem_append_left _ h)))))))))))))) : w ∈ tables_1_5)))))
theorem ck_5_14 : ∀ w ∈ gl_5_14, w ∈ tables_1 := fun w h => List.mem_append_right _ (List.mem_append_right _ (List.mem_append_right _ (List.mem_append_right _ (List.mem_append_left _ (tq_5 ▸ (List.mem_append_right _ (List.mem_append_right _ (List.mem_append_right _ (List.mem_append_right _ (List.mem_append_right _ (List.mem_append_right _ (List.mem_append_right _ (List.mem_append_right _ (List.mem_append_right _ (List.mem_append_right _ (List.mem_append_right _ (List.mem_append_right _ (List.mem_append_right _ (List.mem_append_right _ (h))))))))))))))) : w ∈ tables_1_5)))))
def gl_6_0 : List Cond := [(Jvm.Cond.privateMethod ({ cls := "HuntersIntroducedModel", name := "lotSeasons", desc := "(II)I" } : Jvm.MethodName)), (Jvm.Cond.instanceMethod ({ cls := "HuntersIntroducedModel", name := "lotSeasons", desc := "(II)I" } : Jvm.MethodName)), (Jvm.Cond.code ({ cls := "HuntersIntroducedModel", name := "lotSeasons", desc := "(II)I" } : Jvm.MethodName) prog_10_method_81_code (7 : Nat) (Option.some Jvm.ClassFile.FieldType.int)), (Jvm.Cond.constantLong "HuntersIntroducedModel" (275 : Nat) (48271 : Int64)), (Jvm.Cond.constantLong "HuntersIntroducedModel" (277 : Nat) (2147483647 : Int64)), (Jvm.Cond.constantLong "HuntersIntroducedModel" (279 : Nat) (6 : Int64)), (Jvm.Cond.constantLong "HuntersIntroducedModel" (281 : Nat) (10 : Int64)), (Jvm.Cond.methodLink "HuntersIntroducedLaw" (152 : Nat) ({ cls := "HuntersIntroducedModel", name := "odds", desc := "(IIII)J" } : Jvm.MethodName)), (Jvm.Cond.instanceMethod ({ cls := "HuntersIntroducedModel", name := "odds", desc := "(IIII)J" } : Jvm.MethodName)), (Jvm.Cond.selects "HuntersIntroducedModel" ({ cls := "HuntersIntroducedModel", name := "odds", desc := "(IIII)J" } : Jvm.MethodName) ({ cls := "HuntersIntroducedModel", name := "odds", desc := "(IIII)J" } : Jvm.MethodName)), (Jvm.Cond.code ({ cls := "HuntersIntroducedModel", name := "odds", desc := "(IIII)J" } : Jvm.MethodName) prog_10_method_83_code (8 : Nat) (Option.some Jvm.ClassFile.FieldType.long)), (Jvm.Cond.methodLink "HuntersIntroducedLaw" (156 : Nat) ({ cls := "HuntersIntroducedModel", name := "image", desc := "()I" } : Jvm.MethodName)), (Jvm.Cond.instanceMethod ({ cls := "HuntersIntroducedModel", name := "image", desc := "()I" } : Jvm.MethodName)), (Jvm.Cond.selects "HuntersIntroducedModel" ({ cls := "HuntersIntroducedModel", name := "image", desc := "()I" } : Jvm.MethodName) ({ cls := "HuntersIntroducedModel", name := "image", desc := "()I" } : Jvm.MethodName)), (Jvm.Cond.code ({ cls := "HuntersIntroducedModel", name := "image", desc := "()I" } : Jvm.MethodName) prog_10_method_84_code (2 : Nat) (Option.some Jvm.ClassFile.FieldType.int)), (Jvm.Cond.methodLink "HuntersIntroducedLaw" (160 : Nat) ({ cls := "HuntersIntroducedModel", name := "back", desc := "()I" } : Jvm.MethodName))]
def gl_6_1 : List Cond := [(Jvm.Cond.instanceMethod ({ cls := "HuntersIntroducedModel", name := "back", desc := "()I" } : Jvm.MethodName)), (Jvm.Cond.selects "HuntersIntroducedModel" ({ cls := "HuntersIntroducedModel", name := "back", desc := "()I" } : Jvm.MethodName) ({ cls := "HuntersIntroducedModel", name := "back", desc := "()I" } : Jvm.MethodName)), (Jvm.Cond.code ({ cls := "HuntersIntroducedModel", name := "back", desc := "()I" } : Jvm.MethodName) prog_10_method_85_code (2 : Nat) (Option.some Jvm.ClassFile.FieldType.int)), (Jvm.Cond.methodLink "HuntersIntroducedLaw" (164 : Nat) ({ cls := "HuntersIntroducedModel", name := "sheet", desc := "(III)I" } : Jvm.MethodName)), (Jvm.Cond.instanceMethod ({ cls := "HuntersIntroducedModel", name := "sheet", desc := "(III)I" } : Jvm.MethodName)), (Jvm.Cond.selects "HuntersIntroducedModel" ({ cls := "HuntersIntroducedModel", name := "sheet", desc := "(III)I" } : Jvm.MethodName) ({ cls := "HuntersIntroducedModel", name := "sheet", desc := "(III)I" } : Jvm.MethodName)), (Jvm.Cond.code ({ cls := "HuntersIntroducedModel", name := "sheet", desc := "(III)I" } : Jvm.MethodName) prog_10_method_86_code (5 : Nat) (Option.some Jvm.ClassFile.FieldType.int)), (Jvm.Cond.methodLink "HuntersIntroducedLaw" (168 : Nat) ({ cls := "HuntersIntroducedModel", name := "cell", desc := "(III)I" } : Jvm.MethodName)), (Jvm.Cond.instanceMethod ({ cls := "HuntersIntroducedModel", name := "cell", desc := "(III)I" } : Jvm.MethodName)), (Jvm.Cond.selects "HuntersIntroducedModel" ({ cls := "HuntersIntroducedModel", name := "cell", desc := "(III)I" } : Jvm.MethodName) ({ cls := "HuntersIntroducedModel", name := "cell", desc := "(III)I" } : Jvm.MethodName)), (Jvm.Cond.code ({ cls := "HuntersIntroducedModel", name := "cell", desc := "(III)I" } : Jvm.MethodName) prog_10_method_87_code (4 : Nat) (Option.some Jvm.ClassFile.FieldType.int)), (Jvm.Cond.methodLink "HuntersIntroducedLaw" (173 : Nat) ({ cls := "HuntersIntroducedModel", name := "copy", desc := "(IIIII)I" } : Jvm.MethodName)), (Jvm.Cond.instanceMethod ({ cls := "HuntersIntroducedModel", name := "copy", desc := "(IIIII)I" } : Jvm.MethodName)), (Jvm.Cond.selects "HuntersIntroducedModel" ({ cls := "HuntersIntroducedModel", name := "copy", desc := "(IIIII)I" } : Jvm.MethodName) ({ cls := "HuntersIntroducedModel", name := "copy", desc := "(IIIII)I" } : Jvm.MethodName)), (Jvm.Cond.code ({ cls := "HuntersIntroducedModel", name := "copy", desc := "(IIIII)I" } : Jvm.MethodName) prog_10_method_88_code (10 : Nat) (Option.some Jvm.ClassFile.FieldType.int)), (Jvm.Cond.methodLink "HuntersIntroducedLaw" (177 : Nat) ({ cls := "HuntersIntroducedModel", name := "huntersBy", desc := "(IIII)I" } : Jvm.MethodName))]
def gl_6_2 : List Cond := [(Jvm.Cond.instanceMethod ({ cls := "HuntersIntroducedModel", name := "huntersBy", desc := "(IIII)I" } : Jvm.MethodName)), (Jvm.Cond.selects "HuntersIntroducedModel" ({ cls := "HuntersIntroducedModel", name := "huntersBy", desc := "(IIII)I" } : Jvm.MethodName) ({ cls := "HuntersIntroducedModel", name := "huntersBy", desc := "(IIII)I" } : Jvm.MethodName)), (Jvm.Cond.code ({ cls := "HuntersIntroducedModel", name := "huntersBy", desc := "(IIII)I" } : Jvm.MethodName) prog_10_method_89_code (9 : Nat) (Option.some Jvm.ClassFile.FieldType.int)), (Jvm.Cond.methodLink "HuntersIntroducedModel" (291 : Nat) ({ cls := "HuntersIntroducedModel", name := "hunter", desc := "(III)I" } : Jvm.MethodName)), (Jvm.Cond.methodLink "HuntersIntroducedLaw" (181 : Nat) ({ cls := "HuntersIntroducedModel", name := "taken", desc := "(II)I" } : Jvm.MethodName)), (Jvm.Cond.instanceMethod ({ cls := "HuntersIntroducedModel", name := "taken", desc := "(II)I" } : Jvm.MethodName)), (Jvm.Cond.selects "HuntersIntroducedModel" ({ cls := "HuntersIntroducedModel", name := "taken", desc := "(II)I" } : Jvm.MethodName) ({ cls := "HuntersIntroducedModel", name := "taken", desc := "(II)I" } : Jvm.MethodName)), (Jvm.Cond.code ({ cls := "HuntersIntroducedModel", name := "taken", desc := "(II)I" } : Jvm.MethodName) prog_10_method_91_code (4 : Nat) (Option.some Jvm.ClassFile.FieldType.int)), (Jvm.Cond.methodLink "HuntersIntroducedModel" (294 : Nat) ({ cls := "HuntersIntroducedModel", name := "isUnder", desc := "(II)Z" } : Jvm.MethodName)), (Jvm.Cond.static ({ cls := "HuntersIntroducedModel", name := "isUnder", desc := "(II)Z" } : Jvm.MethodName)), (Jvm.Cond.code ({ cls := "HuntersIntroducedModel", name := "isUnder", desc := "(II)Z" } : Jvm.MethodName) prog_10_method_90_code (2 : Nat) (Option.some Jvm.ClassFile.FieldType.boolean)), (Jvm.Cond.fieldLink "java/lang/String" (9 : Nat) "java/lang/String" "value" "[B"), (Jvm.Cond.fieldLink "java/lang/String" (15 : Nat) "java/lang/String" "coder" "B")]
set_option maxRecDepth 100000 in
theorem tq_6 : tables_1_6 = gl_6_0 ++ (gl_6_1 ++ (gl_6_2)) := rfl
theorem ck_6_0 : ∀ w ∈ gl_6_0, w ∈ tables_1 := fun w h => List.mem_append_right _ (List.mem_append_right _ (List.mem_append_right _ (List.mem_append_right _ (List.mem_append_right _ ((tq_6 ▸ (List.mem_append_left _ h) : w ∈ tables_1_6))))))
theorem ck_6_1 : ∀ w ∈ gl_6_1, w ∈ tables_1 := fun w h => List.mem_append_right _ (List.mem_append_right _ (List.mem_append_right _ (List.mem_append_right _ (List.mem_append_right _ ((tq_6 ▸ (List.mem_append_right _ (List.mem_append_left _ h)) : w ∈ tables_1_6))))))
theorem ck_6_2 : ∀ w ∈ gl_6_2, w ∈ tables_1 := fun w h => List.mem_append_right _ (List.mem_append_right _ (List.mem_append_right _ (List.mem_append_right _ (List.mem_append_right _ ((tq_6 ▸ (List.mem_append_right _ (List.mem_append_right _ (h))) : w ∈ tables_1_6))))))
theorem wi_RL : Cond.initialized RL ∈ g_T := g_in2 (l := gl_1_0) 0 ck_1_0 rfl rfl
theorem wi_RX7 : Cond.initialized RX7 ∈ g_T := g_in2 (l := gl_1_0) 1 ck_1_0 rfl rfl
theorem wi_RX0 : Cond.initialized RX0 ∈ g_T := g_in2 (l := gl_1_0) 2 ck_1_0 rfl rfl
theorem wi_RX2 : Cond.initialized RX2 ∈ g_T := g_in2 (l := gl_1_0) 3 ck_1_0 rfl rfl
theorem wi_RX3 : Cond.initialized RX3 ∈ g_T := g_in2 (l := gl_1_0) 4 ck_1_0 rfl rfl
theorem wi_RX6 : Cond.initialized RX6 ∈ g_T := g_in2 (l := gl_1_0) 5 ck_1_0 rfl rfl
theorem wi_RX1 : Cond.initialized RX1 ∈ g_T := g_in2 (l := gl_1_0) 6 ck_1_0 rfl rfl
theorem wi_RX4 : Cond.initialized RX4 ∈ g_T := g_in2 (l := gl_1_0) 7 ck_1_0 rfl rfl
theorem wi_RJ0 : Cond.initialized RJ0 ∈ g_T := g_in2 (l := gl_1_0) 8 ck_1_0 rfl rfl
theorem wi_RJ1 : Cond.initialized RJ1 ∈ g_T := g_in2 (l := gl_1_0) 9 ck_1_0 rfl rfl
theorem wi_RJ3 : Cond.initialized RJ3 ∈ g_T := g_in2 (l := gl_1_0) 10 ck_1_0 rfl rfl
theorem wi_RJ2 : Cond.initialized RJ2 ∈ g_T := g_in2 (l := gl_1_0) 11 ck_1_0 rfl rfl
theorem wi_RX5 : Cond.initialized RX5 ∈ g_T := g_in2 (l := gl_1_0) 12 ck_1_0 rfl rfl
theorem wi_RJ10 : Cond.initialized RJ10 ∈ g_T := g_in2 (l := gl_1_0) 13 ck_1_0 rfl rfl
theorem wi_RX8 : Cond.initialized RX8 ∈ g_T := g_in2 (l := gl_1_0) 14 ck_1_0 rfl rfl
theorem wi_RJ6 : Cond.initialized RJ6 ∈ g_T := g_in2 (l := gl_1_0) 15 ck_1_0 rfl rfl
theorem wi_RJ9 : Cond.initialized RJ9 ∈ g_T := g_in2 (l := gl_1_1) 0 ck_1_1 rfl rfl
theorem wm_RX0 : Cond.instantiable RX0 11 ∈ g_T := g_in2 (l := gl_1_1) 10 ck_1_1 rfl rfl
theorem wm_RX1 : Cond.instantiable RX1 1 ∈ g_T := g_in2 (l := gl_1_10) 7 ck_1_10 rfl rfl
theorem wm_RX2 : Cond.instantiable RX2 11 ∈ g_T := g_in2 (l := gl_1_5) 10 ck_1_5 rfl rfl
theorem wm_RX3 : Cond.instantiable RX3 4 ∈ g_T := g_in2 (l := gl_1_8) 3 ck_1_8 rfl rfl
theorem wm_RX4 : Cond.instantiable RX4 3 ∈ g_T := g_in2 (l := gl_1_11) 2 ck_1_11 rfl rfl
theorem wm_RX5 : Cond.instantiable RX5 2 ∈ g_T := g_in2 (l := gl_2_5) 13 ck_2_5 rfl rfl
theorem wm_RX6 : Cond.instantiable RX6 2 ∈ g_T := g_in2 (l := gl_1_9) 9 ck_1_9 rfl rfl
theorem wm_RX7 : Cond.instantiable RX7 9 ∈ g_T := g_in2 (l := gl_1_1) 2 ck_1_1 rfl rfl
theorem wm_RX8 : Cond.instantiable RX8 36 ∈ g_T := g_in2 (l := gl_4_3) 5 ck_4_3 rfl rfl
abbrev YX0_init : g_Y := (yX0_init, cX0_init, 1, none)
theorem ok_X0_init : g_okI YX0_init 0 := ⟨⟨g_in2 (l := gl_1_1) 13 ck_1_1 rfl rfl, wi_RX0, ⟨by decide, by decide, by decide +kernel⟩, by decide⟩, g_in2 (l := gl_1_1) 12 ck_1_1 rfl rfl, rfl, rfl⟩
abbrev YX0_become : g_Y := (yX0_become, cX0_become, 2, none)
theorem ok_X0_become : g_okV YX0_become 1 := ⟨⟨g_in2 (l := gl_3_9) 5 ck_3_9 rfl rfl, wi_RX0, ⟨by decide, by decide, by decide +kernel⟩, by decide⟩, g_in2 (l := gl_3_9) 3 ck_3_9 rfl rfl, g_in2 (l := gl_3_9) 4 ck_3_9 rfl rfl⟩
abbrev YX0_add : g_Y := (yX0_add, cX0_add, 6, (some .int))
theorem ok_X0_add : g_okV YX0_add 4 := ⟨⟨g_in2 (l := gl_2_14) 9 ck_2_14 rfl rfl, wi_RX0, ⟨by decide, by decide, by decide +kernel⟩, by decide⟩, g_in2 (l := gl_2_14) 7 ck_2_14 rfl rfl, g_in2 (l := gl_2_14) 8 ck_2_14 rfl rfl⟩
abbrev YX0_isAlive : g_Y := (yX0_isAlive, cX0_isAlive, 2, (some .boolean))
theorem ok_X0_isAlive : g_okV YX0_isAlive 1 := ⟨⟨g_in2 (l := gl_2_10) 15 ck_2_10 rfl rfl, wi_RX0, ⟨by decide, by decide, by decide +kernel⟩, by decide⟩, g_in2 (l := gl_2_10) 13 ck_2_10 rfl rfl, g_in2 (l := gl_2_10) 14 ck_2_10 rfl rfl⟩
abbrev YX0_setAlive : g_Y := (yX0_setAlive, cX0_setAlive, 3, none)
theorem ok_X0_setAlive : g_okV YX0_setAlive 2 := ⟨⟨g_in2 (l := gl_2_11) 3 ck_2_11 rfl rfl, wi_RX0, ⟨by decide, by decide, by decide +kernel⟩, by decide⟩, g_in2 (l := gl_2_11) 1 ck_2_11 rfl rfl, g_in2 (l := gl_2_11) 2 ck_2_11 rfl rfl⟩
abbrev YX0_hasCard : g_Y := (yX0_hasCard, cX0_hasCard, 3, (some .boolean))
theorem ok_X0_hasCard : g_okV YX0_hasCard 2 := ⟨⟨g_in2 (l := gl_3_3) 2 ck_3_3 rfl rfl, wi_RX0, ⟨by decide, by decide, by decide +kernel⟩, by decide⟩, g_in2 (l := gl_3_3) 0 ck_3_3 rfl rfl, g_in2 (l := gl_3_3) 1 ck_3_3 rfl rfl⟩
abbrev YX0_turnCard : g_Y := (yX0_turnCard, cX0_turnCard, 3, none)
theorem ok_X0_turnCard : g_okV YX0_turnCard 2 := ⟨⟨g_in2 (l := gl_3_4) 4 ck_3_4 rfl rfl, wi_RX0, ⟨by decide, by decide, by decide +kernel⟩, by decide⟩, g_in2 (l := gl_3_4) 2 ck_3_4 rfl rfl, g_in2 (l := gl_3_4) 3 ck_3_4 rfl rfl⟩
abbrev YX0_haveMet : g_Y := (yX0_haveMet, cX0_haveMet, 3, (some .boolean))
theorem ok_X0_haveMet : g_okV YX0_haveMet 2 := ⟨⟨g_in2 (l := gl_3_0) 1 ck_3_0 rfl rfl, wi_RX0, ⟨by decide, by decide, by decide +kernel⟩, by decide⟩, g_in2 (l := gl_2_14) 15 ck_2_14 rfl rfl, g_in2 (l := gl_3_0) 0 ck_3_0 rfl rfl⟩
abbrev YX0_setMet : g_Y := (yX0_setMet, cX0_setMet, 4, none)
theorem ok_X0_setMet : g_okV YX0_setMet 3 := ⟨⟨g_in2 (l := gl_3_0) 5 ck_3_0 rfl rfl, wi_RX0, ⟨by decide, by decide, by decide +kernel⟩, by decide⟩, g_in2 (l := gl_3_0) 3 ck_3_0 rfl rfl, g_in2 (l := gl_3_0) 4 ck_3_0 rfl rfl⟩
abbrev YX0_holders : g_Y := (yX0_holders, cX0_holders, 4, (some .int))
theorem ok_X0_holders : g_okV YX0_holders 1 := ⟨⟨g_in2 (l := gl_2_11) 11 ck_2_11 rfl rfl, wi_RX0, ⟨by decide, by decide, by decide +kernel⟩, by decide⟩, g_in2 (l := gl_2_11) 9 ck_2_11 rfl rfl, g_in2 (l := gl_2_11) 10 ck_2_11 rfl rfl⟩
abbrev YX0_honourByHit : g_Y := (yX0_honourByHit, cX0_honourByHit, 3, (some .int))
theorem ok_X0_honourByHit : g_okV YX0_honourByHit 2 := ⟨⟨g_in2 (l := gl_3_7) 6 ck_3_7 rfl rfl, wi_RX0, ⟨by decide, by decide, by decide +kernel⟩, by decide⟩, g_in2 (l := gl_3_7) 4 ck_3_7 rfl rfl, g_in2 (l := gl_3_7) 5 ck_3_7 rfl rfl⟩
abbrev YX1_init : g_Y := (yX1_init, cX1_init, 1, none)
theorem ok_X1_init : g_okI YX1_init 0 := ⟨⟨g_in2 (l := gl_1_10) 10 ck_1_10 rfl rfl, wi_RX1, ⟨by decide, by decide, by decide +kernel⟩, by decide⟩, g_in2 (l := gl_1_10) 9 ck_1_10 rfl rfl, rfl, rfl⟩
abbrev YX1_begin : g_Y := (yX1_begin, cX1_begin, 2, none)
theorem ok_X1_begin : g_okV YX1_begin 1 := ⟨⟨g_in2 (l := gl_4_0) 6 ck_4_0 rfl rfl, wi_RX1, ⟨by decide, by decide, by decide +kernel⟩, by decide⟩, g_in2 (l := gl_4_0) 4 ck_4_0 rfl rfl, g_in2 (l := gl_4_0) 5 ck_4_0 rfl rfl⟩
abbrev YX1_next : g_Y := (yX1_next, cX1_next, 2, (some .int))
theorem ok_X1_next : g_okV YX1_next 1 := ⟨⟨g_in2 (l := gl_4_0) 10 ck_4_0 rfl rfl, wi_RX1, ⟨by decide, by decide, by decide +kernel⟩, by decide⟩, g_in2 (l := gl_4_0) 8 ck_4_0 rfl rfl, g_in2 (l := gl_4_0) 9 ck_4_0 rfl rfl⟩
abbrev YX2_init : g_Y := (yX2_init, cX2_init, 1, none)
theorem ok_X2_init : g_okI YX2_init 0 := ⟨⟨g_in2 (l := gl_1_5) 13 ck_1_5 rfl rfl, wi_RX2, ⟨by decide, by decide, by decide +kernel⟩, by decide⟩, g_in2 (l := gl_1_5) 12 ck_1_5 rfl rfl, rfl, rfl⟩
abbrev YX2_add : g_Y := (yX2_add, cX2_add, 2, none)
theorem ok_X2_add : g_okV YX2_add 1 := ⟨⟨g_in2 (l := gl_2_0) 8 ck_2_0 rfl rfl, wi_RX2, ⟨by decide, by decide, by decide +kernel⟩, by decide⟩, g_in2 (l := gl_2_0) 6 ck_2_0 rfl rfl, g_in2 (l := gl_2_0) 7 ck_2_0 rfl rfl⟩
abbrev YX2_clear : g_Y := (yX2_clear, cX2_clear, 1, none)
theorem ok_X2_clear : g_okV YX2_clear 0 := ⟨⟨g_in2 (l := gl_2_7) 11 ck_2_7 rfl rfl, wi_RX2, ⟨by decide, by decide, by decide +kernel⟩, by decide⟩, g_in2 (l := gl_2_7) 9 ck_2_7 rfl rfl, g_in2 (l := gl_2_7) 10 ck_2_7 rfl rfl⟩
abbrev YX2_read : g_Y := (yX2_read, cX2_read, 2, (some .int))
theorem ok_X2_read : g_okV YX2_read 0 := ⟨⟨g_in2 (l := gl_2_0) 12 ck_2_0 rfl rfl, wi_RX2, ⟨by decide, by decide, by decide +kernel⟩, by decide⟩, g_in2 (l := gl_2_0) 10 ck_2_0 rfl rfl, g_in2 (l := gl_2_0) 11 ck_2_0 rfl rfl⟩
abbrev YX2_asText : g_Y := (yX2_asText, cX2_asText, 1, (some (.object "HuntersIntroduced$Text")))
theorem ok_X2_asText : g_okV YX2_asText 0 := ⟨⟨g_in2 (l := gl_2_5) 11 ck_2_5 rfl rfl, wi_RX2, ⟨by decide, by decide, by decide +kernel⟩, by decide⟩, g_in2 (l := gl_2_5) 9 ck_2_5 rfl rfl, g_in2 (l := gl_2_5) 10 ck_2_5 rfl rfl⟩
abbrev YX2_scan : g_Y := (yX2_scan, cX2_scan, 3, none)
theorem ok_X2_scan : g_okV YX2_scan 0 := ⟨⟨g_in2 (l := gl_2_1) 0 ck_2_1 rfl rfl, wi_RX2, ⟨by decide, by decide, by decide +kernel⟩, by decide⟩, g_in2 (l := gl_2_0) 15 ck_2_0 rfl rfl, g_inS (by decide +kernel) rfl⟩
abbrev YX2_endFrom : g_Y := (yX2_endFrom, cX2_endFrom, 5, (some .int))
theorem ok_X2_endFrom : g_okV YX2_endFrom 1 := ⟨⟨g_in2 (l := gl_2_1) 4 ck_2_1 rfl rfl, wi_RX2, ⟨by decide, by decide, by decide +kernel⟩, by decide⟩, g_in2 (l := gl_2_1) 3 ck_2_1 rfl rfl, g_inS (by decide +kernel) rfl⟩
abbrev YX2_sortOf : g_Y := (yX2_sortOf, cX2_sortOf, 1, (some .int))
theorem ok_X2_sortOf : g_okT YX2_sortOf 1 := ⟨⟨g_in2 (l := gl_2_1) 7 ck_2_1 rfl rfl, wi_RX2, ⟨by decide, by decide, by decide +kernel⟩, by decide⟩, g_in2 (l := gl_2_1) 6 ck_2_1 rfl rfl⟩
abbrev YX2_tokenOf : g_Y := (yX2_tokenOf, cX2_tokenOf, 3, (some .int))
theorem ok_X2_tokenOf : g_okV YX2_tokenOf 2 := ⟨⟨g_in2 (l := gl_2_1) 11 ck_2_1 rfl rfl, wi_RX2, ⟨by decide, by decide, by decide +kernel⟩, by decide⟩, g_in2 (l := gl_2_1) 10 ck_2_1 rfl rfl, g_inS (by decide +kernel) rfl⟩
abbrev YX2_isSign : g_Y := (yX2_isSign, cX2_isSign, 1, (some .boolean))
theorem ok_X2_isSign : g_okT YX2_isSign 1 := ⟨⟨g_in2 (l := gl_2_3) 8 ck_2_3 rfl rfl, wi_RX2, ⟨by decide, by decide, by decide +kernel⟩, by decide⟩, g_in2 (l := gl_2_3) 7 ck_2_3 rfl rfl⟩
abbrev YX2_numberFrom : g_Y := (yX2_numberFrom, cX2_numberFrom, 5, (some .int))
theorem ok_X2_numberFrom : g_okV YX2_numberFrom 2 := ⟨⟨g_in2 (l := gl_2_3) 5 ck_2_3 rfl rfl, wi_RX2, ⟨by decide, by decide, by decide +kernel⟩, by decide⟩, g_in2 (l := gl_2_3) 4 ck_2_3 rfl rfl, g_inS (by decide +kernel) rfl⟩
abbrev YX2_wordFrom : g_Y := (yX2_wordFrom, cX2_wordFrom, 3, (some .int))
theorem ok_X2_wordFrom : g_okV YX2_wordFrom 2 := ⟨⟨g_in2 (l := gl_2_1) 15 ck_2_1 rfl rfl, wi_RX2, ⟨by decide, by decide, by decide +kernel⟩, by decide⟩, g_in2 (l := gl_2_1) 14 ck_2_1 rfl rfl, g_inS (by decide +kernel) rfl⟩
abbrev YX2_stands : g_Y := (yX2_stands, cX2_stands, 5, (some .boolean))
theorem ok_X2_stands : g_okV YX2_stands 3 := ⟨⟨g_in2 (l := gl_2_2) 4 ck_2_2 rfl rfl, wi_RX2, ⟨by decide, by decide, by decide +kernel⟩, by decide⟩, g_in2 (l := gl_2_2) 3 ck_2_2 rfl rfl, g_inS (by decide +kernel) rfl⟩
abbrev YX2_advance : g_Y := (yX2_advance, cX2_advance, 1, none)
theorem ok_X2_advance : g_okV YX2_advance 0 := ⟨⟨g_in2 (l := gl_2_4) 0 ck_2_4 rfl rfl, wi_RX2, ⟨by decide, by decide, by decide +kernel⟩, by decide⟩, g_in2 (l := gl_2_3) 15 ck_2_3 rfl rfl, g_inS (by decide +kernel) rfl⟩
abbrev YX2_fail : g_Y := (yX2_fail, cX2_fail, 1, none)
theorem ok_X2_fail : g_okV YX2_fail 0 := ⟨⟨g_in2 (l := gl_2_4) 4 ck_2_4 rfl rfl, wi_RX2, ⟨by decide, by decide, by decide +kernel⟩, by decide⟩, g_in2 (l := gl_2_4) 3 ck_2_4 rfl rfl, g_inS (by decide +kernel) rfl⟩
abbrev YX2_expect : g_Y := (yX2_expect, cX2_expect, 2, none)
theorem ok_X2_expect : g_okV YX2_expect 1 := ⟨⟨g_in2 (l := gl_2_3) 12 ck_2_3 rfl rfl, wi_RX2, ⟨by decide, by decide, by decide +kernel⟩, by decide⟩, g_in2 (l := gl_2_3) 11 ck_2_3 rfl rfl, g_inS (by decide +kernel) rfl⟩
abbrev YX2_opens : g_Y := (yX2_opens, cX2_opens, 2, (some .boolean))
theorem ok_X2_opens : g_okV YX2_opens 1 := ⟨⟨g_in2 (l := gl_2_5) 4 ck_2_5 rfl rfl, wi_RX2, ⟨by decide, by decide, by decide +kernel⟩, by decide⟩, g_in2 (l := gl_2_5) 3 ck_2_5 rfl rfl, g_inS (by decide +kernel) rfl⟩
abbrev YX2_emit : g_Y := (yX2_emit, cX2_emit, 2, none)
theorem ok_X2_emit : g_okV YX2_emit 1 := ⟨⟨g_in2 (l := gl_2_5) 0 ck_2_5 rfl rfl, wi_RX2, ⟨by decide, by decide, by decide +kernel⟩, by decide⟩, g_in2 (l := gl_2_4) 15 ck_2_4 rfl rfl, g_inS (by decide +kernel) rfl⟩
abbrev YX2_rankOf : g_Y := (yX2_rankOf, cX2_rankOf, 1, (some .int))
theorem ok_X2_rankOf : g_okT YX2_rankOf 1 := ⟨⟨g_in2 (l := gl_2_5) 7 ck_2_5 rfl rfl, wi_RX2, ⟨by decide, by decide, by decide +kernel⟩, by decide⟩, g_in2 (l := gl_2_5) 6 ck_2_5 rfl rfl⟩
abbrev YX2_join : g_Y := (yX2_join, cX2_join, 6, none)
theorem ok_X2_join : g_okV YX2_join 2 := ⟨⟨g_in2 (l := gl_2_4) 8 ck_2_4 rfl rfl, wi_RX2, ⟨by decide, by decide, by decide +kernel⟩, by decide⟩, g_in2 (l := gl_2_4) 7 ck_2_4 rfl rfl, g_inS (by decide +kernel) rfl⟩
abbrev YX2_one : g_Y := (yX2_one, cX2_one, 2, none)
theorem ok_X2_one : g_okV YX2_one 1 := ⟨⟨g_in2 (l := gl_2_4) 12 ck_2_4 rfl rfl, wi_RX2, ⟨by decide, by decide, by decide +kernel⟩, by decide⟩, g_in2 (l := gl_2_4) 11 ck_2_4 rfl rfl, g_inS (by decide +kernel) rfl⟩
abbrev YX3_init : g_Y := (yX3_init, cX3_init, 1, none)
theorem ok_X3_init : g_okI YX3_init 0 := ⟨⟨g_in2 (l := gl_1_8) 6 ck_1_8 rfl rfl, wi_RX3, ⟨by decide, by decide, by decide +kernel⟩, by decide⟩, g_in2 (l := gl_1_8) 5 ck_1_8 rfl rfl, rfl, rfl⟩
abbrev YX3_add : g_Y := (yX3_add, cX3_add, 2, (some .int))
theorem ok_X3_add : g_okV YX3_add 1 := ⟨⟨g_in2 (l := gl_2_7) 7 ck_2_7 rfl rfl, wi_RX3, ⟨by decide, by decide, by decide +kernel⟩, by decide⟩, g_in2 (l := gl_2_7) 5 ck_2_7 rfl rfl, g_in2 (l := gl_2_7) 6 ck_2_7 rfl rfl⟩
abbrev YX3_says : g_Y := (yX3_says, cX3_says, 7, (some .int))
theorem ok_X3_says : g_okV YX3_says 4 := ⟨⟨g_in2 (l := gl_2_13) 6 ck_2_13 rfl rfl, wi_RX3, ⟨by decide, by decide, by decide +kernel⟩, by decide⟩, g_in2 (l := gl_2_13) 4 ck_2_13 rfl rfl, g_in2 (l := gl_2_13) 5 ck_2_13 rfl rfl⟩
abbrev YX3_isOfKind : g_Y := (yX3_isOfKind, cX3_isOfKind, 2, (some .boolean))
theorem ok_X3_isOfKind : g_okT YX3_isOfKind 2 := ⟨⟨g_in2 (l := gl_3_1) 4 ck_3_1 rfl rfl, wi_RX3, ⟨by decide, by decide, by decide +kernel⟩, by decide⟩, g_in2 (l := gl_3_1) 3 ck_3_1 rfl rfl⟩
abbrev YX3_isWilling : g_Y := (yX3_isWilling, cX3_isWilling, 4, (some .boolean))
theorem ok_X3_isWilling : g_okV YX3_isWilling 2 := ⟨⟨g_in2 (l := gl_3_1) 1 ck_3_1 rfl rfl, wi_RX3, ⟨by decide, by decide, by decide +kernel⟩, by decide⟩, g_in2 (l := gl_3_0) 15 ck_3_0 rfl rfl, g_in2 (l := gl_3_1) 0 ck_3_1 rfl rfl⟩
abbrev YX3_gainOf : g_Y := (yX3_gainOf, cX3_gainOf, 4, (some .int))
theorem ok_X3_gainOf : g_okV YX3_gainOf 2 := ⟨⟨g_in2 (l := gl_3_1) 9 ck_3_1 rfl rfl, wi_RX3, ⟨by decide, by decide, by decide +kernel⟩, by decide⟩, g_in2 (l := gl_3_1) 7 ck_3_1 rfl rfl, g_in2 (l := gl_3_1) 8 ck_3_1 rfl rfl⟩
abbrev YX3_aimOf : g_Y := (yX3_aimOf, cX3_aimOf, 8, (some .int))
theorem ok_X3_aimOf : g_okV YX3_aimOf 3 := ⟨⟨g_in2 (l := gl_3_2) 14 ck_3_2 rfl rfl, wi_RX3, ⟨by decide, by decide, by decide +kernel⟩, by decide⟩, g_in2 (l := gl_3_2) 12 ck_3_2 rfl rfl, g_in2 (l := gl_3_2) 13 ck_3_2 rfl rfl⟩
abbrev YX3_reward : g_Y := (yX3_reward, cX3_reward, 4, (some .int))
theorem ok_X3_reward : g_okV YX3_reward 2 := ⟨⟨g_in2 (l := gl_3_3) 10 ck_3_3 rfl rfl, wi_RX3, ⟨by decide, by decide, by decide +kernel⟩, by decide⟩, g_in2 (l := gl_3_3) 8 ck_3_3 rfl rfl, g_in2 (l := gl_3_3) 9 ck_3_3 rfl rfl⟩
abbrev YX3_shotNow : g_Y := (yX3_shotNow, cX3_shotNow, 4, (some .int))
theorem ok_X3_shotNow : g_okV YX3_shotNow 3 := ⟨⟨g_in2 (l := gl_3_7) 0 ck_3_7 rfl rfl, wi_RX3, ⟨by decide, by decide, by decide +kernel⟩, by decide⟩, g_in2 (l := gl_3_6) 14 ck_3_6 rfl rfl, g_in2 (l := gl_3_6) 15 ck_3_6 rfl rfl⟩
abbrev YX3_shot : g_Y := (yX3_shot, cX3_shot, 5, (some .int))
theorem ok_X3_shot : g_okV YX3_shot 3 := ⟨⟨g_in2 (l := gl_3_6) 12 ck_3_6 rfl rfl, wi_RX3, ⟨by decide, by decide, by decide +kernel⟩, by decide⟩, g_in2 (l := gl_3_6) 10 ck_3_6 rfl rfl, g_in2 (l := gl_3_6) 11 ck_3_6 rfl rfl⟩
abbrev YX4_init : g_Y := (yX4_init, cX4_init, 1, none)
theorem ok_X4_init : g_okI YX4_init 0 := ⟨⟨g_in2 (l := gl_1_11) 5 ck_1_11 rfl rfl, wi_RX4, ⟨by decide, by decide, by decide +kernel⟩, by decide⟩, g_in2 (l := gl_1_11) 4 ck_1_11 rfl rfl, rfl, rfl⟩
abbrev YX4_become : g_Y := (yX4_become, cX4_become, 4, none)
theorem ok_X4_become : g_okV YX4_become 2 := ⟨⟨g_in2 (l := gl_3_14) 5 ck_3_14 rfl rfl, wi_RX4, ⟨by decide, by decide, by decide +kernel⟩, by decide⟩, g_in2 (l := gl_3_14) 3 ck_3_14 rfl rfl, g_in2 (l := gl_3_14) 4 ck_3_14 rfl rfl⟩
abbrev YX4_isMissing : g_Y := (yX4_isMissing, cX4_isMissing, 1, (some .boolean))
theorem ok_X4_isMissing : g_okV YX4_isMissing 0 := ⟨⟨g_in2 (l := gl_3_8) 12 ck_3_8 rfl rfl, wi_RX4, ⟨by decide, by decide, by decide +kernel⟩, by decide⟩, g_in2 (l := gl_3_8) 10 ck_3_8 rfl rfl, g_in2 (l := gl_3_8) 11 ck_3_8 rfl rfl⟩
abbrev YX4_holds : g_Y := (yX4_holds, cX4_holds, 3, (some .boolean))
theorem ok_X4_holds : g_okV YX4_holds 2 := ⟨⟨g_in2 (l := gl_4_2) 4 ck_4_2 rfl rfl, wi_RX4, ⟨by decide, by decide, by decide +kernel⟩, by decide⟩, g_in2 (l := gl_4_2) 2 ck_4_2 rfl rfl, g_in2 (l := gl_4_2) 3 ck_4_2 rfl rfl⟩
abbrev YX4_set : g_Y := (yX4_set, cX4_set, 3, none)
theorem ok_X4_set : g_okV YX4_set 2 := ⟨⟨g_in2 (l := gl_3_14) 9 ck_3_14 rfl rfl, wi_RX4, ⟨by decide, by decide, by decide +kernel⟩, by decide⟩, g_in2 (l := gl_3_14) 7 ck_3_14 rfl rfl, g_in2 (l := gl_3_14) 8 ck_3_14 rfl rfl⟩
abbrev YX4_tellsDeer : g_Y := (yX4_tellsDeer, cX4_tellsDeer, 2, (some .boolean))
theorem ok_X4_tellsDeer : g_okV YX4_tellsDeer 0 := ⟨⟨g_in2 (l := gl_3_9) 0 ck_3_9 rfl rfl, wi_RX4, ⟨by decide, by decide, by decide +kernel⟩, by decide⟩, g_in2 (l := gl_3_8) 14 ck_3_8 rfl rfl, g_in2 (l := gl_3_8) 15 ck_3_8 rfl rfl⟩
abbrev YX5_init : g_Y := (yX5_init, cX5_init, 4, none)
theorem ok_X5_init : g_okI YX5_init 3 := ⟨⟨g_in2 (l := gl_2_6) 0 ck_2_6 rfl rfl, wi_RX5, ⟨by decide, by decide, by decide +kernel⟩, by decide⟩, g_in2 (l := gl_2_5) 15 ck_2_5 rfl rfl, rfl, rfl⟩
abbrev YX5_value : g_Y := (yX5_value, cX5_value, 9, (some .int))
theorem ok_X5_value : g_okV YX5_value 3 := ⟨⟨g_in2 (l := gl_2_13) 11 ck_2_13 rfl rfl, wi_RX5, ⟨by decide, by decide, by decide +kernel⟩, by decide⟩, g_in2 (l := gl_2_13) 9 ck_2_13 rfl rfl, g_in2 (l := gl_2_13) 10 ck_2_13 rfl rfl⟩
abbrev YX6_init : g_Y := (yX6_init, cX6_init, 1, none)
theorem ok_X6_init : g_okI YX6_init 0 := ⟨⟨g_in2 (l := gl_1_9) 12 ck_1_9 rfl rfl, wi_RX6, ⟨by decide, by decide, by decide +kernel⟩, by decide⟩, g_in2 (l := gl_1_9) 11 ck_1_9 rfl rfl, rfl, rfl⟩
abbrev YX6_measure : g_Y := (yX6_measure, cX6_measure, 9, none)
theorem ok_X6_measure : g_okV YX6_measure 3 := ⟨⟨g_in2 (l := gl_3_2) 1 ck_3_2 rfl rfl, wi_RX6, ⟨by decide, by decide, by decide +kernel⟩, by decide⟩, g_in2 (l := gl_3_1) 15 ck_3_1 rfl rfl, g_in2 (l := gl_3_2) 0 ck_3_2 rfl rfl⟩
abbrev YX6_isWilling : g_Y := (yX6_isWilling, cX6_isWilling, 2, (some .boolean))
theorem ok_X6_isWilling : g_okV YX6_isWilling 1 := ⟨⟨g_in2 (l := gl_3_2) 6 ck_3_2 rfl rfl, wi_RX6, ⟨by decide, by decide, by decide +kernel⟩, by decide⟩, g_in2 (l := gl_3_2) 5 ck_3_2 rfl rfl, g_inS (by decide +kernel) rfl⟩
abbrev YX6_within : g_Y := (yX6_within, cX6_within, 7, (some .int))
theorem ok_X6_within : g_okV YX6_within 4 := ⟨⟨g_in2 (l := gl_3_4) 12 ck_3_4 rfl rfl, wi_RX6, ⟨by decide, by decide, by decide +kernel⟩, by decide⟩, g_in2 (l := gl_3_4) 10 ck_3_4 rfl rfl, g_in2 (l := gl_3_4) 11 ck_3_4 rfl rfl⟩
abbrev YX6_sponsorOf : g_Y := (yX6_sponsorOf, cX6_sponsorOf, 7, (some .int))
theorem ok_X6_sponsorOf : g_okV YX6_sponsorOf 3 := ⟨⟨g_in2 (l := gl_3_5) 5 ck_3_5 rfl rfl, wi_RX6, ⟨by decide, by decide, by decide +kernel⟩, by decide⟩, g_in2 (l := gl_3_5) 3 ck_3_5 rfl rfl, g_in2 (l := gl_3_5) 4 ck_3_5 rfl rfl⟩
abbrev YX6_pathTo : g_Y := (yX6_pathTo, cX6_pathTo, 7, (some .int))
theorem ok_X6_pathTo : g_okV YX6_pathTo 2 := ⟨⟨g_in2 (l := gl_3_5) 11 ck_3_5 rfl rfl, wi_RX6, ⟨by decide, by decide, by decide +kernel⟩, by decide⟩, g_in2 (l := gl_3_5) 9 ck_3_5 rfl rfl, g_in2 (l := gl_3_5) 10 ck_3_5 rfl rfl⟩
abbrev YX6_nearer : g_Y := (yX6_nearer, cX6_nearer, 4, (some .int))
theorem ok_X6_nearer : g_okV YX6_nearer 2 := ⟨⟨g_in2 (l := gl_3_5) 15 ck_3_5 rfl rfl, wi_RX6, ⟨by decide, by decide, by decide +kernel⟩, by decide⟩, g_in2 (l := gl_3_5) 14 ck_3_5 rfl rfl, g_inS (by decide +kernel) rfl⟩
abbrev YX6_sponsored : g_Y := (yX6_sponsored, cX6_sponsored, 6, (some .int))
theorem ok_X6_sponsored : g_okV YX6_sponsored 3 := ⟨⟨g_in2 (l := gl_3_1) 13 ck_3_1 rfl rfl, wi_RX6, ⟨by decide, by decide, by decide +kernel⟩, by decide⟩, g_in2 (l := gl_3_1) 11 ck_3_1 rfl rfl, g_in2 (l := gl_3_1) 12 ck_3_1 rfl rfl⟩
abbrev YX6_allSponsored : g_Y := (yX6_allSponsored, cX6_allSponsored, 5, (some .int))
theorem ok_X6_allSponsored : g_okV YX6_allSponsored 2 := ⟨⟨g_in2 (l := gl_3_10) 6 ck_3_10 rfl rfl, wi_RX6, ⟨by decide, by decide, by decide +kernel⟩, by decide⟩, g_in2 (l := gl_3_10) 4 ck_3_10 rfl rfl, g_in2 (l := gl_3_10) 5 ck_3_10 rfl rfl⟩
abbrev YX7_init : g_Y := (yX7_init, cX7_init, 2, none)
theorem ok_X7_init : g_okI YX7_init 0 := ⟨⟨g_in2 (l := gl_1_1) 5 ck_1_1 rfl rfl, wi_RX7, ⟨by decide, by decide, by decide +kernel⟩, by decide⟩, g_in2 (l := gl_1_1) 4 ck_1_1 rfl rfl, rfl, rfl⟩
abbrev YX7_count : g_Y := (yX7_count, cX7_count, 2, (some .int))
theorem ok_X7_count : g_okV YX7_count 1 := ⟨⟨g_in2 (l := gl_2_9) 11 ck_2_9 rfl rfl, wi_RX7, ⟨by decide, by decide, by decide +kernel⟩, by decide⟩, g_in2 (l := gl_2_9) 9 ck_2_9 rfl rfl, g_in2 (l := gl_2_9) 10 ck_2_9 rfl rfl⟩
abbrev YX7_forest : g_Y := (yX7_forest, cX7_forest, 6, (some .int))
theorem ok_X7_forest : g_okV YX7_forest 3 := ⟨⟨g_in2 (l := gl_2_10) 5 ck_2_10 rfl rfl, wi_RX7, ⟨by decide, by decide, by decide +kernel⟩, by decide⟩, g_in2 (l := gl_2_10) 3 ck_2_10 rfl rfl, g_in2 (l := gl_2_10) 4 ck_2_10 rfl rfl⟩
abbrev YX7_deer : g_Y := (yX7_deer, cX7_deer, 3, (some .int))
theorem ok_X7_deer : g_okV YX7_deer 2 := ⟨⟨g_in2 (l := gl_2_11) 7 ck_2_11 rfl rfl, wi_RX7, ⟨by decide, by decide, by decide +kernel⟩, by decide⟩, g_in2 (l := gl_2_11) 5 ck_2_11 rfl rfl, g_in2 (l := gl_2_11) 6 ck_2_11 rfl rfl⟩
abbrev YX7_feed : g_Y := (yX7_feed, cX7_feed, 8, (some .int))
theorem ok_X7_feed : g_okV YX7_feed 6 := ⟨⟨g_in2 (l := gl_2_11) 15 ck_2_11 rfl rfl, wi_RX7, ⟨by decide, by decide, by decide +kernel⟩, by decide⟩, g_in2 (l := gl_2_11) 13 ck_2_11 rfl rfl, g_in2 (l := gl_2_11) 14 ck_2_11 rfl rfl⟩
abbrev YX7_text : g_Y := (yX7_text, cX7_text, 2, (some .int))
theorem ok_X7_text : g_okV YX7_text 0 := ⟨⟨g_in2 (l := gl_2_12) 6 ck_2_12 rfl rfl, wi_RX7, ⟨by decide, by decide, by decide +kernel⟩, by decide⟩, g_in2 (l := gl_2_12) 4 ck_2_12 rfl rfl, g_in2 (l := gl_2_12) 5 ck_2_12 rfl rfl⟩
abbrev YX7_force : g_Y := (yX7_force, cX7_force, 3, (some .int))
theorem ok_X7_force : g_okV YX7_force 1 := ⟨⟨g_in2 (l := gl_2_12) 10 ck_2_12 rfl rfl, wi_RX7, ⟨by decide, by decide, by decide +kernel⟩, by decide⟩, g_in2 (l := gl_2_12) 8 ck_2_12 rfl rfl, g_in2 (l := gl_2_12) 9 ck_2_12 rfl rfl⟩
abbrev YX7_asks : g_Y := (yX7_asks, cX7_asks, 4, (some .int))
theorem ok_X7_asks : g_okV YX7_asks 3 := ⟨⟨g_in2 (l := gl_2_12) 14 ck_2_12 rfl rfl, wi_RX7, ⟨by decide, by decide, by decide +kernel⟩, by decide⟩, g_in2 (l := gl_2_12) 12 ck_2_12 rfl rfl, g_in2 (l := gl_2_12) 13 ck_2_12 rfl rfl⟩
abbrev YX7_hunter : g_Y := (yX7_hunter, cX7_hunter, 4, (some .int))
theorem ok_X7_hunter : g_okV YX7_hunter 3 := ⟨⟨g_in2 (l := gl_2_14) 5 ck_2_14 rfl rfl, wi_RX7, ⟨by decide, by decide, by decide +kernel⟩, by decide⟩, g_in2 (l := gl_2_14) 3 ck_2_14 rfl rfl, g_in2 (l := gl_2_14) 4 ck_2_14 rfl rfl⟩
abbrev YX7_friends : g_Y := (yX7_friends, cX7_friends, 5, (some .int))
theorem ok_X7_friends : g_okV YX7_friends 3 := ⟨⟨g_in2 (l := gl_2_14) 13 ck_2_14 rfl rfl, wi_RX7, ⟨by decide, by decide, by decide +kernel⟩, by decide⟩, g_in2 (l := gl_2_14) 11 ck_2_14 rfl rfl, g_in2 (l := gl_2_14) 12 ck_2_14 rfl rfl⟩
abbrev YX7_put : g_Y := (yX7_put, cX7_put, 5, (some .int))
theorem ok_X7_put : g_okV YX7_put 3 := ⟨⟨g_in2 (l := gl_3_0) 9 ck_3_0 rfl rfl, wi_RX7, ⟨by decide, by decide, by decide +kernel⟩, by decide⟩, g_in2 (l := gl_3_0) 7 ck_3_0 rfl rfl, g_in2 (l := gl_3_0) 8 ck_3_0 rfl rfl⟩
abbrev YX7_told : g_Y := (yX7_told, cX7_told, 3, (some .int))
theorem ok_X7_told : g_okV YX7_told 2 := ⟨⟨g_in2 (l := gl_3_0) 13 ck_3_0 rfl rfl, wi_RX7, ⟨by decide, by decide, by decide +kernel⟩, by decide⟩, g_in2 (l := gl_3_0) 11 ck_3_0 rfl rfl, g_in2 (l := gl_3_0) 12 ck_3_0 rfl rfl⟩
abbrev YX7_hits : g_Y := (yX7_hits, cX7_hits, 3, (some .int))
theorem ok_X7_hits : g_okV YX7_hits 2 := ⟨⟨g_in2 (l := gl_3_2) 10 ck_3_2 rfl rfl, wi_RX7, ⟨by decide, by decide, by decide +kernel⟩, by decide⟩, g_in2 (l := gl_3_2) 8 ck_3_2 rfl rfl, g_in2 (l := gl_3_2) 9 ck_3_2 rfl rfl⟩
abbrev YX7_meet : g_Y := (yX7_meet, cX7_meet, 4, (some .int))
theorem ok_X7_meet : g_okV YX7_meet 3 := ⟨⟨g_in2 (l := gl_3_3) 6 ck_3_3 rfl rfl, wi_RX7, ⟨by decide, by decide, by decide +kernel⟩, by decide⟩, g_in2 (l := gl_3_3) 4 ck_3_3 rfl rfl, g_in2 (l := gl_3_3) 5 ck_3_3 rfl rfl⟩
abbrev YX7_present : g_Y := (yX7_present, cX7_present, 4, (some .int))
theorem ok_X7_present : g_okV YX7_present 3 := ⟨⟨g_in2 (l := gl_3_3) 15 ck_3_3 rfl rfl, wi_RX7, ⟨by decide, by decide, by decide +kernel⟩, by decide⟩, g_in2 (l := gl_3_3) 13 ck_3_3 rfl rfl, g_in2 (l := gl_3_3) 14 ck_3_3 rfl rfl⟩
abbrev YX7_circle : g_Y := (yX7_circle, cX7_circle, 3, (some .int))
theorem ok_X7_circle : g_okV YX7_circle 2 := ⟨⟨g_in2 (l := gl_3_4) 8 ck_3_4 rfl rfl, wi_RX7, ⟨by decide, by decide, by decide +kernel⟩, by decide⟩, g_in2 (l := gl_3_4) 6 ck_3_4 rfl rfl, g_in2 (l := gl_3_4) 7 ck_3_4 rfl rfl⟩
abbrev YX7_way : g_Y := (yX7_way, cX7_way, 5, (some .int))
theorem ok_X7_way : g_okV YX7_way 3 := ⟨⟨g_in2 (l := gl_3_5) 0 ck_3_5 rfl rfl, wi_RX7, ⟨by decide, by decide, by decide +kernel⟩, by decide⟩, g_in2 (l := gl_3_4) 14 ck_3_4 rfl rfl, g_in2 (l := gl_3_4) 15 ck_3_4 rfl rfl⟩
abbrev YX7_shoot : g_Y := (yX7_shoot, cX7_shoot, 4, (some .int))
theorem ok_X7_shoot : g_okV YX7_shoot 2 := ⟨⟨g_in2 (l := gl_3_6) 4 ck_3_6 rfl rfl, wi_RX7, ⟨by decide, by decide, by decide +kernel⟩, by decide⟩, g_in2 (l := gl_3_6) 2 ck_3_6 rfl rfl, g_in2 (l := gl_3_6) 3 ck_3_6 rfl rfl⟩
abbrev YX7_aims : g_Y := (yX7_aims, cX7_aims, 4, (some .int))
theorem ok_X7_aims : g_okV YX7_aims 2 := ⟨⟨g_in2 (l := gl_3_7) 12 ck_3_7 rfl rfl, wi_RX7, ⟨by decide, by decide, by decide +kernel⟩, by decide⟩, g_in2 (l := gl_3_7) 10 ck_3_7 rfl rfl, g_in2 (l := gl_3_7) 11 ck_3_7 rfl rfl⟩
abbrev YX7_season : g_Y := (yX7_season, cX7_season, 7, (some .int))
theorem ok_X7_season : g_okV YX7_season 3 := ⟨⟨g_in2 (l := gl_3_8) 1 ck_3_8 rfl rfl, wi_RX7, ⟨by decide, by decide, by decide +kernel⟩, by decide⟩, g_in2 (l := gl_3_7) 15 ck_3_7 rfl rfl, g_in2 (l := gl_3_8) 0 ck_3_8 rfl rfl⟩
abbrev YX7_hunt : g_Y := (yX7_hunt, cX7_hunt, 4, (some .int))
theorem ok_X7_hunt : g_okV YX7_hunt 2 := ⟨⟨g_in2 (l := gl_3_9) 14 ck_3_9 rfl rfl, wi_RX7, ⟨by decide, by decide, by decide +kernel⟩, by decide⟩, g_in2 (l := gl_3_9) 12 ck_3_9 rfl rfl, g_in2 (l := gl_3_9) 13 ck_3_9 rfl rfl⟩
abbrev YX7_ball : g_Y := (yX7_ball, cX7_ball, 7, (some .int))
theorem ok_X7_ball : g_okV YX7_ball 1 := ⟨⟨g_in2 (l := gl_3_10) 2 ck_3_10 rfl rfl, wi_RX7, ⟨by decide, by decide, by decide +kernel⟩, by decide⟩, g_in2 (l := gl_3_10) 0 ck_3_10 rfl rfl, g_in2 (l := gl_3_10) 1 ck_3_10 rfl rfl⟩
abbrev YX7_safest : g_Y := (yX7_safest, cX7_safest, 7, (some .int))
theorem ok_X7_safest : g_okV YX7_safest 1 := ⟨⟨g_in2 (l := gl_3_10) 12 ck_3_10 rfl rfl, wi_RX7, ⟨by decide, by decide, by decide +kernel⟩, by decide⟩, g_in2 (l := gl_3_10) 10 ck_3_10 rfl rfl, g_in2 (l := gl_3_10) 11 ck_3_10 rfl rfl⟩
abbrev YX7_prize : g_Y := (yX7_prize, cX7_prize, 7, (some .int))
theorem ok_X7_prize : g_okV YX7_prize 2 := ⟨⟨g_in2 (l := gl_3_11) 0 ck_3_11 rfl rfl, wi_RX7, ⟨by decide, by decide, by decide +kernel⟩, by decide⟩, g_in2 (l := gl_3_10) 14 ck_3_10 rfl rfl, g_in2 (l := gl_3_10) 15 ck_3_10 rfl rfl⟩
abbrev YX7_society : g_Y := (yX7_society, cX7_society, 4, (some .long))
theorem ok_X7_society : g_okV YX7_society 1 := ⟨⟨g_in2 (l := gl_3_11) 5 ck_3_11 rfl rfl, wi_RX7, ⟨by decide, by decide, by decide +kernel⟩, by decide⟩, g_in2 (l := gl_3_11) 3 ck_3_11 rfl rfl, g_in2 (l := gl_3_11) 4 ck_3_11 rfl rfl⟩
abbrev YX7_judge : g_Y := (yX7_judge, cX7_judge, 5, (some .int))
theorem ok_X7_judge : g_okV YX7_judge 3 := ⟨⟨g_in2 (l := gl_3_11) 13 ck_3_11 rfl rfl, wi_RX7, ⟨by decide, by decide, by decide +kernel⟩, by decide⟩, g_in2 (l := gl_3_11) 11 ck_3_11 rfl rfl, g_in2 (l := gl_3_11) 12 ck_3_11 rfl rfl⟩
abbrev YX7_kinds : g_Y := (yX7_kinds, cX7_kinds, 8, (some .int))
theorem ok_X7_kinds : g_okV YX7_kinds 4 := ⟨⟨g_in2 (l := gl_3_12) 13 ck_3_12 rfl rfl, wi_RX7, ⟨by decide, by decide, by decide +kernel⟩, by decide⟩, g_in2 (l := gl_3_12) 11 ck_3_12 rfl rfl, g_in2 (l := gl_3_12) 12 ck_3_12 rfl rfl⟩
abbrev YX7_turned : g_Y := (yX7_turned, cX7_turned, 7, (some .int))
theorem ok_X7_turned : g_okV YX7_turned 3 := ⟨⟨g_in2 (l := gl_3_13) 1 ck_3_13 rfl rfl, wi_RX7, ⟨by decide, by decide, by decide +kernel⟩, by decide⟩, g_in2 (l := gl_3_12) 15 ck_3_12 rfl rfl, g_in2 (l := gl_3_13) 0 ck_3_13 rfl rfl⟩
abbrev YX7_honours : g_Y := (yX7_honours, cX7_honours, 9, (some .int))
theorem ok_X7_honours : g_okV YX7_honours 4 := ⟨⟨g_in2 (l := gl_3_13) 5 ck_3_13 rfl rfl, wi_RX7, ⟨by decide, by decide, by decide +kernel⟩, by decide⟩, g_in2 (l := gl_3_13) 3 ck_3_13 rfl rfl, g_in2 (l := gl_3_13) 4 ck_3_13 rfl rfl⟩
abbrev YX7_whose : g_Y := (yX7_whose, cX7_whose, 6, (some .int))
theorem ok_X7_whose : g_okV YX7_whose 2 := ⟨⟨g_in2 (l := gl_3_13) 9 ck_3_13 rfl rfl, wi_RX7, ⟨by decide, by decide, by decide +kernel⟩, by decide⟩, g_in2 (l := gl_3_13) 7 ck_3_13 rfl rfl, g_in2 (l := gl_3_13) 8 ck_3_13 rfl rfl⟩
abbrev YX7_laws : g_Y := (yX7_laws, cX7_laws, 7, (some .int))
theorem ok_X7_laws : g_okV YX7_laws 3 := ⟨⟨g_in2 (l := gl_3_13) 13 ck_3_13 rfl rfl, wi_RX7, ⟨by decide, by decide, by decide +kernel⟩, by decide⟩, g_in2 (l := gl_3_13) 11 ck_3_13 rfl rfl, g_in2 (l := gl_3_13) 12 ck_3_13 rfl rfl⟩
abbrev YX7_film : g_Y := (yX7_film, cX7_film, 8, (some .int))
theorem ok_X7_film : g_okV YX7_film 3 := ⟨⟨g_in2 (l := gl_3_14) 1 ck_3_14 rfl rfl, wi_RX7, ⟨by decide, by decide, by decide +kernel⟩, by decide⟩, g_in2 (l := gl_3_13) 15 ck_3_13 rfl rfl, g_in2 (l := gl_3_14) 0 ck_3_14 rfl rfl⟩
abbrev YX7_drawn : g_Y := (yX7_drawn, cX7_drawn, 5, (some .int))
theorem ok_X7_drawn : g_okV YX7_drawn 3 := ⟨⟨g_in2 (l := gl_3_14) 13 ck_3_14 rfl rfl, wi_RX7, ⟨by decide, by decide, by decide +kernel⟩, by decide⟩, g_in2 (l := gl_3_14) 11 ck_3_14 rfl rfl, g_in2 (l := gl_3_14) 12 ck_3_14 rfl rfl⟩
abbrev YX7_odds : g_Y := (yX7_odds, cX7_odds, 7, (some .long))
theorem ok_X7_odds : g_okV YX7_odds 4 := ⟨⟨g_in2 (l := gl_4_1) 0 ck_4_1 rfl rfl, wi_RX7, ⟨by decide, by decide, by decide +kernel⟩, by decide⟩, g_in2 (l := gl_4_0) 14 ck_4_0 rfl rfl, g_in2 (l := gl_4_0) 15 ck_4_0 rfl rfl⟩
abbrev YX7_image : g_Y := (yX7_image, cX7_image, 1, (some .int))
theorem ok_X7_image : g_okV YX7_image 0 := ⟨⟨g_in2 (l := gl_4_1) 4 ck_4_1 rfl rfl, wi_RX7, ⟨by decide, by decide, by decide +kernel⟩, by decide⟩, g_in2 (l := gl_4_1) 2 ck_4_1 rfl rfl, g_in2 (l := gl_4_1) 3 ck_4_1 rfl rfl⟩
abbrev YX7_back : g_Y := (yX7_back, cX7_back, 1, (some .int))
theorem ok_X7_back : g_okV YX7_back 0 := ⟨⟨g_in2 (l := gl_4_1) 8 ck_4_1 rfl rfl, wi_RX7, ⟨by decide, by decide, by decide +kernel⟩, by decide⟩, g_in2 (l := gl_4_1) 6 ck_4_1 rfl rfl, g_in2 (l := gl_4_1) 7 ck_4_1 rfl rfl⟩
abbrev YX7_sheet : g_Y := (yX7_sheet, cX7_sheet, 4, (some .int))
theorem ok_X7_sheet : g_okV YX7_sheet 3 := ⟨⟨g_in2 (l := gl_4_1) 12 ck_4_1 rfl rfl, wi_RX7, ⟨by decide, by decide, by decide +kernel⟩, by decide⟩, g_in2 (l := gl_4_1) 10 ck_4_1 rfl rfl, g_in2 (l := gl_4_1) 11 ck_4_1 rfl rfl⟩
abbrev YX7_cell : g_Y := (yX7_cell, cX7_cell, 4, (some .int))
theorem ok_X7_cell : g_okV YX7_cell 3 := ⟨⟨g_in2 (l := gl_4_2) 0 ck_4_2 rfl rfl, wi_RX7, ⟨by decide, by decide, by decide +kernel⟩, by decide⟩, g_in2 (l := gl_4_1) 14 ck_4_1 rfl rfl, g_in2 (l := gl_4_1) 15 ck_4_1 rfl rfl⟩
abbrev YX7_copy : g_Y := (yX7_copy, cX7_copy, 8, (some .int))
theorem ok_X7_copy : g_okV YX7_copy 5 := ⟨⟨g_in2 (l := gl_4_2) 8 ck_4_2 rfl rfl, wi_RX7, ⟨by decide, by decide, by decide +kernel⟩, by decide⟩, g_in2 (l := gl_4_2) 6 ck_4_2 rfl rfl, g_in2 (l := gl_4_2) 7 ck_4_2 rfl rfl⟩
abbrev YX7_huntersBy : g_Y := (yX7_huntersBy, cX7_huntersBy, 9, (some .int))
theorem ok_X7_huntersBy : g_okV YX7_huntersBy 4 := ⟨⟨g_in2 (l := gl_4_2) 13 ck_4_2 rfl rfl, wi_RX7, ⟨by decide, by decide, by decide +kernel⟩, by decide⟩, g_in2 (l := gl_4_2) 11 ck_4_2 rfl rfl, g_in2 (l := gl_4_2) 12 ck_4_2 rfl rfl⟩
abbrev YX7_taken : g_Y := (yX7_taken, cX7_taken, 4, (some .int))
theorem ok_X7_taken : g_okV YX7_taken 2 := ⟨⟨g_in2 (l := gl_4_3) 2 ck_4_3 rfl rfl, wi_RX7, ⟨by decide, by decide, by decide +kernel⟩, by decide⟩, g_in2 (l := gl_4_3) 0 ck_4_3 rfl rfl, g_in2 (l := gl_4_3) 1 ck_4_3 rfl rfl⟩
abbrev YX7_isWithin : g_Y := (yX7_isWithin, cX7_isWithin, 3, (some .boolean))
theorem ok_X7_isWithin : g_okT YX7_isWithin 3 := ⟨⟨g_in2 (l := gl_2_10) 11 ck_2_10 rfl rfl, wi_RX7, ⟨by decide, by decide, by decide +kernel⟩, by decide⟩, g_in2 (l := gl_2_10) 10 ck_2_10 rfl rfl⟩
abbrev YX7_isByte : g_Y := (yX7_isByte, cX7_isByte, 1, (some .boolean))
theorem ok_X7_isByte : g_okT YX7_isByte 1 := ⟨⟨g_in2 (l := gl_2_12) 2 ck_2_12 rfl rfl, wi_RX7, ⟨by decide, by decide, by decide +kernel⟩, by decide⟩, g_in2 (l := gl_2_12) 1 ck_2_12 rfl rfl⟩
abbrev YX7_isDeer : g_Y := (yX7_isDeer, cX7_isDeer, 1, (some .boolean))
theorem ok_X7_isDeer : g_okT YX7_isDeer 1 := ⟨⟨g_in2 (l := gl_2_10) 8 ck_2_10 rfl rfl, wi_RX7, ⟨by decide, by decide, by decide +kernel⟩, by decide⟩, g_in2 (l := gl_2_10) 7 ck_2_10 rfl rfl⟩
abbrev YX7_isSheet : g_Y := (yX7_isSheet, cX7_isSheet, 1, (some .boolean))
theorem ok_X7_isSheet : g_okT YX7_isSheet 1 := ⟨⟨g_in2 (l := gl_3_8) 8 ck_3_8 rfl rfl, wi_RX7, ⟨by decide, by decide, by decide +kernel⟩, by decide⟩, g_in2 (l := gl_3_8) 7 ck_3_8 rfl rfl⟩
abbrev YX7_isHunter : g_Y := (yX7_isHunter, cX7_isHunter, 2, (some .boolean))
theorem ok_X7_isHunter : g_okV YX7_isHunter 1 := ⟨⟨g_in2 (l := gl_2_13) 2 ck_2_13 rfl rfl, wi_RX7, ⟨by decide, by decide, by decide +kernel⟩, by decide⟩, g_in2 (l := gl_2_13) 1 ck_2_13 rfl rfl, g_inS (by decide +kernel) rfl⟩
abbrev YX7_lowestTerms : g_Y := (yX7_lowestTerms, cX7_lowestTerms, 12, (some .long))
theorem ok_X7_lowestTerms : g_okT YX7_lowestTerms 3 := ⟨⟨g_in2 (l := gl_3_11) 9 ck_3_11 rfl rfl, wi_RX7, ⟨by decide, by decide, by decide +kernel⟩, by decide⟩, g_in2 (l := gl_3_11) 8 ck_3_11 rfl rfl⟩
abbrev YX7_shotRefusal : g_Y := (yX7_shotRefusal, cX7_shotRefusal, 3, (some .int))
theorem ok_X7_shotRefusal : g_okV YX7_shotRefusal 2 := ⟨⟨g_in2 (l := gl_3_6) 8 ck_3_6 rfl rfl, wi_RX7, ⟨by decide, by decide, by decide +kernel⟩, by decide⟩, g_in2 (l := gl_3_6) 7 ck_3_6 rfl rfl, g_inS (by decide +kernel) rfl⟩
abbrev YX7_seasonRefusal : g_Y := (yX7_seasonRefusal, cX7_seasonRefusal, 2, (some .int))
theorem ok_X7_seasonRefusal : g_okV YX7_seasonRefusal 1 := ⟨⟨g_in2 (l := gl_3_8) 5 ck_3_8 rfl rfl, wi_RX7, ⟨by decide, by decide, by decide +kernel⟩, by decide⟩, g_in2 (l := gl_3_8) 4 ck_3_8 rfl rfl, g_inS (by decide +kernel) rfl⟩
abbrev YX7_tellingRefusal : g_Y := (yX7_tellingRefusal, cX7_tellingRefusal, 4, (some .int))
theorem ok_X7_tellingRefusal : g_okV YX7_tellingRefusal 2 := ⟨⟨g_in2 (l := gl_3_12) 5 ck_3_12 rfl rfl, wi_RX7, ⟨by decide, by decide, by decide +kernel⟩, by decide⟩, g_in2 (l := gl_3_12) 4 ck_3_12 rfl rfl, g_inS (by decide +kernel) rfl⟩
abbrev YX7_judgeRefusal : g_Y := (yX7_judgeRefusal, cX7_judgeRefusal, 5, (some .int))
theorem ok_X7_judgeRefusal : g_okV YX7_judgeRefusal 3 := ⟨⟨g_in2 (l := gl_3_12) 1 ck_3_12 rfl rfl, wi_RX7, ⟨by decide, by decide, by decide +kernel⟩, by decide⟩, g_in2 (l := gl_3_12) 0 ck_3_12 rfl rfl, g_inS (by decide +kernel) rfl⟩
abbrev YX7_shootAll : g_Y := (yX7_shootAll, cX7_shootAll, 7, (some .int))
theorem ok_X7_shootAll : g_okV YX7_shootAll 4 := ⟨⟨g_in2 (l := gl_3_9) 10 ck_3_9 rfl rfl, wi_RX7, ⟨by decide, by decide, by decide +kernel⟩, by decide⟩, g_in2 (l := gl_3_9) 9 ck_3_9 rfl rfl, g_inS (by decide +kernel) rfl⟩
abbrev YX7_firstOtherwise : g_Y := (yX7_firstOtherwise, cX7_firstOtherwise, 5, (some .int))
theorem ok_X7_firstOtherwise : g_okV YX7_firstOtherwise 3 := ⟨⟨g_in2 (l := gl_3_12) 9 ck_3_12 rfl rfl, wi_RX7, ⟨by decide, by decide, by decide +kernel⟩, by decide⟩, g_in2 (l := gl_3_12) 8 ck_3_12 rfl rfl, g_inS (by decide +kernel) rfl⟩
abbrev YX7_shootByLots : g_Y := (yX7_shootByLots, cX7_shootByLots, 7, (some .int))
theorem ok_X7_shootByLots : g_okV YX7_shootByLots 2 := ⟨⟨g_in2 (l := gl_4_0) 2 ck_4_0 rfl rfl, wi_RX7, ⟨by decide, by decide, by decide +kernel⟩, by decide⟩, g_in2 (l := gl_4_0) 1 ck_4_0 rfl rfl, g_inS (by decide +kernel) rfl⟩
abbrev YX8_init : g_Y := (yX8_init, cX8_init, 2, none)
theorem ok_X8_init : g_okI YX8_init 0 := ⟨⟨g_in2 (l := gl_4_3) 8 ck_4_3 rfl rfl, wi_RX8, ⟨by decide, by decide, by decide +kernel⟩, by decide⟩, g_in2 (l := gl_4_3) 7 ck_4_3 rfl rfl, rfl, rfl⟩
abbrev YX8_in : g_Y := (yX8_in, cX8_in, 3, (some .boolean))
theorem ok_X8_in : g_okT YX8_in 3 := ⟨⟨g_in2 (l := gl_4_4) 4 ck_4_4 rfl rfl, wi_RX8, ⟨by decide, by decide, by decide +kernel⟩, by decide⟩, g_in2 (l := gl_4_4) 3 ck_4_4 rfl rfl⟩
abbrev YX8_within : g_Y := (yX8_within, cX8_within, 3, (some .int))
theorem ok_X8_within : g_okT YX8_within 3 := ⟨⟨g_in2 (l := gl_5_2) 5 ck_5_2 rfl rfl, wi_RX8, ⟨by decide, by decide, by decide +kernel⟩, by decide⟩, g_in2 (l := gl_5_2) 4 ck_5_2 rfl rfl⟩
abbrev YX8_bitsOf : g_Y := (yX8_bitsOf, cX8_bitsOf, 3, (some .int))
theorem ok_X8_bitsOf : g_okT YX8_bitsOf 1 := ⟨⟨g_in2 (l := gl_4_13) 12 ck_4_13 rfl rfl, wi_RX8, ⟨by decide, by decide, by decide +kernel⟩, by decide⟩, g_in2 (l := gl_4_13) 11 ck_4_13 rfl rfl⟩
abbrev YX8_isOne : g_Y := (yX8_isOne, cX8_isOne, 2, (some .boolean))
theorem ok_X8_isOne : g_okV YX8_isOne 1 := ⟨⟨g_in2 (l := gl_5_1) 7 ck_5_1 rfl rfl, wi_RX8, ⟨by decide, by decide, by decide +kernel⟩, by decide⟩, g_in2 (l := gl_5_1) 6 ck_5_1 rfl rfl, g_inS (by decide +kernel) rfl⟩
abbrev YX8_areTwo : g_Y := (yX8_areTwo, cX8_areTwo, 3, (some .boolean))
theorem ok_X8_areTwo : g_okV YX8_areTwo 2 := ⟨⟨g_in2 (l := gl_5_3) 1 ck_5_3 rfl rfl, wi_RX8, ⟨by decide, by decide, by decide +kernel⟩, by decide⟩, g_in2 (l := gl_5_3) 0 ck_5_3 rfl rfl, g_inS (by decide +kernel) rfl⟩
abbrev YX8_isDeer : g_Y := (yX8_isDeer, cX8_isDeer, 1, (some .boolean))
theorem ok_X8_isDeer : g_okT YX8_isDeer 1 := ⟨⟨g_in2 (l := gl_4_14) 3 ck_4_14 rfl rfl, wi_RX8, ⟨by decide, by decide, by decide +kernel⟩, by decide⟩, g_in2 (l := gl_4_14) 2 ck_4_14 rfl rfl⟩
abbrev YX8_isAlive : g_Y := (yX8_isAlive, cX8_isAlive, 2, (some .boolean))
theorem ok_X8_isAlive : g_okV YX8_isAlive 1 := ⟨⟨g_in2 (l := gl_5_6) 5 ck_5_6 rfl rfl, wi_RX8, ⟨by decide, by decide, by decide +kernel⟩, by decide⟩, g_in2 (l := gl_5_6) 4 ck_5_6 rfl rfl, g_inS (by decide +kernel) rfl⟩
abbrev YX8_isCard : g_Y := (yX8_isCard, cX8_isCard, 3, (some .boolean))
theorem ok_X8_isCard : g_okV YX8_isCard 2 := ⟨⟨g_in2 (l := gl_5_0) 3 ck_5_0 rfl rfl, wi_RX8, ⟨by decide, by decide, by decide +kernel⟩, by decide⟩, g_in2 (l := gl_5_0) 2 ck_5_0 rfl rfl, g_inS (by decide +kernel) rfl⟩
abbrev YX8_haveMet : g_Y := (yX8_haveMet, cX8_haveMet, 3, (some .boolean))
theorem ok_X8_haveMet : g_okV YX8_haveMet 2 := ⟨⟨g_in2 (l := gl_5_3) 5 ck_5_3 rfl rfl, wi_RX8, ⟨by decide, by decide, by decide +kernel⟩, by decide⟩, g_in2 (l := gl_5_3) 4 ck_5_3 rfl rfl, g_inS (by decide +kernel) rfl⟩
abbrev YX8_count : g_Y := (yX8_count, cX8_count, 2, (some .int))
theorem ok_X8_count : g_okV YX8_count 1 := ⟨⟨g_in2 (l := gl_4_13) 9 ck_4_13 rfl rfl, wi_RX8, ⟨by decide, by decide, by decide +kernel⟩, by decide⟩, g_in2 (l := gl_4_13) 7 ck_4_13 rfl rfl, g_in2 (l := gl_4_13) 8 ck_4_13 rfl rfl⟩
abbrev YX8_forestHeld : g_Y := (yX8_forestHeld, cX8_forestHeld, 3, (some .int))
theorem ok_X8_forestHeld : g_okV YX8_forestHeld 2 := ⟨⟨g_in2 (l := gl_4_14) 7 ck_4_14 rfl rfl, wi_RX8, ⟨by decide, by decide, by decide +kernel⟩, by decide⟩, g_in2 (l := gl_4_14) 6 ck_4_14 rfl rfl, g_inS (by decide +kernel) rfl⟩
abbrev YX8_forest : g_Y := (yX8_forest, cX8_forest, 5, (some .int))
theorem ok_X8_forest : g_okV YX8_forest 3 := ⟨⟨g_in2 (l := gl_4_14) 0 ck_4_14 rfl rfl, wi_RX8, ⟨by decide, by decide, by decide +kernel⟩, by decide⟩, g_in2 (l := gl_4_13) 14 ck_4_13 rfl rfl, g_in2 (l := gl_4_13) 15 ck_4_13 rfl rfl⟩
abbrev YX8_cardsWith : g_Y := (yX8_cardsWith, cX8_cardsWith, 4, (some .int))
theorem ok_X8_cardsWith : g_okV YX8_cardsWith 1 := ⟨⟨g_in2 (l := gl_4_14) 15 ck_4_14 rfl rfl, wi_RX8, ⟨by decide, by decide, by decide +kernel⟩, by decide⟩, g_in2 (l := gl_4_14) 14 ck_4_14 rfl rfl, g_inS (by decide +kernel) rfl⟩
abbrev YX8_deer : g_Y := (yX8_deer, cX8_deer, 3, (some .int))
theorem ok_X8_deer : g_okV YX8_deer 2 := ⟨⟨g_in2 (l := gl_4_14) 11 ck_4_14 rfl rfl, wi_RX8, ⟨by decide, by decide, by decide +kernel⟩, by decide⟩, g_in2 (l := gl_4_14) 9 ck_4_14 rfl rfl, g_in2 (l := gl_4_14) 10 ck_4_14 rfl rfl⟩
abbrev YX8_isByte : g_Y := (yX8_isByte, cX8_isByte, 1, (some .boolean))
theorem ok_X8_isByte : g_okT YX8_isByte 1 := ⟨⟨g_in2 (l := gl_5_0) 10 ck_5_0 rfl rfl, wi_RX8, ⟨by decide, by decide, by decide +kernel⟩, by decide⟩, g_in2 (l := gl_5_0) 9 ck_5_0 rfl rfl⟩
abbrev YX8_feed : g_Y := (yX8_feed, cX8_feed, 8, (some .int))
theorem ok_X8_feed : g_okV YX8_feed 6 := ⟨⟨g_in2 (l := gl_5_0) 7 ck_5_0 rfl rfl, wi_RX8, ⟨by decide, by decide, by decide +kernel⟩, by decide⟩, g_in2 (l := gl_5_0) 5 ck_5_0 rfl rfl, g_in2 (l := gl_5_0) 6 ck_5_0 rfl rfl⟩
abbrev YX8_wordFrom : g_Y := (yX8_wordFrom, cX8_wordFrom, 6, (some .int))
theorem ok_X8_wordFrom : g_okV YX8_wordFrom 2 := ⟨⟨g_in2 (l := gl_4_4) 8 ck_4_4 rfl rfl, wi_RX8, ⟨by decide, by decide, by decide +kernel⟩, by decide⟩, g_in2 (l := gl_4_4) 7 ck_4_4 rfl rfl, g_inS (by decide +kernel) rfl⟩
abbrev YX8_next : g_Y := (yX8_next, cX8_next, 3, none)
theorem ok_X8_next : g_okV YX8_next 0 := ⟨⟨g_in2 (l := gl_4_4) 1 ck_4_4 rfl rfl, wi_RX8, ⟨by decide, by decide, by decide +kernel⟩, by decide⟩, g_in2 (l := gl_4_4) 0 ck_4_4 rfl rfl, g_inS (by decide +kernel) rfl⟩
abbrev YX8_rank : g_Y := (yX8_rank, cX8_rank, 1, (some .int))
theorem ok_X8_rank : g_okT YX8_rank 1 := ⟨⟨g_in2 (l := gl_4_5) 8 ck_4_5 rfl rfl, wi_RX8, ⟨by decide, by decide, by decide +kernel⟩, by decide⟩, g_in2 (l := gl_4_5) 7 ck_4_5 rfl rfl⟩
abbrev YX8_puts : g_Y := (yX8_puts, cX8_puts, 2, none)
theorem ok_X8_puts : g_okV YX8_puts 1 := ⟨⟨g_in2 (l := gl_4_5) 1 ck_4_5 rfl rfl, wi_RX8, ⟨by decide, by decide, by decide +kernel⟩, by decide⟩, g_in2 (l := gl_4_5) 0 ck_4_5 rfl rfl, g_inS (by decide +kernel) rfl⟩
abbrev YX8_unwinds : g_Y := (yX8_unwinds, cX8_unwinds, 3, none)
theorem ok_X8_unwinds : g_okV YX8_unwinds 1 := ⟨⟨g_in2 (l := gl_4_5) 5 ck_4_5 rfl rfl, wi_RX8, ⟨by decide, by decide, by decide +kernel⟩, by decide⟩, g_in2 (l := gl_4_5) 4 ck_4_5 rfl rfl, g_inS (by decide +kernel) rfl⟩
abbrev YX8_holds : g_Y := (yX8_holds, cX8_holds, 2, none)
theorem ok_X8_holds : g_okV YX8_holds 1 := ⟨⟨g_in2 (l := gl_4_6) 0 ck_4_6 rfl rfl, wi_RX8, ⟨by decide, by decide, by decide +kernel⟩, by decide⟩, g_in2 (l := gl_4_5) 15 ck_4_5 rfl rfl, g_inS (by decide +kernel) rfl⟩
abbrev YX8_opensOne : g_Y := (yX8_opensOne, cX8_opensOne, 2, (some .boolean))
theorem ok_X8_opensOne : g_okV YX8_opensOne 1 := ⟨⟨g_in2 (l := gl_4_5) 12 ck_4_5 rfl rfl, wi_RX8, ⟨by decide, by decide, by decide +kernel⟩, by decide⟩, g_in2 (l := gl_4_5) 11 ck_4_5 rfl rfl, g_inS (by decide +kernel) rfl⟩
abbrev YX8_between : g_Y := (yX8_between, cX8_between, 2, (some .boolean))
theorem ok_X8_between : g_okV YX8_between 1 := ⟨⟨g_in2 (l := gl_4_6) 8 ck_4_6 rfl rfl, wi_RX8, ⟨by decide, by decide, by decide +kernel⟩, by decide⟩, g_in2 (l := gl_4_6) 7 ck_4_6 rfl rfl, g_inS (by decide +kernel) rfl⟩
abbrev YX8_signOf : g_Y := (yX8_signOf, cX8_signOf, 1, (some .int))
theorem ok_X8_signOf : g_okV YX8_signOf 0 := ⟨⟨g_in2 (l := gl_4_6) 4 ck_4_6 rfl rfl, wi_RX8, ⟨by decide, by decide, by decide +kernel⟩, by decide⟩, g_in2 (l := gl_4_6) 3 ck_4_6 rfl rfl, g_inS (by decide +kernel) rfl⟩
abbrev YX8_eRead : g_Y := (yX8_eRead, cX8_eRead, 4, (some .boolean))
theorem ok_X8_eRead : g_okV YX8_eRead 0 := ⟨⟨g_in2 (l := gl_4_4) 12 ck_4_4 rfl rfl, wi_RX8, ⟨by decide, by decide, by decide +kernel⟩, by decide⟩, g_in2 (l := gl_4_4) 11 ck_4_4 rfl rfl, g_inS (by decide +kernel) rfl⟩
abbrev YX8_text : g_Y := (yX8_text, cX8_text, 3, (some .int))
theorem ok_X8_text : g_okV YX8_text 0 := ⟨⟨g_in2 (l := gl_4_3) 13 ck_4_3 rfl rfl, wi_RX8, ⟨by decide, by decide, by decide +kernel⟩, by decide⟩, g_in2 (l := gl_4_3) 11 ck_4_3 rfl rfl, g_in2 (l := gl_4_3) 12 ck_4_3 rfl rfl⟩
abbrev YX8_two : g_Y := (yX8_two, cX8_two, 3, (some .int))
theorem ok_X8_two : g_okT YX8_two 3 := ⟨⟨g_in2 (l := gl_5_2) 2 ck_5_2 rfl rfl, wi_RX8, ⟨by decide, by decide, by decide +kernel⟩, by decide⟩, g_in2 (l := gl_5_2) 1 ck_5_2 rfl rfl⟩
abbrev YX8_says : g_Y := (yX8_says, cX8_says, 5, (some .int))
theorem ok_X8_says : g_okV YX8_says 1 := ⟨⟨g_in2 (l := gl_5_1) 15 ck_5_1 rfl rfl, wi_RX8, ⟨by decide, by decide, by decide +kernel⟩, by decide⟩, g_in2 (l := gl_5_1) 14 ck_5_1 rfl rfl, g_inS (by decide +kernel) rfl⟩
abbrev YX8_force : g_Y := (yX8_force, cX8_force, 3, (some .int))
theorem ok_X8_force : g_okV YX8_force 1 := ⟨⟨g_in2 (l := gl_5_0) 15 ck_5_0 rfl rfl, wi_RX8, ⟨by decide, by decide, by decide +kernel⟩, by decide⟩, g_in2 (l := gl_5_0) 13 ck_5_0 rfl rfl, g_in2 (l := gl_5_0) 14 ck_5_0 rfl rfl⟩
abbrev YX8_asksOf : g_Y := (yX8_asksOf, cX8_asksOf, 5, (some .int))
theorem ok_X8_asksOf : g_okV YX8_asksOf 3 := ⟨⟨g_in2 (l := gl_5_1) 11 ck_5_1 rfl rfl, wi_RX8, ⟨by decide, by decide, by decide +kernel⟩, by decide⟩, g_in2 (l := gl_5_1) 10 ck_5_1 rfl rfl, g_inS (by decide +kernel) rfl⟩
abbrev YX8_asks : g_Y := (yX8_asks, cX8_asks, 4, (some .int))
theorem ok_X8_asks : g_okV YX8_asks 3 := ⟨⟨g_in2 (l := gl_5_1) 3 ck_5_1 rfl rfl, wi_RX8, ⟨by decide, by decide, by decide +kernel⟩, by decide⟩, g_in2 (l := gl_5_1) 1 ck_5_1 rfl rfl, g_in2 (l := gl_5_1) 2 ck_5_1 rfl rfl⟩
abbrev YX8_hunter : g_Y := (yX8_hunter, cX8_hunter, 4, (some .int))
theorem ok_X8_hunter : g_okV YX8_hunter 3 := ⟨⟨g_in2 (l := gl_5_2) 9 ck_5_2 rfl rfl, wi_RX8, ⟨by decide, by decide, by decide +kernel⟩, by decide⟩, g_in2 (l := gl_5_2) 7 ck_5_2 rfl rfl, g_in2 (l := gl_5_2) 8 ck_5_2 rfl rfl⟩
abbrev YX8_meets : g_Y := (yX8_meets, cX8_meets, 4, none)
theorem ok_X8_meets : g_okV YX8_meets 3 := ⟨⟨g_in2 (l := gl_5_3) 9 ck_5_3 rfl rfl, wi_RX8, ⟨by decide, by decide, by decide +kernel⟩, by decide⟩, g_in2 (l := gl_5_3) 8 ck_5_3 rfl rfl, g_inS (by decide +kernel) rfl⟩
abbrev YX8_friends : g_Y := (yX8_friends, cX8_friends, 5, (some .int))
theorem ok_X8_friends : g_okV YX8_friends 3 := ⟨⟨g_in2 (l := gl_5_2) 13 ck_5_2 rfl rfl, wi_RX8, ⟨by decide, by decide, by decide +kernel⟩, by decide⟩, g_in2 (l := gl_5_2) 11 ck_5_2 rfl rfl, g_in2 (l := gl_5_2) 12 ck_5_2 rfl rfl⟩
abbrev YX8_put : g_Y := (yX8_put, cX8_put, 5, (some .int))
theorem ok_X8_put : g_okV YX8_put 3 := ⟨⟨g_in2 (l := gl_5_3) 13 ck_5_3 rfl rfl, wi_RX8, ⟨by decide, by decide, by decide +kernel⟩, by decide⟩, g_in2 (l := gl_5_3) 11 ck_5_3 rfl rfl, g_in2 (l := gl_5_3) 12 ck_5_3 rfl rfl⟩
abbrev YX8_gainsOf : g_Y := (yX8_gainsOf, cX8_gainsOf, 3, (some .int))
theorem ok_X8_gainsOf : g_okV YX8_gainsOf 1 := ⟨⟨g_in2 (l := gl_5_5) 1 ck_5_5 rfl rfl, wi_RX8, ⟨by decide, by decide, by decide +kernel⟩, by decide⟩, g_in2 (l := gl_5_5) 0 ck_5_5 rfl rfl, g_inS (by decide +kernel) rfl⟩
abbrev YX8_hitsOf : g_Y := (yX8_hitsOf, cX8_hitsOf, 7, (some .int))
theorem ok_X8_hitsOf : g_okV YX8_hitsOf 2 := ⟨⟨g_in2 (l := gl_5_4) 5 ck_5_4 rfl rfl, wi_RX8, ⟨by decide, by decide, by decide +kernel⟩, by decide⟩, g_in2 (l := gl_5_4) 4 ck_5_4 rfl rfl, g_inS (by decide +kernel) rfl⟩
abbrev YX8_doesWill : g_Y := (yX8_doesWill, cX8_doesWill, 3, (some .boolean))
theorem ok_X8_doesWill : g_okV YX8_doesWill 1 := ⟨⟨g_in2 (l := gl_5_4) 13 ck_5_4 rfl rfl, wi_RX8, ⟨by decide, by decide, by decide +kernel⟩, by decide⟩, g_in2 (l := gl_5_4) 12 ck_5_4 rfl rfl, g_inS (by decide +kernel) rfl⟩
abbrev YX8_hits : g_Y := (yX8_hits, cX8_hits, 3, (some .int))
theorem ok_X8_hits : g_okV YX8_hits 2 := ⟨⟨g_in2 (l := gl_5_4) 1 ck_5_4 rfl rfl, wi_RX8, ⟨by decide, by decide, by decide +kernel⟩, by decide⟩, g_in2 (l := gl_5_3) 15 ck_5_3 rfl rfl, g_in2 (l := gl_5_4) 0 ck_5_4 rfl rfl⟩
abbrev YX8_tellsWilling : g_Y := (yX8_tellsWilling, cX8_tellsWilling, 2, none)
theorem ok_X8_tellsWilling : g_okV YX8_tellsWilling 0 := ⟨⟨g_in2 (l := gl_5_5) 9 ck_5_5 rfl rfl, wi_RX8, ⟨by decide, by decide, by decide +kernel⟩, by decide⟩, g_in2 (l := gl_5_5) 8 ck_5_5 rfl rfl, g_inS (by decide +kernel) rfl⟩
abbrev YX8_tellsFar : g_Y := (yX8_tellsFar, cX8_tellsFar, 6, none)
theorem ok_X8_tellsFar : g_okV YX8_tellsFar 1 := ⟨⟨g_in2 (l := gl_5_5) 13 ck_5_5 rfl rfl, wi_RX8, ⟨by decide, by decide, by decide +kernel⟩, by decide⟩, g_in2 (l := gl_5_5) 12 ck_5_5 rfl rfl, g_inS (by decide +kernel) rfl⟩
abbrev YX8_sponsorBy : g_Y := (yX8_sponsorBy, cX8_sponsorBy, 7, (some .int))
theorem ok_X8_sponsorBy : g_okV YX8_sponsorBy 2 := ⟨⟨g_in2 (l := gl_5_6) 1 ck_5_6 rfl rfl, wi_RX8, ⟨by decide, by decide, by decide +kernel⟩, by decide⟩, g_in2 (l := gl_5_6) 0 ck_5_6 rfl rfl, g_inS (by decide +kernel) rfl⟩
abbrev YX8_sponsored : g_Y := (yX8_sponsored, cX8_sponsored, 4, (some .int))
theorem ok_X8_sponsored : g_okV YX8_sponsored 1 := ⟨⟨g_in2 (l := gl_5_5) 5 ck_5_5 rfl rfl, wi_RX8, ⟨by decide, by decide, by decide +kernel⟩, by decide⟩, g_in2 (l := gl_5_5) 4 ck_5_5 rfl rfl, g_inS (by decide +kernel) rfl⟩
abbrev YX8_told : g_Y := (yX8_told, cX8_told, 3, (some .int))
theorem ok_X8_told : g_okV YX8_told 2 := ⟨⟨g_in2 (l := gl_5_4) 9 ck_5_4 rfl rfl, wi_RX8, ⟨by decide, by decide, by decide +kernel⟩, by decide⟩, g_in2 (l := gl_5_4) 7 ck_5_4 rfl rfl, g_in2 (l := gl_5_4) 8 ck_5_4 rfl rfl⟩
abbrev YX8_gainsBy : g_Y := (yX8_gainsBy, cX8_gainsBy, 2, (some .int))
theorem ok_X8_gainsBy : g_okV YX8_gainsBy 1 := ⟨⟨g_in2 (l := gl_5_6) 13 ck_5_6 rfl rfl, wi_RX8, ⟨by decide, by decide, by decide +kernel⟩, by decide⟩, g_in2 (l := gl_5_6) 12 ck_5_6 rfl rfl, g_inS (by decide +kernel) rfl⟩
abbrev YX8_meet : g_Y := (yX8_meet, cX8_meet, 4, (some .int))
theorem ok_X8_meet : g_okV YX8_meet 3 := ⟨⟨g_in2 (l := gl_5_6) 9 ck_5_6 rfl rfl, wi_RX8, ⟨by decide, by decide, by decide +kernel⟩, by decide⟩, g_in2 (l := gl_5_6) 7 ck_5_6 rfl rfl, g_in2 (l := gl_5_6) 8 ck_5_6 rfl rfl⟩
abbrev YX8_present : g_Y := (yX8_present, cX8_present, 5, (some .int))
theorem ok_X8_present : g_okV YX8_present 3 := ⟨⟨g_in2 (l := gl_5_7) 1 ck_5_7 rfl rfl, wi_RX8, ⟨by decide, by decide, by decide +kernel⟩, by decide⟩, g_in2 (l := gl_5_6) 15 ck_5_6 rfl rfl, g_in2 (l := gl_5_7) 0 ck_5_7 rfl rfl⟩
abbrev YX8_circle : g_Y := (yX8_circle, cX8_circle, 5, (some .int))
theorem ok_X8_circle : g_okV YX8_circle 2 := ⟨⟨g_in2 (l := gl_5_7) 5 ck_5_7 rfl rfl, wi_RX8, ⟨by decide, by decide, by decide +kernel⟩, by decide⟩, g_in2 (l := gl_5_7) 3 ck_5_7 rfl rfl, g_in2 (l := gl_5_7) 4 ck_5_7 rfl rfl⟩
abbrev YX8_digitsTo : g_Y := (yX8_digitsTo, cX8_digitsTo, 8, (some .int))
theorem ok_X8_digitsTo : g_okV YX8_digitsTo 1 := ⟨⟨g_in2 (l := gl_5_7) 13 ck_5_7 rfl rfl, wi_RX8, ⟨by decide, by decide, by decide +kernel⟩, by decide⟩, g_in2 (l := gl_5_7) 12 ck_5_7 rfl rfl, g_inS (by decide +kernel) rfl⟩
abbrev YX8_way : g_Y := (yX8_way, cX8_way, 5, (some .int))
theorem ok_X8_way : g_okV YX8_way 3 := ⟨⟨g_in2 (l := gl_5_7) 9 ck_5_7 rfl rfl, wi_RX8, ⟨by decide, by decide, by decide +kernel⟩, by decide⟩, g_in2 (l := gl_5_7) 7 ck_5_7 rfl rfl, g_in2 (l := gl_5_7) 8 ck_5_7 rfl rfl⟩
abbrev YX8_aimOf : g_Y := (yX8_aimOf, cX8_aimOf, 3, (some .int))
theorem ok_X8_aimOf : g_okV YX8_aimOf 2 := ⟨⟨g_in2 (l := gl_5_8) 9 ck_5_8 rfl rfl, wi_RX8, ⟨by decide, by decide, by decide +kernel⟩, by decide⟩, g_in2 (l := gl_5_8) 8 ck_5_8 rfl rfl, g_inS (by decide +kernel) rfl⟩
abbrev YX8_shotOf : g_Y := (yX8_shotOf, cX8_shotOf, 5, (some .int))
theorem ok_X8_shotOf : g_okV YX8_shotOf 2 := ⟨⟨g_in2 (l := gl_5_8) 5 ck_5_8 rfl rfl, wi_RX8, ⟨by decide, by decide, by decide +kernel⟩, by decide⟩, g_in2 (l := gl_5_8) 4 ck_5_8 rfl rfl, g_inS (by decide +kernel) rfl⟩
abbrev YX8_shoot : g_Y := (yX8_shoot, cX8_shoot, 3, (some .int))
theorem ok_X8_shoot : g_okV YX8_shoot 2 := ⟨⟨g_in2 (l := gl_5_8) 1 ck_5_8 rfl rfl, wi_RX8, ⟨by decide, by decide, by decide +kernel⟩, by decide⟩, g_in2 (l := gl_5_7) 15 ck_5_7 rfl rfl, g_in2 (l := gl_5_8) 0 ck_5_8 rfl rfl⟩
abbrev YX8_aims : g_Y := (yX8_aims, cX8_aims, 3, (some .int))
theorem ok_X8_aims : g_okV YX8_aims 2 := ⟨⟨g_in2 (l := gl_5_8) 13 ck_5_8 rfl rfl, wi_RX8, ⟨by decide, by decide, by decide +kernel⟩, by decide⟩, g_in2 (l := gl_5_8) 11 ck_5_8 rfl rfl, g_in2 (l := gl_5_8) 12 ck_5_8 rfl rfl⟩
abbrev YX8_keeps : g_Y := (yX8_keeps, cX8_keeps, 2, none)
theorem ok_X8_keeps : g_okV YX8_keeps 0 := ⟨⟨g_in2 (l := gl_5_9) 13 ck_5_9 rfl rfl, wi_RX8, ⟨by decide, by decide, by decide +kernel⟩, by decide⟩, g_in2 (l := gl_5_9) 12 ck_5_9 rfl rfl, g_inS (by decide +kernel) rfl⟩
abbrev YX8_lays : g_Y := (yX8_lays, cX8_lays, 2, none)
theorem ok_X8_lays : g_okV YX8_lays 0 := ⟨⟨g_in2 (l := gl_5_10) 5 ck_5_10 rfl rfl, wi_RX8, ⟨by decide, by decide, by decide +kernel⟩, by decide⟩, g_in2 (l := gl_5_10) 4 ck_5_10 rfl rfl, g_inS (by decide +kernel) rfl⟩
abbrev YX8_seasonWrong : g_Y := (yX8_seasonWrong, cX8_seasonWrong, 3, (some .int))
theorem ok_X8_seasonWrong : g_okV YX8_seasonWrong 1 := ⟨⟨g_in2 (l := gl_5_9) 9 ck_5_9 rfl rfl, wi_RX8, ⟨by decide, by decide, by decide +kernel⟩, by decide⟩, g_in2 (l := gl_5_9) 8 ck_5_9 rfl rfl, g_inS (by decide +kernel) rfl⟩
abbrev YX8_oneWrong : g_Y := (yX8_oneWrong, cX8_oneWrong, 4, (some .int))
theorem ok_X8_oneWrong : g_okV YX8_oneWrong 2 := ⟨⟨g_in2 (l := gl_5_9) 5 ck_5_9 rfl rfl, wi_RX8, ⟨by decide, by decide, by decide +kernel⟩, by decide⟩, g_in2 (l := gl_5_9) 4 ck_5_9 rfl rfl, g_inS (by decide +kernel) rfl⟩
abbrev YX8_goes : g_Y := (yX8_goes, cX8_goes, 4, none)
theorem ok_X8_goes : g_okV YX8_goes 2 := ⟨⟨g_in2 (l := gl_5_10) 1 ck_5_10 rfl rfl, wi_RX8, ⟨by decide, by decide, by decide +kernel⟩, by decide⟩, g_in2 (l := gl_5_10) 0 ck_5_10 rfl rfl, g_inS (by decide +kernel) rfl⟩
abbrev YX8_season : g_Y := (yX8_season, cX8_season, 6, (some .int))
theorem ok_X8_season : g_okV YX8_season 3 := ⟨⟨g_in2 (l := gl_5_9) 1 ck_5_9 rfl rfl, wi_RX8, ⟨by decide, by decide, by decide +kernel⟩, by decide⟩, g_in2 (l := gl_5_8) 15 ck_5_8 rfl rfl, g_in2 (l := gl_5_9) 0 ck_5_9 rfl rfl⟩
abbrev YX8_hunt : g_Y := (yX8_hunt, cX8_hunt, 4, (some .int))
theorem ok_X8_hunt : g_okV YX8_hunt 2 := ⟨⟨g_in2 (l := gl_5_10) 9 ck_5_10 rfl rfl, wi_RX8, ⟨by decide, by decide, by decide +kernel⟩, by decide⟩, g_in2 (l := gl_5_10) 7 ck_5_10 rfl rfl, g_in2 (l := gl_5_10) 8 ck_5_10 rfl rfl⟩
abbrev YX8_sponsoredAll : g_Y := (yX8_sponsoredAll, cX8_sponsoredAll, 3, (some .int))
theorem ok_X8_sponsoredAll : g_okV YX8_sponsoredAll 0 := ⟨⟨g_in2 (l := gl_5_11) 1 ck_5_11 rfl rfl, wi_RX8, ⟨by decide, by decide, by decide +kernel⟩, by decide⟩, g_in2 (l := gl_5_11) 0 ck_5_11 rfl rfl, g_inS (by decide +kernel) rfl⟩
abbrev YX8_ball : g_Y := (yX8_ball, cX8_ball, 7, (some .int))
theorem ok_X8_ball : g_okV YX8_ball 1 := ⟨⟨g_in2 (l := gl_5_10) 13 ck_5_10 rfl rfl, wi_RX8, ⟨by decide, by decide, by decide +kernel⟩, by decide⟩, g_in2 (l := gl_5_10) 11 ck_5_10 rfl rfl, g_in2 (l := gl_5_10) 12 ck_5_10 rfl rfl⟩
abbrev YX8_safest : g_Y := (yX8_safest, cX8_safest, 7, (some .int))
theorem ok_X8_safest : g_okV YX8_safest 1 := ⟨⟨g_in2 (l := gl_5_11) 5 ck_5_11 rfl rfl, wi_RX8, ⟨by decide, by decide, by decide +kernel⟩, by decide⟩, g_in2 (l := gl_5_11) 3 ck_5_11 rfl rfl, g_in2 (l := gl_5_11) 4 ck_5_11 rfl rfl⟩
abbrev YX8_prize : g_Y := (yX8_prize, cX8_prize, 8, (some .int))
theorem ok_X8_prize : g_okV YX8_prize 2 := ⟨⟨g_in2 (l := gl_5_11) 9 ck_5_11 rfl rfl, wi_RX8, ⟨by decide, by decide, by decide +kernel⟩, by decide⟩, g_in2 (l := gl_5_11) 7 ck_5_11 rfl rfl, g_in2 (l := gl_5_11) 8 ck_5_11 rfl rfl⟩
abbrev YX8_lowest : g_Y := (yX8_lowest, cX8_lowest, 11, (some .long))
theorem ok_X8_lowest : g_okT YX8_lowest 3 := ⟨⟨g_in2 (l := gl_5_12) 1 ck_5_12 rfl rfl, wi_RX8, ⟨by decide, by decide, by decide +kernel⟩, by decide⟩, g_in2 (l := gl_5_12) 0 ck_5_12 rfl rfl⟩
abbrev YX8_society : g_Y := (yX8_society, cX8_society, 4, (some .long))
theorem ok_X8_society : g_okV YX8_society 1 := ⟨⟨g_in2 (l := gl_5_11) 13 ck_5_11 rfl rfl, wi_RX8, ⟨by decide, by decide, by decide +kernel⟩, by decide⟩, g_in2 (l := gl_5_11) 11 ck_5_11 rfl rfl, g_in2 (l := gl_5_11) 12 ck_5_11 rfl rfl⟩
abbrev YX8_twoWrong : g_Y := (yX8_twoWrong, cX8_twoWrong, 4, (some .int))
theorem ok_X8_twoWrong : g_okV YX8_twoWrong 2 := ⟨⟨g_in2 (l := gl_5_12) 13 ck_5_12 rfl rfl, wi_RX8, ⟨by decide, by decide, by decide +kernel⟩, by decide⟩, g_in2 (l := gl_5_12) 12 ck_5_12 rfl rfl, g_inS (by decide +kernel) rfl⟩
abbrev YX8_toldWrong : g_Y := (yX8_toldWrong, cX8_toldWrong, 5, (some .int))
theorem ok_X8_toldWrong : g_okV YX8_toldWrong 3 := ⟨⟨g_in2 (l := gl_5_12) 9 ck_5_12 rfl rfl, wi_RX8, ⟨by decide, by decide, by decide +kernel⟩, by decide⟩, g_in2 (l := gl_5_12) 8 ck_5_12 rfl rfl, g_inS (by decide +kernel) rfl⟩
abbrev YX8_unlike : g_Y := (yX8_unlike, cX8_unlike, 6, (some .int))
theorem ok_X8_unlike : g_okV YX8_unlike 3 := ⟨⟨g_in2 (l := gl_5_13) 1 ck_5_13 rfl rfl, wi_RX8, ⟨by decide, by decide, by decide +kernel⟩, by decide⟩, g_in2 (l := gl_5_13) 0 ck_5_13 rfl rfl, g_inS (by decide +kernel) rfl⟩
abbrev YX8_judge : g_Y := (yX8_judge, cX8_judge, 5, (some .int))
theorem ok_X8_judge : g_okV YX8_judge 3 := ⟨⟨g_in2 (l := gl_5_12) 5 ck_5_12 rfl rfl, wi_RX8, ⟨by decide, by decide, by decide +kernel⟩, by decide⟩, g_in2 (l := gl_5_12) 3 ck_5_12 rfl rfl, g_in2 (l := gl_5_12) 4 ck_5_12 rfl rfl⟩
abbrev YX8_kinds : g_Y := (yX8_kinds, cX8_kinds, 10, (some .int))
theorem ok_X8_kinds : g_okV YX8_kinds 4 := ⟨⟨g_in2 (l := gl_5_13) 5 ck_5_13 rfl rfl, wi_RX8, ⟨by decide, by decide, by decide +kernel⟩, by decide⟩, g_in2 (l := gl_5_13) 3 ck_5_13 rfl rfl, g_in2 (l := gl_5_13) 4 ck_5_13 rfl rfl⟩
abbrev YX8_turned : g_Y := (yX8_turned, cX8_turned, 8, (some .int))
theorem ok_X8_turned : g_okV YX8_turned 3 := ⟨⟨g_in2 (l := gl_5_13) 9 ck_5_13 rfl rfl, wi_RX8, ⟨by decide, by decide, by decide +kernel⟩, by decide⟩, g_in2 (l := gl_5_13) 7 ck_5_13 rfl rfl, g_in2 (l := gl_5_13) 8 ck_5_13 rfl rfl⟩
abbrev YX8_honours : g_Y := (yX8_honours, cX8_honours, 11, (some .int))
theorem ok_X8_honours : g_okV YX8_honours 4 := ⟨⟨g_in2 (l := gl_5_13) 13 ck_5_13 rfl rfl, wi_RX8, ⟨by decide, by decide, by decide +kernel⟩, by decide⟩, g_in2 (l := gl_5_13) 11 ck_5_13 rfl rfl, g_in2 (l := gl_5_13) 12 ck_5_13 rfl rfl⟩
abbrev YX8_whose : g_Y := (yX8_whose, cX8_whose, 6, (some .int))
theorem ok_X8_whose : g_okV YX8_whose 2 := ⟨⟨g_in2 (l := gl_5_14) 1 ck_5_14 rfl rfl, wi_RX8, ⟨by decide, by decide, by decide +kernel⟩, by decide⟩, g_in2 (l := gl_5_13) 15 ck_5_13 rfl rfl, g_in2 (l := gl_5_14) 0 ck_5_14 rfl rfl⟩
abbrev YX8_laws : g_Y := (yX8_laws, cX8_laws, 8, (some .int))
theorem ok_X8_laws : g_okV YX8_laws 3 := ⟨⟨g_in2 (l := gl_5_14) 5 ck_5_14 rfl rfl, wi_RX8, ⟨by decide, by decide, by decide +kernel⟩, by decide⟩, g_in2 (l := gl_5_14) 3 ck_5_14 rfl rfl, g_in2 (l := gl_5_14) 4 ck_5_14 rfl rfl⟩
abbrev YX8_film : g_Y := (yX8_film, cX8_film, 6, (some .int))
theorem ok_X8_film : g_okV YX8_film 3 := ⟨⟨g_in2 (l := gl_5_14) 9 ck_5_14 rfl rfl, wi_RX8, ⟨by decide, by decide, by decide +kernel⟩, by decide⟩, g_in2 (l := gl_5_14) 7 ck_5_14 rfl rfl, g_in2 (l := gl_5_14) 8 ck_5_14 rfl rfl⟩
abbrev YX8_lotSeasons : g_Y := (yX8_lotSeasons, cX8_lotSeasons, 7, (some .int))
theorem ok_X8_lotSeasons : g_okV YX8_lotSeasons 2 := ⟨⟨g_in2 (l := gl_6_0) 2 ck_6_0 rfl rfl, wi_RX8, ⟨by decide, by decide, by decide +kernel⟩, by decide⟩, g_in2 (l := gl_6_0) 1 ck_6_0 rfl rfl, g_inS (by decide +kernel) rfl⟩
abbrev YX8_drawn : g_Y := (yX8_drawn, cX8_drawn, 5, (some .int))
theorem ok_X8_drawn : g_okV YX8_drawn 3 := ⟨⟨g_in2 (l := gl_5_14) 13 ck_5_14 rfl rfl, wi_RX8, ⟨by decide, by decide, by decide +kernel⟩, by decide⟩, g_in2 (l := gl_5_14) 11 ck_5_14 rfl rfl, g_in2 (l := gl_5_14) 12 ck_5_14 rfl rfl⟩
abbrev YX8_odds : g_Y := (yX8_odds, cX8_odds, 8, (some .long))
theorem ok_X8_odds : g_okV YX8_odds 4 := ⟨⟨g_in2 (l := gl_6_0) 10 ck_6_0 rfl rfl, wi_RX8, ⟨by decide, by decide, by decide +kernel⟩, by decide⟩, g_in2 (l := gl_6_0) 8 ck_6_0 rfl rfl, g_in2 (l := gl_6_0) 9 ck_6_0 rfl rfl⟩
abbrev YX8_image : g_Y := (yX8_image, cX8_image, 2, (some .int))
theorem ok_X8_image : g_okV YX8_image 0 := ⟨⟨g_in2 (l := gl_6_0) 14 ck_6_0 rfl rfl, wi_RX8, ⟨by decide, by decide, by decide +kernel⟩, by decide⟩, g_in2 (l := gl_6_0) 12 ck_6_0 rfl rfl, g_in2 (l := gl_6_0) 13 ck_6_0 rfl rfl⟩
abbrev YX8_back : g_Y := (yX8_back, cX8_back, 2, (some .int))
theorem ok_X8_back : g_okV YX8_back 0 := ⟨⟨g_in2 (l := gl_6_1) 2 ck_6_1 rfl rfl, wi_RX8, ⟨by decide, by decide, by decide +kernel⟩, by decide⟩, g_in2 (l := gl_6_1) 0 ck_6_1 rfl rfl, g_in2 (l := gl_6_1) 1 ck_6_1 rfl rfl⟩
abbrev YX8_sheet : g_Y := (yX8_sheet, cX8_sheet, 5, (some .int))
theorem ok_X8_sheet : g_okV YX8_sheet 3 := ⟨⟨g_in2 (l := gl_6_1) 6 ck_6_1 rfl rfl, wi_RX8, ⟨by decide, by decide, by decide +kernel⟩, by decide⟩, g_in2 (l := gl_6_1) 4 ck_6_1 rfl rfl, g_in2 (l := gl_6_1) 5 ck_6_1 rfl rfl⟩
abbrev YX8_cell : g_Y := (yX8_cell, cX8_cell, 4, (some .int))
theorem ok_X8_cell : g_okV YX8_cell 3 := ⟨⟨g_in2 (l := gl_6_1) 10 ck_6_1 rfl rfl, wi_RX8, ⟨by decide, by decide, by decide +kernel⟩, by decide⟩, g_in2 (l := gl_6_1) 8 ck_6_1 rfl rfl, g_in2 (l := gl_6_1) 9 ck_6_1 rfl rfl⟩
abbrev YX8_copy : g_Y := (yX8_copy, cX8_copy, 10, (some .int))
theorem ok_X8_copy : g_okV YX8_copy 5 := ⟨⟨g_in2 (l := gl_6_1) 14 ck_6_1 rfl rfl, wi_RX8, ⟨by decide, by decide, by decide +kernel⟩, by decide⟩, g_in2 (l := gl_6_1) 12 ck_6_1 rfl rfl, g_in2 (l := gl_6_1) 13 ck_6_1 rfl rfl⟩
abbrev YX8_huntersBy : g_Y := (yX8_huntersBy, cX8_huntersBy, 9, (some .int))
theorem ok_X8_huntersBy : g_okV YX8_huntersBy 4 := ⟨⟨g_in2 (l := gl_6_2) 2 ck_6_2 rfl rfl, wi_RX8, ⟨by decide, by decide, by decide +kernel⟩, by decide⟩, g_in2 (l := gl_6_2) 0 ck_6_2 rfl rfl, g_in2 (l := gl_6_2) 1 ck_6_2 rfl rfl⟩
abbrev YX8_isUnder : g_Y := (yX8_isUnder, cX8_isUnder, 2, (some .boolean))
theorem ok_X8_isUnder : g_okT YX8_isUnder 2 := ⟨⟨g_in2 (l := gl_6_2) 10 ck_6_2 rfl rfl, wi_RX8, ⟨by decide, by decide, by decide +kernel⟩, by decide⟩, g_in2 (l := gl_6_2) 9 ck_6_2 rfl rfl⟩
abbrev YX8_taken : g_Y := (yX8_taken, cX8_taken, 4, (some .int))
theorem ok_X8_taken : g_okV YX8_taken 2 := ⟨⟨g_in2 (l := gl_6_2) 7 ck_6_2 rfl rfl, wi_RX8, ⟨by decide, by decide, by decide +kernel⟩, by decide⟩, g_in2 (l := gl_6_2) 5 ck_6_2 rfl rfl, g_in2 (l := gl_6_2) 6 ck_6_2 rfl rfl⟩
abbrev YJ6_bitCount_0f7a4 : g_Y := (yJ6_bitCount_0f7a4, cJ6_bitCount_0f7a4, 1, (some .int))
theorem ok_J6_bitCount_0f7a4 : g_okT YJ6_bitCount_0f7a4 1 := ⟨⟨g_in2 (l := gl_2_9) 14 ck_2_9 rfl rfl, wi_RJ6, ⟨by decide, by decide, by decide +kernel⟩, by decide⟩, g_in2 (l := gl_2_9) 13 ck_2_9 rfl rfl⟩
abbrev YJ9_max_7cf53 : g_Y := (yJ9_max_7cf53, cJ9_max_7cf53, 2, (some .int))
theorem ok_J9_max_7cf53 : g_okT YJ9_max_7cf53 2 := ⟨⟨g_in2 (l := gl_2_14) 1 ck_2_14 rfl rfl, wi_RJ9, ⟨by decide, by decide, by decide +kernel⟩, by decide⟩, g_in2 (l := gl_2_14) 0 ck_2_14 rfl rfl⟩
abbrev YJ9_min_7cf53 : g_Y := (yJ9_min_7cf53, cJ9_min_7cf53, 2, (some .int))
theorem ok_J9_min_7cf53 : g_okT YJ9_min_7cf53 2 := ⟨⟨g_in2 (l := gl_2_13) 14 ck_2_13 rfl rfl, wi_RJ9, ⟨by decide, by decide, by decide +kernel⟩, by decide⟩, g_in2 (l := gl_2_13) 13 ck_2_13 rfl rfl⟩
abbrev YJ0_length_8abf5 : g_Y := (yJ0_length_8abf5, cJ0_length_8abf5, 1, (some .int))
theorem ok_J0_length_8abf5 : g_okV YJ0_length_8abf5 0 := ⟨⟨g_in2 (l := gl_1_12) 8 ck_1_12 rfl rfl, wi_RJ0, ⟨by decide, by decide, by decide +kernel⟩, by decide⟩, g_in2 (l := gl_1_12) 6 ck_1_12 rfl rfl, g_in2 (l := gl_1_12) 7 ck_1_12 rfl rfl⟩
abbrev YJ0_charAt_5068e : g_Y := (yJ0_charAt_5068e, cJ0_charAt_5068e, 2, (some .char))
theorem ok_J0_charAt_5068e : g_okV YJ0_charAt_5068e 1 := ⟨⟨g_in2 (l := gl_1_13) 2 ck_1_13 rfl rfl, wi_RJ0, ⟨by decide, by decide, by decide +kernel⟩, by decide⟩, g_in2 (l := gl_1_13) 0 ck_1_13 rfl rfl, g_in2 (l := gl_1_13) 1 ck_1_13 rfl rfl⟩
abbrev YJ0_coder_7d493 : g_Y := (yJ0_coder_7d493, cJ0_coder_7d493, 1, (some .byte))
theorem ok_J0_coder_7d493 : g_okV YJ0_coder_7d493 0 := ⟨⟨g_in2 (l := gl_1_12) 12 ck_1_12 rfl rfl, wi_RJ0, ⟨by decide, by decide, by decide +kernel⟩, by decide⟩, g_in2 (l := gl_1_12) 10 ck_1_12 rfl rfl, g_in2 (l := gl_1_12) 11 ck_1_12 rfl rfl⟩
abbrev YJ0_isLatin1_aae02 : g_Y := (yJ0_isLatin1_aae02, cJ0_isLatin1_aae02, 1, (some .boolean))
theorem ok_J0_isLatin1_aae02 : g_okV YJ0_isLatin1_aae02 0 := ⟨⟨g_in2 (l := gl_1_13) 6 ck_1_13 rfl rfl, wi_RJ0, ⟨by decide, by decide, by decide +kernel⟩, by decide⟩, g_in2 (l := gl_1_13) 4 ck_1_13 rfl rfl, g_in2 (l := gl_1_13) 5 ck_1_13 rfl rfl⟩
abbrev YJ0_checkIndex_df160 : g_Y := (yJ0_checkIndex_df160, cJ0_checkIndex_df160, 2, none)
theorem ok_J0_checkIndex_df160 : g_okT YJ0_checkIndex_df160 2 := ⟨⟨g_in2 (l := gl_1_13) 12 ck_1_13 rfl rfl, wi_RJ0, ⟨by decide, by decide, by decide +kernel⟩, by decide⟩, g_in2 (l := gl_1_13) 11 ck_1_13 rfl rfl⟩
abbrev YJ1_charAt_3b067 : g_Y := (yJ1_charAt_3b067, cJ1_charAt_3b067, 2, (some .char))
theorem ok_J1_charAt_3b067 : g_okT YJ1_charAt_3b067 2 := ⟨⟨g_in2 (l := gl_1_13) 9 ck_1_13 rfl rfl, wi_RJ1, ⟨by decide, by decide, by decide +kernel⟩, by decide⟩, g_in2 (l := gl_1_13) 8 ck_1_13 rfl rfl⟩
abbrev YJ2_getChar_3b067 : g_Y := (yJ2_getChar_3b067, cJ2_getChar_3b067, 2, (some .char))
theorem ok_J2_getChar_3b067 : g_okT YJ2_getChar_3b067 2 := ⟨⟨g_in2 (l := gl_1_14) 14 ck_1_14 rfl rfl, wi_RJ2, ⟨by decide, by decide, by decide +kernel⟩, by decide⟩, g_in2 (l := gl_1_14) 13 ck_1_14 rfl rfl⟩
abbrev YJ2_length_9d52b : g_Y := (yJ2_length_9d52b, cJ2_length_9d52b, 1, (some .int))
theorem ok_J2_length_9d52b : g_okT YJ2_length_9d52b 1 := ⟨⟨g_in2 (l := gl_1_14) 10 ck_1_14 rfl rfl, wi_RJ2, ⟨by decide, by decide, by decide +kernel⟩, by decide⟩, g_in2 (l := gl_1_14) 9 ck_1_14 rfl rfl⟩
abbrev YJ2_charAt_3b067 : g_Y := (yJ2_charAt_3b067, cJ2_charAt_3b067, 2, (some .char))
theorem ok_J2_charAt_3b067 : g_okT YJ2_charAt_3b067 2 := ⟨⟨g_in2 (l := gl_1_14) 4 ck_1_14 rfl rfl, wi_RJ2, ⟨by decide, by decide, by decide +kernel⟩, by decide⟩, g_in2 (l := gl_1_14) 3 ck_1_14 rfl rfl⟩
abbrev YJ2_checkIndex_2214a : g_Y := (yJ2_checkIndex_2214a, cJ2_checkIndex_2214a, 2, none)
theorem ok_J2_checkIndex_2214a : g_okT YJ2_checkIndex_2214a 2 := ⟨⟨g_in2 (l := gl_1_14) 7 ck_1_14 rfl rfl, wi_RJ2, ⟨by decide, by decide, by decide +kernel⟩, by decide⟩, g_in2 (l := gl_1_14) 6 ck_1_14 rfl rfl⟩
abbrev YJ3_checkIndex_8e157 : g_Y := (yJ3_checkIndex_8e157, cJ3_checkIndex_8e157, 3, (some .int))
theorem ok_J3_checkIndex_8e157 : g_okT YJ3_checkIndex_8e157 3 := ⟨⟨g_in2 (l := gl_1_14) 1 ck_1_14 rfl rfl, wi_RJ3, ⟨by decide, by decide, by decide +kernel⟩, by decide⟩, g_in2 (l := gl_1_14) 0 ck_1_14 rfl rfl⟩
abbrev YL_law : g_Y := (yL_law, cL_law, 4, some .boolean)
theorem lk_RL_9 : Cond.methodLink RL 9 yX7_init ∈ g_T := g_in2 (l := gl_1_1) 3 ck_1_1 rfl rfl
theorem lk_RX7_1 : Cond.methodLink RX7 1 Lib.objectInit ∈ g_T := g_in2 (l := gl_1_1) 6 ck_1_1 rfl rfl
theorem lk_RX0_3 : Cond.methodLink RX0 3 Lib.objectInit ∈ g_T := g_in2 (l := gl_1_1) 14 ck_1_1 rfl rfl
theorem lk_RX2_3 : Cond.methodLink RX2 3 Lib.objectInit ∈ g_T := g_in2 (l := gl_1_5) 14 ck_1_5 rfl rfl
theorem lk_RX3_3 : Cond.methodLink RX3 3 Lib.objectInit ∈ g_T := g_in2 (l := gl_1_8) 7 ck_1_8 rfl rfl
theorem lk_RX6_3 : Cond.methodLink RX6 3 Lib.objectInit ∈ g_T := g_in2 (l := gl_1_9) 13 ck_1_9 rfl rfl
theorem lk_RX1_1 : Cond.methodLink RX1 1 Lib.objectInit ∈ g_T := g_in2 (l := gl_1_10) 11 ck_1_10 rfl rfl
theorem lk_RX4_3 : Cond.methodLink RX4 3 Lib.objectInit ∈ g_T := g_in2 (l := gl_1_11) 6 ck_1_11 rfl rfl
theorem lk_RX7_63 : Cond.methodLink RX7 63 yJ0_length_8abf5 ∈ g_T := g_in2 (l := gl_1_12) 5 ck_1_12 rfl rfl
theorem lk_RJ0_335 : Cond.methodLink RJ0 335 yJ0_coder_7d493 ∈ g_T := g_in2 (l := gl_1_12) 9 ck_1_12 rfl rfl
theorem lk_RX7_69 : Cond.methodLink RX7 69 yJ0_charAt_5068e ∈ g_T := g_in2 (l := gl_1_12) 15 ck_1_12 rfl rfl
theorem lk_RJ0_492 : Cond.methodLink RJ0 492 yJ0_isLatin1_aae02 ∈ g_T := g_in2 (l := gl_1_13) 3 ck_1_13 rfl rfl
theorem lk_RJ0_495 : Cond.methodLink RJ0 495 yJ1_charAt_3b067 ∈ g_T := g_in2 (l := gl_1_13) 7 ck_1_13 rfl rfl
theorem lk_RJ1_9 : Cond.methodLink RJ1 9 yJ0_checkIndex_df160 ∈ g_T := g_in2 (l := gl_1_13) 10 ck_1_13 rfl rfl
theorem lk_RJ0_1059 : Cond.methodLink RJ0 1059 yJ3_checkIndex_8e157 ∈ g_T := g_in2 (l := gl_1_13) 15 ck_1_13 rfl rfl
theorem lk_RJ0_498 : Cond.methodLink RJ0 498 yJ2_charAt_3b067 ∈ g_T := g_in2 (l := gl_1_14) 2 ck_1_14 rfl rfl
theorem lk_RJ2_67 : Cond.methodLink RJ2 67 yJ2_checkIndex_2214a ∈ g_T := g_in2 (l := gl_1_14) 5 ck_1_14 rfl rfl
theorem lk_RJ2_48 : Cond.methodLink RJ2 48 yJ2_length_9d52b ∈ g_T := g_in2 (l := gl_1_14) 8 ck_1_14 rfl rfl
theorem lk_RJ2_414 : Cond.methodLink RJ2 414 yJ0_checkIndex_df160 ∈ g_T := g_in2 (l := gl_1_14) 11 ck_1_14 rfl rfl
theorem lk_RJ2_71 : Cond.methodLink RJ2 71 yJ2_getChar_3b067 ∈ g_T := g_in2 (l := gl_1_14) 12 ck_1_14 rfl rfl
theorem lk_RX7_73 : Cond.methodLink RX7 73 yX2_add ∈ g_T := g_in2 (l := gl_2_0) 5 ck_2_0 rfl rfl
theorem lk_RX7_77 : Cond.methodLink RX7 77 yX2_read ∈ g_T := g_in2 (l := gl_2_0) 9 ck_2_0 rfl rfl
theorem lk_RX2_46 : Cond.methodLink RX2 46 yX2_scan ∈ g_T := g_in2 (l := gl_2_0) 13 ck_2_0 rfl rfl
theorem lk_RX2_62 : Cond.methodLink RX2 62 yX2_endFrom ∈ g_T := g_in2 (l := gl_2_1) 1 ck_2_1 rfl rfl
theorem lk_RX2_70 : Cond.methodLink RX2 70 yX2_sortOf ∈ g_T := g_in2 (l := gl_2_1) 5 ck_2_1 rfl rfl
theorem lk_RX2_66 : Cond.methodLink RX2 66 yX2_tokenOf ∈ g_T := g_in2 (l := gl_2_1) 8 ck_2_1 rfl rfl
theorem lk_RX2_73 : Cond.methodLink RX2 73 yX2_wordFrom ∈ g_T := g_in2 (l := gl_2_1) 12 ck_2_1 rfl rfl
theorem lk_RX2_85 : Cond.methodLink RX2 85 yX2_stands ∈ g_T := g_in2 (l := gl_2_2) 1 ck_2_2 rfl rfl
theorem lk_RX2_111 : Cond.methodLink RX2 111 yJ0_length_8abf5 ∈ g_T := g_in2 (l := gl_2_2) 5 ck_2_2 rfl rfl
theorem lk_RX2_116 : Cond.methodLink RX2 116 yJ0_charAt_5068e ∈ g_T := g_in2 (l := gl_2_2) 6 ck_2_2 rfl rfl
theorem lk_RX2_76 : Cond.methodLink RX2 76 yX2_numberFrom ∈ g_T := g_in2 (l := gl_2_3) 2 ck_2_3 rfl rfl
theorem lk_RX2_79 : Cond.methodLink RX2 79 yX2_isSign ∈ g_T := g_in2 (l := gl_2_3) 6 ck_2_3 rfl rfl
theorem lk_RX2_49 : Cond.methodLink RX2 49 yX2_expect ∈ g_T := g_in2 (l := gl_2_3) 9 ck_2_3 rfl rfl
theorem lk_RX2_120 : Cond.methodLink RX2 120 yX2_advance ∈ g_T := g_in2 (l := gl_2_3) 13 ck_2_3 rfl rfl
theorem lk_RX2_123 : Cond.methodLink RX2 123 yX2_fail ∈ g_T := g_in2 (l := gl_2_4) 1 ck_2_4 rfl rfl
theorem lk_RX2_53 : Cond.methodLink RX2 53 yX2_join ∈ g_T := g_in2 (l := gl_2_4) 5 ck_2_4 rfl rfl
theorem lk_RX2_126 : Cond.methodLink RX2 126 yX2_one ∈ g_T := g_in2 (l := gl_2_4) 9 ck_2_4 rfl rfl
theorem lk_RX2_132 : Cond.methodLink RX2 132 yX2_emit ∈ g_T := g_in2 (l := gl_2_4) 13 ck_2_4 rfl rfl
theorem lk_RX2_129 : Cond.methodLink RX2 129 yX2_opens ∈ g_T := g_in2 (l := gl_2_5) 1 ck_2_5 rfl rfl
theorem lk_RX2_135 : Cond.methodLink RX2 135 yX2_rankOf ∈ g_T := g_in2 (l := gl_2_5) 5 ck_2_5 rfl rfl
theorem lk_RX7_80 : Cond.methodLink RX7 80 yX2_asText ∈ g_T := g_in2 (l := gl_2_5) 8 ck_2_5 rfl rfl
theorem lk_RX2_59 : Cond.methodLink RX2 59 yX5_init ∈ g_T := g_in2 (l := gl_2_5) 14 ck_2_5 rfl rfl
theorem lk_RX5_1 : Cond.methodLink RX5 1 Lib.objectInit ∈ g_T := g_in2 (l := gl_2_6) 1 ck_2_6 rfl rfl
theorem lk_RX5_13 : Cond.methodLink RX5 13 arraycopyName ∈ g_T := g_in2 (l := gl_2_6) 2 ck_2_6 rfl rfl
theorem lk_RX5_19 : Cond.methodLink RX5 19 ⟨"[I", "clone", "()Ljava/lang/Object;"⟩ ∈ g_T := g_in2 (l := gl_2_6) 5 ck_2_6 rfl rfl
theorem lk_RX7_84 : Cond.methodLink RX7 84 yX3_add ∈ g_T := g_in2 (l := gl_2_7) 4 ck_2_7 rfl rfl
theorem lk_RX7_87 : Cond.methodLink RX7 87 yX2_clear ∈ g_T := g_in2 (l := gl_2_7) 8 ck_2_7 rfl rfl
theorem lk_RL_13 : Cond.methodLink RL 13 yX7_count ∈ g_T := g_in2 (l := gl_2_9) 8 ck_2_9 rfl rfl
theorem lk_RX7_97 : Cond.methodLink RX7 97 yJ6_bitCount_0f7a4 ∈ g_T := g_in2 (l := gl_2_9) 12 ck_2_9 rfl rfl
theorem lk_RL_18 : Cond.methodLink RL 18 yX7_forest ∈ g_T := g_in2 (l := gl_2_10) 2 ck_2_10 rfl rfl
theorem lk_RX7_115 : Cond.methodLink RX7 115 yX7_isDeer ∈ g_T := g_in2 (l := gl_2_10) 6 ck_2_10 rfl rfl
theorem lk_RX7_119 : Cond.methodLink RX7 119 yX7_isWithin ∈ g_T := g_in2 (l := gl_2_10) 9 ck_2_10 rfl rfl
theorem lk_RX7_127 : Cond.methodLink RX7 127 yX0_isAlive ∈ g_T := g_in2 (l := gl_2_10) 12 ck_2_10 rfl rfl
theorem lk_RX7_130 : Cond.methodLink RX7 130 yX0_setAlive ∈ g_T := g_in2 (l := gl_2_11) 0 ck_2_11 rfl rfl
theorem lk_RL_23 : Cond.methodLink RL 23 yX7_deer ∈ g_T := g_in2 (l := gl_2_11) 4 ck_2_11 rfl rfl
theorem lk_RX7_134 : Cond.methodLink RX7 134 yX0_holders ∈ g_T := g_in2 (l := gl_2_11) 8 ck_2_11 rfl rfl
theorem lk_RL_28 : Cond.methodLink RL 28 yX7_feed ∈ g_T := g_in2 (l := gl_2_11) 12 ck_2_11 rfl rfl
theorem lk_RX7_137 : Cond.methodLink RX7 137 yX7_isByte ∈ g_T := g_in2 (l := gl_2_12) 0 ck_2_12 rfl rfl
theorem lk_RL_33 : Cond.methodLink RL 33 yX7_text ∈ g_T := g_in2 (l := gl_2_12) 3 ck_2_12 rfl rfl
theorem lk_RL_38 : Cond.methodLink RL 38 yX7_force ∈ g_T := g_in2 (l := gl_2_12) 7 ck_2_12 rfl rfl
theorem lk_RL_42 : Cond.methodLink RL 42 yX7_asks ∈ g_T := g_in2 (l := gl_2_12) 11 ck_2_12 rfl rfl
theorem lk_RX7_140 : Cond.methodLink RX7 140 yX7_isHunter ∈ g_T := g_in2 (l := gl_2_12) 15 ck_2_12 rfl rfl
theorem lk_RX7_143 : Cond.methodLink RX7 143 yX3_says ∈ g_T := g_in2 (l := gl_2_13) 3 ck_2_13 rfl rfl
theorem lk_RX3_39 : Cond.methodLink RX3 39 yJ6_bitCount_0f7a4 ∈ g_T := g_in2 (l := gl_2_13) 7 ck_2_13 rfl rfl
theorem lk_RX3_57 : Cond.methodLink RX3 57 yX5_value ∈ g_T := g_in2 (l := gl_2_13) 8 ck_2_13 rfl rfl
theorem lk_RX3_61 : Cond.methodLink RX3 61 yJ9_min_7cf53 ∈ g_T := g_in2 (l := gl_2_13) 12 ck_2_13 rfl rfl
theorem lk_RX3_67 : Cond.methodLink RX3 67 yJ9_max_7cf53 ∈ g_T := g_in2 (l := gl_2_13) 15 ck_2_13 rfl rfl
theorem lk_RL_46 : Cond.methodLink RL 46 yX7_hunter ∈ g_T := g_in2 (l := gl_2_14) 2 ck_2_14 rfl rfl
theorem lk_RX7_147 : Cond.methodLink RX7 147 yX0_add ∈ g_T := g_in2 (l := gl_2_14) 6 ck_2_14 rfl rfl
theorem lk_RL_50 : Cond.methodLink RL 50 yX7_friends ∈ g_T := g_in2 (l := gl_2_14) 10 ck_2_14 rfl rfl
theorem lk_RX7_150 : Cond.methodLink RX7 150 yX0_haveMet ∈ g_T := g_in2 (l := gl_2_14) 14 ck_2_14 rfl rfl
theorem lk_RX7_154 : Cond.methodLink RX7 154 yX0_setMet ∈ g_T := g_in2 (l := gl_3_0) 2 ck_3_0 rfl rfl
theorem lk_RL_54 : Cond.methodLink RL 54 yX7_put ∈ g_T := g_in2 (l := gl_3_0) 6 ck_3_0 rfl rfl
theorem lk_RL_58 : Cond.methodLink RL 58 yX7_told ∈ g_T := g_in2 (l := gl_3_0) 10 ck_3_0 rfl rfl
theorem lk_RX7_173 : Cond.methodLink RX7 173 yX3_isWilling ∈ g_T := g_in2 (l := gl_3_0) 14 ck_3_0 rfl rfl
theorem lk_RX3_73 : Cond.methodLink RX3 73 yX3_isOfKind ∈ g_T := g_in2 (l := gl_3_1) 2 ck_3_1 rfl rfl
theorem lk_RX3_77 : Cond.methodLink RX3 77 yX3_says ∈ g_T := g_in2 (l := gl_3_1) 5 ck_3_1 rfl rfl
theorem lk_RX7_177 : Cond.methodLink RX7 177 yX3_gainOf ∈ g_T := g_in2 (l := gl_3_1) 6 ck_3_1 rfl rfl
theorem lk_RX7_184 : Cond.methodLink RX7 184 yX6_sponsored ∈ g_T := g_in2 (l := gl_3_1) 10 ck_3_1 rfl rfl
theorem lk_RX6_36 : Cond.methodLink RX6 36 yX6_measure ∈ g_T := g_in2 (l := gl_3_1) 14 ck_3_1 rfl rfl
theorem lk_RX6_24 : Cond.methodLink RX6 24 yX3_isWilling ∈ g_T := g_in2 (l := gl_3_2) 2 ck_3_2 rfl rfl
theorem lk_RX6_33 : Cond.methodLink RX6 33 yX6_isWilling ∈ g_T := g_in2 (l := gl_3_2) 3 ck_3_2 rfl rfl
theorem lk_RL_62 : Cond.methodLink RL 62 yX7_hits ∈ g_T := g_in2 (l := gl_3_2) 7 ck_3_2 rfl rfl
theorem lk_RX7_188 : Cond.methodLink RX7 188 yX3_aimOf ∈ g_T := g_in2 (l := gl_3_2) 11 ck_3_2 rfl rfl
theorem lk_RX3_81 : Cond.methodLink RX3 81 yX0_hasCard ∈ g_T := g_in2 (l := gl_3_2) 15 ck_3_2 rfl rfl
theorem lk_RL_66 : Cond.methodLink RL 66 yX7_meet ∈ g_T := g_in2 (l := gl_3_3) 3 ck_3_3 rfl rfl
theorem lk_RX7_192 : Cond.methodLink RX7 192 yX3_reward ∈ g_T := g_in2 (l := gl_3_3) 7 ck_3_3 rfl rfl
theorem lk_RX3_84 : Cond.methodLink RX3 84 yX3_gainOf ∈ g_T := g_in2 (l := gl_3_3) 11 ck_3_3 rfl rfl
theorem lk_RL_70 : Cond.methodLink RL 70 yX7_present ∈ g_T := g_in2 (l := gl_3_3) 12 ck_3_3 rfl rfl
theorem lk_RX7_195 : Cond.methodLink RX7 195 yX0_hasCard ∈ g_T := g_in2 (l := gl_3_4) 0 ck_3_4 rfl rfl
theorem lk_RX7_198 : Cond.methodLink RX7 198 yX0_turnCard ∈ g_T := g_in2 (l := gl_3_4) 1 ck_3_4 rfl rfl
theorem lk_RL_74 : Cond.methodLink RL 74 yX7_circle ∈ g_T := g_in2 (l := gl_3_4) 5 ck_3_4 rfl rfl
theorem lk_RX7_202 : Cond.methodLink RX7 202 yX6_within ∈ g_T := g_in2 (l := gl_3_4) 9 ck_3_4 rfl rfl
theorem lk_RL_78 : Cond.methodLink RL 78 yX7_way ∈ g_T := g_in2 (l := gl_3_4) 13 ck_3_4 rfl rfl
theorem lk_RX7_206 : Cond.methodLink RX7 206 yX6_measure ∈ g_T := g_in2 (l := gl_3_5) 1 ck_3_5 rfl rfl
theorem lk_RX7_210 : Cond.methodLink RX7 210 yX6_sponsorOf ∈ g_T := g_in2 (l := gl_3_5) 2 ck_3_5 rfl rfl
theorem lk_RX6_40 : Cond.methodLink RX6 40 yX0_isAlive ∈ g_T := g_in2 (l := gl_3_5) 6 ck_3_5 rfl rfl
theorem lk_RX6_43 : Cond.methodLink RX6 43 yX0_hasCard ∈ g_T := g_in2 (l := gl_3_5) 7 ck_3_5 rfl rfl
theorem lk_RX7_216 : Cond.methodLink RX7 216 yX6_pathTo ∈ g_T := g_in2 (l := gl_3_5) 8 ck_3_5 rfl rfl
theorem lk_RX6_47 : Cond.methodLink RX6 47 yX6_nearer ∈ g_T := g_in2 (l := gl_3_5) 12 ck_3_5 rfl rfl
theorem lk_RX6_51 : Cond.methodLink RX6 51 yX0_haveMet ∈ g_T := g_in2 (l := gl_3_6) 0 ck_3_6 rfl rfl
theorem lk_RL_82 : Cond.methodLink RL 82 yX7_shoot ∈ g_T := g_in2 (l := gl_3_6) 1 ck_3_6 rfl rfl
theorem lk_RX7_219 : Cond.methodLink RX7 219 yX7_shotRefusal ∈ g_T := g_in2 (l := gl_3_6) 5 ck_3_6 rfl rfl
theorem lk_RX7_223 : Cond.methodLink RX7 223 yX3_shot ∈ g_T := g_in2 (l := gl_3_6) 9 ck_3_6 rfl rfl
theorem lk_RX3_96 : Cond.methodLink RX3 96 yX3_shotNow ∈ g_T := g_in2 (l := gl_3_6) 13 ck_3_6 rfl rfl
theorem lk_RX3_88 : Cond.methodLink RX3 88 yX0_isAlive ∈ g_T := g_in2 (l := gl_3_7) 1 ck_3_7 rfl rfl
theorem lk_RX3_92 : Cond.methodLink RX3 92 yX3_aimOf ∈ g_T := g_in2 (l := gl_3_7) 2 ck_3_7 rfl rfl
theorem lk_RX3_99 : Cond.methodLink RX3 99 yX0_honourByHit ∈ g_T := g_in2 (l := gl_3_7) 3 ck_3_7 rfl rfl
theorem lk_RX0_52 : Cond.methodLink RX0 52 yJ9_min_7cf53 ∈ g_T := g_in2 (l := gl_3_7) 7 ck_3_7 rfl rfl
theorem lk_RX3_102 : Cond.methodLink RX3 102 yX0_setAlive ∈ g_T := g_in2 (l := gl_3_7) 8 ck_3_7 rfl rfl
theorem lk_RL_86 : Cond.methodLink RL 86 yX7_aims ∈ g_T := g_in2 (l := gl_3_7) 9 ck_3_7 rfl rfl
theorem lk_RX7_226 : Cond.methodLink RX7 226 yX3_shotNow ∈ g_T := g_in2 (l := gl_3_7) 13 ck_3_7 rfl rfl
theorem lk_RL_90 : Cond.methodLink RL 90 yX7_season ∈ g_T := g_in2 (l := gl_3_7) 14 ck_3_7 rfl rfl
theorem lk_RX7_229 : Cond.methodLink RX7 229 yX7_seasonRefusal ∈ g_T := g_in2 (l := gl_3_8) 2 ck_3_8 rfl rfl
theorem lk_RX7_264 : Cond.methodLink RX7 264 yX7_isSheet ∈ g_T := g_in2 (l := gl_3_8) 6 ck_3_8 rfl rfl
theorem lk_RX7_280 : Cond.methodLink RX7 280 yX4_isMissing ∈ g_T := g_in2 (l := gl_3_8) 9 ck_3_8 rfl rfl
theorem lk_RX7_302 : Cond.methodLink RX7 302 yX4_tellsDeer ∈ g_T := g_in2 (l := gl_3_8) 13 ck_3_8 rfl rfl
theorem lk_RX7_232 : Cond.methodLink RX7 232 yX0_become ∈ g_T := g_in2 (l := gl_3_9) 2 ck_3_9 rfl rfl
theorem lk_RX0_46 : Cond.methodLink RX0 46 arraycopyName ∈ g_T := g_in2 (l := gl_3_9) 6 ck_3_9 rfl rfl
theorem lk_RX7_236 : Cond.methodLink RX7 236 yX7_shootAll ∈ g_T := g_in2 (l := gl_3_9) 7 ck_3_9 rfl rfl
theorem lk_RL_94 : Cond.methodLink RL 94 yX7_hunt ∈ g_T := g_in2 (l := gl_3_9) 11 ck_3_9 rfl rfl
theorem lk_RL_98 : Cond.methodLink RL 98 yX7_ball ∈ g_T := g_in2 (l := gl_3_9) 15 ck_3_9 rfl rfl
theorem lk_RX7_240 : Cond.methodLink RX7 240 yX6_allSponsored ∈ g_T := g_in2 (l := gl_3_10) 3 ck_3_10 rfl rfl
theorem lk_RX6_60 : Cond.methodLink RX6 60 yX6_sponsored ∈ g_T := g_in2 (l := gl_3_10) 7 ck_3_10 rfl rfl
theorem lk_RX6_64 : Cond.methodLink RX6 64 yJ6_bitCount_0f7a4 ∈ g_T := g_in2 (l := gl_3_10) 8 ck_3_10 rfl rfl
theorem lk_RL_102 : Cond.methodLink RL 102 yX7_safest ∈ g_T := g_in2 (l := gl_3_10) 9 ck_3_10 rfl rfl
theorem lk_RL_106 : Cond.methodLink RL 106 yX7_prize ∈ g_T := g_in2 (l := gl_3_10) 13 ck_3_10 rfl rfl
theorem lk_RX7_244 : Cond.methodLink RX7 244 yX0_honourByHit ∈ g_T := g_in2 (l := gl_3_11) 1 ck_3_11 rfl rfl
theorem lk_RL_110 : Cond.methodLink RL 110 yX7_society ∈ g_T := g_in2 (l := gl_3_11) 2 ck_3_11 rfl rfl
theorem lk_RX7_249 : Cond.methodLink RX7 249 yX7_lowestTerms ∈ g_T := g_in2 (l := gl_3_11) 7 ck_3_11 rfl rfl
theorem lk_RL_115 : Cond.methodLink RL 115 yX7_judge ∈ g_T := g_in2 (l := gl_3_11) 10 ck_3_11 rfl rfl
theorem lk_RX7_253 : Cond.methodLink RX7 253 yX7_judgeRefusal ∈ g_T := g_in2 (l := gl_3_11) 14 ck_3_11 rfl rfl
theorem lk_RX7_261 : Cond.methodLink RX7 261 yX7_tellingRefusal ∈ g_T := g_in2 (l := gl_3_12) 2 ck_3_12 rfl rfl
theorem lk_RX7_257 : Cond.methodLink RX7 257 yX7_firstOtherwise ∈ g_T := g_in2 (l := gl_3_12) 6 ck_3_12 rfl rfl
theorem lk_RL_119 : Cond.methodLink RL 119 yX7_kinds ∈ g_T := g_in2 (l := gl_3_12) 10 ck_3_12 rfl rfl
theorem lk_RL_124 : Cond.methodLink RL 124 yX7_turned ∈ g_T := g_in2 (l := gl_3_12) 14 ck_3_12 rfl rfl
theorem lk_RL_128 : Cond.methodLink RL 128 yX7_honours ∈ g_T := g_in2 (l := gl_3_13) 2 ck_3_13 rfl rfl
theorem lk_RL_132 : Cond.methodLink RL 132 yX7_whose ∈ g_T := g_in2 (l := gl_3_13) 6 ck_3_13 rfl rfl
theorem lk_RL_136 : Cond.methodLink RL 136 yX7_laws ∈ g_T := g_in2 (l := gl_3_13) 10 ck_3_13 rfl rfl
theorem lk_RL_140 : Cond.methodLink RL 140 yX7_film ∈ g_T := g_in2 (l := gl_3_13) 14 ck_3_13 rfl rfl
theorem lk_RX7_268 : Cond.methodLink RX7 268 yX4_become ∈ g_T := g_in2 (l := gl_3_14) 2 ck_3_14 rfl rfl
theorem lk_RX7_273 : Cond.methodLink RX7 273 yX4_set ∈ g_T := g_in2 (l := gl_3_14) 6 ck_3_14 rfl rfl
theorem lk_RL_144 : Cond.methodLink RL 144 yX7_drawn ∈ g_T := g_in2 (l := gl_3_14) 10 ck_3_14 rfl rfl
theorem lk_RX7_277 : Cond.methodLink RX7 277 yX7_shootByLots ∈ g_T := g_in2 (l := gl_3_14) 15 ck_3_14 rfl rfl
theorem lk_RX7_305 : Cond.methodLink RX7 305 yX1_begin ∈ g_T := g_in2 (l := gl_4_0) 3 ck_4_0 rfl rfl
theorem lk_RX7_308 : Cond.methodLink RX7 308 yX1_next ∈ g_T := g_in2 (l := gl_4_0) 7 ck_4_0 rfl rfl
theorem lk_RL_148 : Cond.methodLink RL 148 yX7_odds ∈ g_T := g_in2 (l := gl_4_0) 13 ck_4_0 rfl rfl
theorem lk_RL_153 : Cond.methodLink RL 153 yX7_image ∈ g_T := g_in2 (l := gl_4_1) 1 ck_4_1 rfl rfl
theorem lk_RL_157 : Cond.methodLink RL 157 yX7_back ∈ g_T := g_in2 (l := gl_4_1) 5 ck_4_1 rfl rfl
theorem lk_RL_161 : Cond.methodLink RL 161 yX7_sheet ∈ g_T := g_in2 (l := gl_4_1) 9 ck_4_1 rfl rfl
theorem lk_RL_165 : Cond.methodLink RL 165 yX7_cell ∈ g_T := g_in2 (l := gl_4_1) 13 ck_4_1 rfl rfl
theorem lk_RX7_284 : Cond.methodLink RX7 284 yX4_holds ∈ g_T := g_in2 (l := gl_4_2) 1 ck_4_2 rfl rfl
theorem lk_RL_169 : Cond.methodLink RL 169 yX7_copy ∈ g_T := g_in2 (l := gl_4_2) 5 ck_4_2 rfl rfl
theorem lk_RX7_290 : Cond.methodLink RX7 290 arraycopyName ∈ g_T := g_in2 (l := gl_4_2) 9 ck_4_2 rfl rfl
theorem lk_RL_174 : Cond.methodLink RL 174 yX7_huntersBy ∈ g_T := g_in2 (l := gl_4_2) 10 ck_4_2 rfl rfl
theorem lk_RX7_296 : Cond.methodLink RX7 296 yX7_hunter ∈ g_T := g_in2 (l := gl_4_2) 14 ck_4_2 rfl rfl
theorem lk_RL_178 : Cond.methodLink RL 178 yX7_taken ∈ g_T := g_in2 (l := gl_4_2) 15 ck_4_2 rfl rfl
theorem lk_RX7_299 : Cond.methodLink RX7 299 yX3_isOfKind ∈ g_T := g_in2 (l := gl_4_3) 3 ck_4_3 rfl rfl
theorem lk_RL_12 : Cond.methodLink RL 12 yX8_init ∈ g_T := g_in2 (l := gl_4_3) 6 ck_4_3 rfl rfl
theorem lk_RX8_1 : Cond.methodLink RX8 1 Lib.objectInit ∈ g_T := g_in2 (l := gl_4_3) 9 ck_4_3 rfl rfl
theorem lk_RX8_77 : Cond.methodLink RX8 77 yX8_text ∈ g_T := g_in2 (l := gl_4_3) 10 ck_4_3 rfl rfl
theorem lk_RX8_159 : Cond.methodLink RX8 159 yX8_next ∈ g_T := g_in2 (l := gl_4_3) 14 ck_4_3 rfl rfl
theorem lk_RX8_84 : Cond.methodLink RX8 84 yX8_in ∈ g_T := g_in2 (l := gl_4_4) 2 ck_4_4 rfl rfl
theorem lk_RX8_134 : Cond.methodLink RX8 134 yX8_wordFrom ∈ g_T := g_in2 (l := gl_4_4) 5 ck_4_4 rfl rfl
theorem lk_RX8_172 : Cond.methodLink RX8 172 yX8_eRead ∈ g_T := g_in2 (l := gl_4_4) 9 ck_4_4 rfl rfl
theorem lk_RX8_149 : Cond.methodLink RX8 149 yX8_puts ∈ g_T := g_in2 (l := gl_4_4) 14 ck_4_4 rfl rfl
theorem lk_RX8_156 : Cond.methodLink RX8 156 yX8_unwinds ∈ g_T := g_in2 (l := gl_4_5) 2 ck_4_5 rfl rfl
theorem lk_RX8_143 : Cond.methodLink RX8 143 yX8_rank ∈ g_T := g_in2 (l := gl_4_5) 6 ck_4_5 rfl rfl
theorem lk_RX8_163 : Cond.methodLink RX8 163 yX8_opensOne ∈ g_T := g_in2 (l := gl_4_5) 9 ck_4_5 rfl rfl
theorem lk_RX8_153 : Cond.methodLink RX8 153 yX8_holds ∈ g_T := g_in2 (l := gl_4_5) 13 ck_4_5 rfl rfl
theorem lk_RX8_166 : Cond.methodLink RX8 166 yX8_signOf ∈ g_T := g_in2 (l := gl_4_6) 1 ck_4_6 rfl rfl
theorem lk_RX8_169 : Cond.methodLink RX8 169 yX8_between ∈ g_T := g_in2 (l := gl_4_6) 5 ck_4_6 rfl rfl
theorem lk_RL_17 : Cond.methodLink RL 17 yX8_count ∈ g_T := g_in2 (l := gl_4_13) 6 ck_4_13 rfl rfl
theorem lk_RX8_92 : Cond.methodLink RX8 92 yX8_bitsOf ∈ g_T := g_in2 (l := gl_4_13) 10 ck_4_13 rfl rfl
theorem lk_RL_22 : Cond.methodLink RL 22 yX8_forest ∈ g_T := g_in2 (l := gl_4_13) 13 ck_4_13 rfl rfl
theorem lk_RX8_105 : Cond.methodLink RX8 105 yX8_isDeer ∈ g_T := g_in2 (l := gl_4_14) 1 ck_4_14 rfl rfl
theorem lk_RX8_108 : Cond.methodLink RX8 108 yX8_forestHeld ∈ g_T := g_in2 (l := gl_4_14) 4 ck_4_14 rfl rfl
theorem lk_RL_27 : Cond.methodLink RL 27 yX8_deer ∈ g_T := g_in2 (l := gl_4_14) 8 ck_4_14 rfl rfl
theorem lk_RX8_116 : Cond.methodLink RX8 116 yX8_cardsWith ∈ g_T := g_in2 (l := gl_4_14) 12 ck_4_14 rfl rfl
theorem lk_RX8_112 : Cond.methodLink RX8 112 yX8_isCard ∈ g_T := g_in2 (l := gl_5_0) 0 ck_5_0 rfl rfl
theorem lk_RL_32 : Cond.methodLink RL 32 yX8_feed ∈ g_T := g_in2 (l := gl_5_0) 4 ck_5_0 rfl rfl
theorem lk_RX8_119 : Cond.methodLink RX8 119 yX8_isByte ∈ g_T := g_in2 (l := gl_5_0) 8 ck_5_0 rfl rfl
theorem lk_RL_37 : Cond.methodLink RL 37 yX8_text ∈ g_T := g_in2 (l := gl_5_0) 11 ck_5_0 rfl rfl
theorem lk_RL_41 : Cond.methodLink RL 41 yX8_force ∈ g_T := g_in2 (l := gl_5_0) 12 ck_5_0 rfl rfl
theorem lk_RL_45 : Cond.methodLink RL 45 yX8_asks ∈ g_T := g_in2 (l := gl_5_1) 0 ck_5_1 rfl rfl
theorem lk_RX8_88 : Cond.methodLink RX8 88 yX8_isOne ∈ g_T := g_in2 (l := gl_5_1) 4 ck_5_1 rfl rfl
theorem lk_RX8_186 : Cond.methodLink RX8 186 yX8_asksOf ∈ g_T := g_in2 (l := gl_5_1) 8 ck_5_1 rfl rfl
theorem lk_RX8_180 : Cond.methodLink RX8 180 yX8_says ∈ g_T := g_in2 (l := gl_5_1) 12 ck_5_1 rfl rfl
theorem lk_RX8_176 : Cond.methodLink RX8 176 yX8_two ∈ g_T := g_in2 (l := gl_5_2) 0 ck_5_2 rfl rfl
theorem lk_RX8_183 : Cond.methodLink RX8 183 yX8_within ∈ g_T := g_in2 (l := gl_5_2) 3 ck_5_2 rfl rfl
theorem lk_RL_49 : Cond.methodLink RL 49 yX8_hunter ∈ g_T := g_in2 (l := gl_5_2) 6 ck_5_2 rfl rfl
theorem lk_RL_53 : Cond.methodLink RL 53 yX8_friends ∈ g_T := g_in2 (l := gl_5_2) 10 ck_5_2 rfl rfl
theorem lk_RX8_189 : Cond.methodLink RX8 189 yX8_areTwo ∈ g_T := g_in2 (l := gl_5_2) 14 ck_5_2 rfl rfl
theorem lk_RX8_192 : Cond.methodLink RX8 192 yX8_haveMet ∈ g_T := g_in2 (l := gl_5_3) 2 ck_5_3 rfl rfl
theorem lk_RX8_195 : Cond.methodLink RX8 195 yX8_meets ∈ g_T := g_in2 (l := gl_5_3) 6 ck_5_3 rfl rfl
theorem lk_RL_57 : Cond.methodLink RL 57 yX8_put ∈ g_T := g_in2 (l := gl_5_3) 10 ck_5_3 rfl rfl
theorem lk_RL_65 : Cond.methodLink RL 65 yX8_hits ∈ g_T := g_in2 (l := gl_5_3) 14 ck_5_3 rfl rfl
theorem lk_RX8_199 : Cond.methodLink RX8 199 yX8_hitsOf ∈ g_T := g_in2 (l := gl_5_4) 2 ck_5_4 rfl rfl
theorem lk_RL_61 : Cond.methodLink RL 61 yX8_told ∈ g_T := g_in2 (l := gl_5_4) 6 ck_5_4 rfl rfl
theorem lk_RX8_205 : Cond.methodLink RX8 205 yX8_doesWill ∈ g_T := g_in2 (l := gl_5_4) 10 ck_5_4 rfl rfl
theorem lk_RX8_220 : Cond.methodLink RX8 220 yX8_gainsOf ∈ g_T := g_in2 (l := gl_5_4) 14 ck_5_4 rfl rfl
theorem lk_RX8_223 : Cond.methodLink RX8 223 yX8_sponsored ∈ g_T := g_in2 (l := gl_5_5) 2 ck_5_5 rfl rfl
theorem lk_RX8_211 : Cond.methodLink RX8 211 yX8_tellsWilling ∈ g_T := g_in2 (l := gl_5_5) 6 ck_5_5 rfl rfl
theorem lk_RX8_214 : Cond.methodLink RX8 214 yX8_tellsFar ∈ g_T := g_in2 (l := gl_5_5) 10 ck_5_5 rfl rfl
theorem lk_RX8_217 : Cond.methodLink RX8 217 yX8_sponsorBy ∈ g_T := g_in2 (l := gl_5_5) 14 ck_5_5 rfl rfl
theorem lk_RX8_208 : Cond.methodLink RX8 208 yX8_isAlive ∈ g_T := g_in2 (l := gl_5_6) 2 ck_5_6 rfl rfl
theorem lk_RL_69 : Cond.methodLink RL 69 yX8_meet ∈ g_T := g_in2 (l := gl_5_6) 6 ck_5_6 rfl rfl
theorem lk_RX8_226 : Cond.methodLink RX8 226 yX8_gainsBy ∈ g_T := g_in2 (l := gl_5_6) 10 ck_5_6 rfl rfl
theorem lk_RL_73 : Cond.methodLink RL 73 yX8_present ∈ g_T := g_in2 (l := gl_5_6) 14 ck_5_6 rfl rfl
theorem lk_RL_77 : Cond.methodLink RL 77 yX8_circle ∈ g_T := g_in2 (l := gl_5_7) 2 ck_5_7 rfl rfl
theorem lk_RL_81 : Cond.methodLink RL 81 yX8_way ∈ g_T := g_in2 (l := gl_5_7) 6 ck_5_7 rfl rfl
theorem lk_RX8_229 : Cond.methodLink RX8 229 yX8_digitsTo ∈ g_T := g_in2 (l := gl_5_7) 10 ck_5_7 rfl rfl
theorem lk_RL_85 : Cond.methodLink RL 85 yX8_shoot ∈ g_T := g_in2 (l := gl_5_7) 14 ck_5_7 rfl rfl
theorem lk_RX8_235 : Cond.methodLink RX8 235 yX8_shotOf ∈ g_T := g_in2 (l := gl_5_8) 2 ck_5_8 rfl rfl
theorem lk_RX8_232 : Cond.methodLink RX8 232 yX8_aimOf ∈ g_T := g_in2 (l := gl_5_8) 6 ck_5_8 rfl rfl
theorem lk_RL_89 : Cond.methodLink RL 89 yX8_aims ∈ g_T := g_in2 (l := gl_5_8) 10 ck_5_8 rfl rfl
theorem lk_RL_93 : Cond.methodLink RL 93 yX8_season ∈ g_T := g_in2 (l := gl_5_8) 14 ck_5_8 rfl rfl
theorem lk_RX8_241 : Cond.methodLink RX8 241 yX8_oneWrong ∈ g_T := g_in2 (l := gl_5_9) 2 ck_5_9 rfl rfl
theorem lk_RX8_238 : Cond.methodLink RX8 238 yX8_seasonWrong ∈ g_T := g_in2 (l := gl_5_9) 6 ck_5_9 rfl rfl
theorem lk_RX8_244 : Cond.methodLink RX8 244 yX8_keeps ∈ g_T := g_in2 (l := gl_5_9) 10 ck_5_9 rfl rfl
theorem lk_RX8_247 : Cond.methodLink RX8 247 yX8_goes ∈ g_T := g_in2 (l := gl_5_9) 14 ck_5_9 rfl rfl
theorem lk_RX8_251 : Cond.methodLink RX8 251 yX8_lays ∈ g_T := g_in2 (l := gl_5_10) 2 ck_5_10 rfl rfl
theorem lk_RL_97 : Cond.methodLink RL 97 yX8_hunt ∈ g_T := g_in2 (l := gl_5_10) 6 ck_5_10 rfl rfl
theorem lk_RL_101 : Cond.methodLink RL 101 yX8_ball ∈ g_T := g_in2 (l := gl_5_10) 10 ck_5_10 rfl rfl
theorem lk_RX8_254 : Cond.methodLink RX8 254 yX8_sponsoredAll ∈ g_T := g_in2 (l := gl_5_10) 14 ck_5_10 rfl rfl
theorem lk_RL_105 : Cond.methodLink RL 105 yX8_safest ∈ g_T := g_in2 (l := gl_5_11) 2 ck_5_11 rfl rfl
theorem lk_RL_109 : Cond.methodLink RL 109 yX8_prize ∈ g_T := g_in2 (l := gl_5_11) 6 ck_5_11 rfl rfl
theorem lk_RL_114 : Cond.methodLink RL 114 yX8_society ∈ g_T := g_in2 (l := gl_5_11) 10 ck_5_11 rfl rfl
theorem lk_RX8_259 : Cond.methodLink RX8 259 yX8_lowest ∈ g_T := g_in2 (l := gl_5_11) 15 ck_5_11 rfl rfl
theorem lk_RL_118 : Cond.methodLink RL 118 yX8_judge ∈ g_T := g_in2 (l := gl_5_12) 2 ck_5_12 rfl rfl
theorem lk_RX8_266 : Cond.methodLink RX8 266 yX8_toldWrong ∈ g_T := g_in2 (l := gl_5_12) 6 ck_5_12 rfl rfl
theorem lk_RX8_263 : Cond.methodLink RX8 263 yX8_twoWrong ∈ g_T := g_in2 (l := gl_5_12) 10 ck_5_12 rfl rfl
theorem lk_RX8_269 : Cond.methodLink RX8 269 yX8_unlike ∈ g_T := g_in2 (l := gl_5_12) 14 ck_5_12 rfl rfl
theorem lk_RL_123 : Cond.methodLink RL 123 yX8_kinds ∈ g_T := g_in2 (l := gl_5_13) 2 ck_5_13 rfl rfl
theorem lk_RL_127 : Cond.methodLink RL 127 yX8_turned ∈ g_T := g_in2 (l := gl_5_13) 6 ck_5_13 rfl rfl
theorem lk_RL_131 : Cond.methodLink RL 131 yX8_honours ∈ g_T := g_in2 (l := gl_5_13) 10 ck_5_13 rfl rfl
theorem lk_RL_135 : Cond.methodLink RL 135 yX8_whose ∈ g_T := g_in2 (l := gl_5_13) 14 ck_5_13 rfl rfl
theorem lk_RL_139 : Cond.methodLink RL 139 yX8_laws ∈ g_T := g_in2 (l := gl_5_14) 2 ck_5_14 rfl rfl
theorem lk_RL_143 : Cond.methodLink RL 143 yX8_film ∈ g_T := g_in2 (l := gl_5_14) 6 ck_5_14 rfl rfl
theorem lk_RL_147 : Cond.methodLink RL 147 yX8_drawn ∈ g_T := g_in2 (l := gl_5_14) 10 ck_5_14 rfl rfl
theorem lk_RX8_284 : Cond.methodLink RX8 284 yX8_lotSeasons ∈ g_T := g_in2 (l := gl_5_14) 15 ck_5_14 rfl rfl
theorem lk_RL_152 : Cond.methodLink RL 152 yX8_odds ∈ g_T := g_in2 (l := gl_6_0) 7 ck_6_0 rfl rfl
theorem lk_RL_156 : Cond.methodLink RL 156 yX8_image ∈ g_T := g_in2 (l := gl_6_0) 11 ck_6_0 rfl rfl
theorem lk_RL_160 : Cond.methodLink RL 160 yX8_back ∈ g_T := g_in2 (l := gl_6_0) 15 ck_6_0 rfl rfl
theorem lk_RL_164 : Cond.methodLink RL 164 yX8_sheet ∈ g_T := g_in2 (l := gl_6_1) 3 ck_6_1 rfl rfl
theorem lk_RL_168 : Cond.methodLink RL 168 yX8_cell ∈ g_T := g_in2 (l := gl_6_1) 7 ck_6_1 rfl rfl
theorem lk_RL_173 : Cond.methodLink RL 173 yX8_copy ∈ g_T := g_in2 (l := gl_6_1) 11 ck_6_1 rfl rfl
theorem lk_RL_177 : Cond.methodLink RL 177 yX8_huntersBy ∈ g_T := g_in2 (l := gl_6_1) 15 ck_6_1 rfl rfl
theorem lk_RX8_291 : Cond.methodLink RX8 291 yX8_hunter ∈ g_T := g_in2 (l := gl_6_2) 3 ck_6_2 rfl rfl
theorem lk_RL_181 : Cond.methodLink RL 181 yX8_taken ∈ g_T := g_in2 (l := gl_6_2) 4 ck_6_2 rfl rfl
theorem lk_RX8_294 : Cond.methodLink RX8 294 yX8_isUnder ∈ g_T := g_in2 (l := gl_6_2) 8 ck_6_2 rfl rfl
theorem ln_RX7_9 : (RX7, 9, yX0_init) ∈ g_nests := by decide +kernel
theorem ln_RX7_28 : (RX7, 28, yX2_init) ∈ g_nests := by decide +kernel
theorem ln_RX7_35 : (RX7, 35, yX3_init) ∈ g_nests := by decide +kernel
theorem ln_RX7_42 : (RX7, 42, yX6_init) ∈ g_nests := by decide +kernel
theorem ln_RX7_49 : (RX7, 49, yX1_init) ∈ g_nests := by decide +kernel
theorem ln_RX7_60 : (RX7, 60, yX4_init) ∈ g_nests := by decide +kernel
theorem ln_RX4_22 : (RX4, 22, yX7_isDeer) ∈ g_nests := by decide +kernel
theorem fl_RX0_9 : g_F RX0 9 0 0 11 2 true := ⟨_, _, rfl, by decide, by decide, by decide, rfl, g_in2 (l := gl_1_1) 15 ck_1_1 rfl rfl⟩
theorem fl_RX3_33 : g_F RX3 33 0 0 11 2 true := ⟨_, _, rfl, by decide, by decide, by decide, rfl, g_in2 (l := gl_1_2) 0 ck_1_2 rfl rfl⟩
theorem fl_RX7_123 : g_F RX7 123 0 0 11 2 true := ⟨_, _, rfl, by decide, by decide, by decide, rfl, g_in2 (l := gl_1_2) 1 ck_1_2 rfl rfl⟩
theorem fl_RX0_15 : g_F RX0 15 0 1 11 0 false := ⟨_, _, rfl, by decide, by decide, by decide, rfl, g_in2 (l := gl_1_2) 2 ck_1_2 rfl rfl⟩
theorem fl_RX7_94 : g_F RX7 94 0 1 11 0 false := ⟨_, _, rfl, by decide, by decide, by decide, rfl, g_in2 (l := gl_1_2) 3 ck_1_2 rfl rfl⟩
theorem fl_RX6_57 : g_F RX6 57 0 1 11 0 false := ⟨_, _, rfl, by decide, by decide, by decide, rfl, g_in2 (l := gl_1_2) 4 ck_1_2 rfl rfl⟩
theorem fl_RX0_19 : g_F RX0 19 0 2 11 0 false := ⟨_, _, rfl, by decide, by decide, by decide, rfl, g_in2 (l := gl_1_2) 5 ck_1_2 rfl rfl⟩
theorem fl_RX7_103 : g_F RX7 103 0 2 11 0 false := ⟨_, _, rfl, by decide, by decide, by decide, rfl, g_in2 (l := gl_1_2) 6 ck_1_2 rfl rfl⟩
theorem fl_RX3_48 : g_F RX3 48 0 2 11 0 false := ⟨_, _, rfl, by decide, by decide, by decide, rfl, g_in2 (l := gl_1_2) 7 ck_1_2 rfl rfl⟩
theorem fl_RX0_22 : g_F RX0 22 0 3 11 0 false := ⟨_, _, rfl, by decide, by decide, by decide, rfl, g_in2 (l := gl_1_2) 8 ck_1_2 rfl rfl⟩
theorem fl_RX7_109 : g_F RX7 109 0 3 11 0 false := ⟨_, _, rfl, by decide, by decide, by decide, rfl, g_in2 (l := gl_1_2) 9 ck_1_2 rfl rfl⟩
theorem fl_RX3_54 : g_F RX3 54 0 3 11 0 false := ⟨_, _, rfl, by decide, by decide, by decide, rfl, g_in2 (l := gl_1_2) 10 ck_1_2 rfl rfl⟩
theorem fl_RX0_25 : g_F RX0 25 0 4 11 0 false := ⟨_, _, rfl, by decide, by decide, by decide, rfl, g_in2 (l := gl_1_2) 11 ck_1_2 rfl rfl⟩
theorem fl_RX6_19 : g_F RX6 19 0 4 11 0 false := ⟨_, _, rfl, by decide, by decide, by decide, rfl, g_in2 (l := gl_1_2) 12 ck_1_2 rfl rfl⟩
theorem fl_RX7_90 : g_F RX7 90 0 4 11 0 false := ⟨_, _, rfl, by decide, by decide, by decide, rfl, g_in2 (l := gl_1_2) 13 ck_1_2 rfl rfl⟩
theorem fl_RX0_28 : g_F RX0 28 0 5 11 2 true := ⟨_, _, rfl, by decide, by decide, by decide, rfl, g_in2 (l := gl_1_2) 14 ck_1_2 rfl rfl⟩
theorem fl_RX3_70 : g_F RX3 70 0 5 11 2 true := ⟨_, _, rfl, by decide, by decide, by decide, rfl, g_in2 (l := gl_1_2) 15 ck_1_2 rfl rfl⟩
theorem fl_RX7_167 : g_F RX7 167 0 5 11 2 true := ⟨_, _, rfl, by decide, by decide, by decide, rfl, g_in2 (l := gl_1_3) 0 ck_1_3 rfl rfl⟩
theorem fl_RX0_31 : g_F RX0 31 0 6 11 2 true := ⟨_, _, rfl, by decide, by decide, by decide, rfl, g_in2 (l := gl_1_3) 1 ck_1_3 rfl rfl⟩
theorem fl_RX3_51 : g_F RX3 51 0 6 11 2 true := ⟨_, _, rfl, by decide, by decide, by decide, rfl, g_in2 (l := gl_1_3) 2 ck_1_3 rfl rfl⟩
theorem fl_RX7_170 : g_F RX7 170 0 6 11 2 true := ⟨_, _, rfl, by decide, by decide, by decide, rfl, g_in2 (l := gl_1_3) 3 ck_1_3 rfl rfl⟩
theorem fl_RX0_34 : g_F RX0 34 0 7 11 2 true := ⟨_, _, rfl, by decide, by decide, by decide, rfl, g_in2 (l := gl_1_3) 4 ck_1_3 rfl rfl⟩
theorem fl_RX3_28 : g_F RX3 28 0 7 11 2 true := ⟨_, _, rfl, by decide, by decide, by decide, rfl, g_in2 (l := gl_1_3) 5 ck_1_3 rfl rfl⟩
theorem fl_RX7_158 : g_F RX7 158 0 7 11 2 true := ⟨_, _, rfl, by decide, by decide, by decide, rfl, g_in2 (l := gl_1_3) 6 ck_1_3 rfl rfl⟩
theorem fl_RX0_37 : g_F RX0 37 0 8 11 2 true := ⟨_, _, rfl, by decide, by decide, by decide, rfl, g_in2 (l := gl_1_3) 7 ck_1_3 rfl rfl⟩
theorem fl_RX6_30 : g_F RX6 30 0 8 11 2 true := ⟨_, _, rfl, by decide, by decide, by decide, rfl, g_in2 (l := gl_1_3) 8 ck_1_3 rfl rfl⟩
theorem fl_RX3_36 : g_F RX3 36 0 8 11 2 true := ⟨_, _, rfl, by decide, by decide, by decide, rfl, g_in2 (l := gl_1_3) 9 ck_1_3 rfl rfl⟩
theorem fl_RX7_164 : g_F RX7 164 0 8 11 2 true := ⟨_, _, rfl, by decide, by decide, by decide, rfl, g_in2 (l := gl_1_3) 10 ck_1_3 rfl rfl⟩
theorem fl_RX0_40 : g_F RX0 40 0 9 11 2 true := ⟨_, _, rfl, by decide, by decide, by decide, rfl, g_in2 (l := gl_1_3) 11 ck_1_3 rfl rfl⟩
theorem fl_RX3_45 : g_F RX3 45 0 9 11 2 true := ⟨_, _, rfl, by decide, by decide, by decide, rfl, g_in2 (l := gl_1_3) 12 ck_1_3 rfl rfl⟩
theorem fl_RX6_54 : g_F RX6 54 0 9 11 2 true := ⟨_, _, rfl, by decide, by decide, by decide, rfl, g_in2 (l := gl_1_3) 13 ck_1_3 rfl rfl⟩
theorem fl_RX7_161 : g_F RX7 161 0 9 11 2 true := ⟨_, _, rfl, by decide, by decide, by decide, rfl, g_in2 (l := gl_1_3) 14 ck_1_3 rfl rfl⟩
theorem fl_RX0_43 : g_F RX0 43 0 10 11 2 true := ⟨_, _, rfl, by decide, by decide, by decide, rfl, g_in2 (l := gl_1_3) 15 ck_1_3 rfl rfl⟩
theorem fl_RX7_181 : g_F RX7 181 0 10 11 2 true := ⟨_, _, rfl, by decide, by decide, by decide, rfl, g_in2 (l := gl_1_4) 0 ck_1_4 rfl rfl⟩
theorem fl_RX2_9 : g_F RX2 9 2 0 11 2 true := ⟨_, _, rfl, by decide, by decide, by decide, rfl, g_in2 (l := gl_1_5) 15 ck_1_5 rfl rfl⟩
theorem fl_RX2_15 : g_F RX2 15 2 1 11 0 false := ⟨_, _, rfl, by decide, by decide, by decide, rfl, g_in2 (l := gl_1_6) 0 ck_1_6 rfl rfl⟩
theorem fl_RX7_112 : g_F RX7 112 2 1 11 0 false := ⟨_, _, rfl, by decide, by decide, by decide, rfl, g_in2 (l := gl_1_6) 1 ck_1_6 rfl rfl⟩
theorem fl_RX2_19 : g_F RX2 19 2 2 11 2 true := ⟨_, _, rfl, by decide, by decide, by decide, rfl, g_in2 (l := gl_1_6) 2 ck_1_6 rfl rfl⟩
theorem fl_RX2_22 : g_F RX2 22 2 3 11 2 true := ⟨_, _, rfl, by decide, by decide, by decide, rfl, g_in2 (l := gl_1_6) 3 ck_1_6 rfl rfl⟩
theorem fl_RX2_25 : g_F RX2 25 2 4 11 0 false := ⟨_, _, rfl, by decide, by decide, by decide, rfl, g_in2 (l := gl_1_6) 4 ck_1_6 rfl rfl⟩
theorem fl_RX2_28 : g_F RX2 28 2 5 11 0 false := ⟨_, _, rfl, by decide, by decide, by decide, rfl, g_in2 (l := gl_1_6) 5 ck_1_6 rfl rfl⟩
theorem fl_RX2_31 : g_F RX2 31 2 6 11 0 false := ⟨_, _, rfl, by decide, by decide, by decide, rfl, g_in2 (l := gl_1_6) 6 ck_1_6 rfl rfl⟩
theorem fl_RX2_34 : g_F RX2 34 2 7 11 0 false := ⟨_, _, rfl, by decide, by decide, by decide, rfl, g_in2 (l := gl_1_6) 7 ck_1_6 rfl rfl⟩
theorem fl_RX2_37 : g_F RX2 37 2 8 11 2 true := ⟨_, _, rfl, by decide, by decide, by decide, rfl, g_in2 (l := gl_1_6) 8 ck_1_6 rfl rfl⟩
theorem fl_RX2_40 : g_F RX2 40 2 9 11 0 false := ⟨_, _, rfl, by decide, by decide, by decide, rfl, g_in2 (l := gl_1_6) 9 ck_1_6 rfl rfl⟩
theorem fl_RX2_43 : g_F RX2 43 2 10 11 2 true := ⟨_, _, rfl, by decide, by decide, by decide, rfl, g_in2 (l := gl_1_6) 10 ck_1_6 rfl rfl⟩
theorem fl_RX3_11 : g_F RX3 11 3 0 4 2 true := ⟨_, _, rfl, by decide, by decide, by decide, rfl, g_in2 (l := gl_1_8) 10 ck_1_8 rfl rfl⟩
theorem fl_RX3_17 : g_F RX3 17 3 1 4 0 false := ⟨_, _, rfl, by decide, by decide, by decide, rfl, g_in2 (l := gl_1_8) 11 ck_1_8 rfl rfl⟩
theorem fl_RX7_106 : g_F RX7 106 3 1 4 0 false := ⟨_, _, rfl, by decide, by decide, by decide, rfl, g_in2 (l := gl_1_8) 12 ck_1_8 rfl rfl⟩
theorem fl_RX3_21 : g_F RX3 21 3 2 4 2 true := ⟨_, _, rfl, by decide, by decide, by decide, rfl, g_in2 (l := gl_1_8) 13 ck_1_8 rfl rfl⟩
theorem fl_RX3_25 : g_F RX3 25 3 3 4 2 true := ⟨_, _, rfl, by decide, by decide, by decide, rfl, g_in2 (l := gl_1_8) 14 ck_1_8 rfl rfl⟩
theorem fl_RX6_9 : g_F RX6 9 6 0 2 0 false := ⟨_, _, rfl, by decide, by decide, by decide, rfl, g_in2 (l := gl_1_9) 14 ck_1_9 rfl rfl⟩
theorem fl_RX6_15 : g_F RX6 15 6 1 2 2 true := ⟨_, _, rfl, by decide, by decide, by decide, rfl, g_in2 (l := gl_1_9) 15 ck_1_9 rfl rfl⟩
theorem fl_RX7_213 : g_F RX7 213 6 1 2 2 true := ⟨_, _, rfl, by decide, by decide, by decide, rfl, g_in2 (l := gl_1_10) 0 ck_1_10 rfl rfl⟩
theorem fl_RX1_7 : g_F RX1 7 1 0 1 1 false := ⟨_, _, rfl, by decide, by decide, by decide, rfl, g_in2 (l := gl_1_10) 12 ck_1_10 rfl rfl⟩
theorem fl_RX4_9 : g_F RX4 9 4 0 3 0 false := ⟨_, _, rfl, by decide, by decide, by decide, rfl, g_in2 (l := gl_1_11) 7 ck_1_11 rfl rfl⟩
theorem fl_RX7_287 : g_F RX7 287 4 0 3 0 false := ⟨_, _, rfl, by decide, by decide, by decide, rfl, g_in2 (l := gl_1_11) 8 ck_1_11 rfl rfl⟩
theorem fl_RX4_15 : g_F RX4 15 4 1 3 0 false := ⟨_, _, rfl, by decide, by decide, by decide, rfl, g_in2 (l := gl_1_11) 9 ck_1_11 rfl rfl⟩
theorem fl_RX7_267 : g_F RX7 267 4 1 3 0 false := ⟨_, _, rfl, by decide, by decide, by decide, rfl, g_in2 (l := gl_1_11) 10 ck_1_11 rfl rfl⟩
theorem fl_RX4_18 : g_F RX4 18 4 2 3 2 true := ⟨_, _, rfl, by decide, by decide, by decide, rfl, g_in2 (l := gl_1_11) 11 ck_1_11 rfl rfl⟩
theorem fl_RX7_270 : g_F RX7 270 4 2 3 2 true := ⟨_, _, rfl, by decide, by decide, by decide, rfl, g_in2 (l := gl_1_11) 12 ck_1_11 rfl rfl⟩
theorem fx_RJ0_38 : Cond.fieldLink RJ0 38 "java/lang/String" "COMPACT_STRINGS" "Z" ∈ g_T := g_in2 (l := gl_1_12) 13 ck_1_12 rfl rfl
theorem fx_RJ0_1053 : Cond.fieldLink RJ0 1053 "jdk/internal/util/Preconditions" "SIOOBE_FORMATTER" "Ljava/util/function/BiFunction;" ∈ g_T := g_in2 (l := gl_1_13) 13 ck_1_13 rfl rfl
theorem fx_RJ2_44 : Cond.fieldLink RJ2 44 "java/lang/StringUTF16" "$assertionsDisabled" "Z" ∈ g_T := g_in2 (l := gl_1_14) 15 ck_1_14 rfl rfl
theorem fx_RJ2_59 : Cond.fieldLink RJ2 59 "java/lang/StringUTF16" "HI_BYTE_SHIFT" "I" ∈ g_T := g_in2 (l := gl_2_0) 1 ck_2_0 rfl rfl
theorem fx_RJ2_63 : Cond.fieldLink RJ2 63 "java/lang/StringUTF16" "LO_BYTE_SHIFT" "I" ∈ g_T := g_in2 (l := gl_2_0) 3 ck_2_0 rfl rfl
theorem fl_RX5_7 : g_F RX5 7 5 0 2 2 true := ⟨_, _, rfl, by decide, by decide, by decide, rfl, g_in2 (l := gl_2_6) 12 ck_2_6 rfl rfl⟩
theorem fl_RX5_24 : g_F RX5 24 5 1 2 2 true := ⟨_, _, rfl, by decide, by decide, by decide, rfl, g_in2 (l := gl_2_6) 13 ck_2_6 rfl rfl⟩
theorem fl_RX7_10 : g_F RX7 10 7 0 9 2 true := ⟨_, _, rfl, by decide, by decide, by decide, rfl, g_in2 (l := gl_2_7) 12 ck_2_7 rfl rfl⟩
theorem fl_RX7_16 : g_F RX7 16 7 1 9 2 true := ⟨_, _, rfl, by decide, by decide, by decide, rfl, g_in2 (l := gl_2_7) 13 ck_2_7 rfl rfl⟩
theorem fl_RX7_19 : g_F RX7 19 7 2 9 2 true := ⟨_, _, rfl, by decide, by decide, by decide, rfl, g_in2 (l := gl_2_7) 14 ck_2_7 rfl rfl⟩
theorem fl_RX7_22 : g_F RX7 22 7 3 9 3 false := ⟨_, _, rfl, by decide, by decide, by decide, rfl, g_in2 (l := gl_2_7) 15 ck_2_7 rfl rfl⟩
theorem fl_RX7_29 : g_F RX7 29 7 4 9 2 true := ⟨_, _, rfl, by decide, by decide, by decide, rfl, g_in2 (l := gl_2_8) 0 ck_2_8 rfl rfl⟩
theorem fl_RX7_36 : g_F RX7 36 7 5 9 2 true := ⟨_, _, rfl, by decide, by decide, by decide, rfl, g_in2 (l := gl_2_8) 1 ck_2_8 rfl rfl⟩
theorem fl_RX7_43 : g_F RX7 43 7 6 9 2 true := ⟨_, _, rfl, by decide, by decide, by decide, rfl, g_in2 (l := gl_2_8) 2 ck_2_8 rfl rfl⟩
theorem fl_RX7_50 : g_F RX7 50 7 7 9 2 true := ⟨_, _, rfl, by decide, by decide, by decide, rfl, g_in2 (l := gl_2_8) 3 ck_2_8 rfl rfl⟩
theorem fl_RX7_56 : g_F RX7 56 7 8 9 2 true := ⟨_, _, rfl, by decide, by decide, by decide, rfl, g_in2 (l := gl_2_8) 4 ck_2_8 rfl rfl⟩
theorem fl_RX8_81 : g_F RX8 81 8 0 36 0 false := ⟨_, _, rfl, by decide, by decide, by decide, rfl, g_in2 (l := gl_4_6) 9 ck_4_6 rfl rfl⟩
theorem fl_RX8_7 : g_F RX8 7 8 1 36 2 true := ⟨_, _, rfl, by decide, by decide, by decide, rfl, g_in2 (l := gl_4_6) 10 ck_4_6 rfl rfl⟩
theorem fl_RX8_13 : g_F RX8 13 8 2 36 2 true := ⟨_, _, rfl, by decide, by decide, by decide, rfl, g_in2 (l := gl_4_6) 11 ck_4_6 rfl rfl⟩
theorem fl_RX8_16 : g_F RX8 16 8 3 36 2 true := ⟨_, _, rfl, by decide, by decide, by decide, rfl, g_in2 (l := gl_4_6) 12 ck_4_6 rfl rfl⟩
theorem fl_RX8_19 : g_F RX8 19 8 4 36 2 true := ⟨_, _, rfl, by decide, by decide, by decide, rfl, g_in2 (l := gl_4_6) 13 ck_4_6 rfl rfl⟩
theorem fl_RX8_22 : g_F RX8 22 8 5 36 0 false := ⟨_, _, rfl, by decide, by decide, by decide, rfl, g_in2 (l := gl_4_6) 14 ck_4_6 rfl rfl⟩
theorem fl_RX8_96 : g_F RX8 96 8 6 36 0 false := ⟨_, _, rfl, by decide, by decide, by decide, rfl, g_in2 (l := gl_4_6) 15 ck_4_6 rfl rfl⟩
theorem fl_RX8_26 : g_F RX8 26 8 7 36 2 true := ⟨_, _, rfl, by decide, by decide, by decide, rfl, g_in2 (l := gl_4_7) 0 ck_4_7 rfl rfl⟩
theorem fl_RX8_74 : g_F RX8 74 8 8 36 0 false := ⟨_, _, rfl, by decide, by decide, by decide, rfl, g_in2 (l := gl_4_7) 1 ck_4_7 rfl rfl⟩
theorem fl_RX8_29 : g_F RX8 29 8 9 36 2 true := ⟨_, _, rfl, by decide, by decide, by decide, rfl, g_in2 (l := gl_4_7) 2 ck_4_7 rfl rfl⟩
theorem fl_RX8_32 : g_F RX8 32 8 10 36 2 true := ⟨_, _, rfl, by decide, by decide, by decide, rfl, g_in2 (l := gl_4_7) 3 ck_4_7 rfl rfl⟩
theorem fl_RX8_99 : g_F RX8 99 8 11 36 0 false := ⟨_, _, rfl, by decide, by decide, by decide, rfl, g_in2 (l := gl_4_7) 4 ck_4_7 rfl rfl⟩
theorem fl_RX8_102 : g_F RX8 102 8 12 36 0 false := ⟨_, _, rfl, by decide, by decide, by decide, rfl, g_in2 (l := gl_4_7) 5 ck_4_7 rfl rfl⟩
theorem fl_RX8_287 : g_F RX8 287 8 13 36 3 false := ⟨_, _, rfl, by decide, by decide, by decide, rfl, g_in2 (l := gl_4_7) 6 ck_4_7 rfl rfl⟩
theorem fl_RX8_35 : g_F RX8 35 8 14 36 2 true := ⟨_, _, rfl, by decide, by decide, by decide, rfl, g_in2 (l := gl_4_7) 7 ck_4_7 rfl rfl⟩
theorem fl_RX8_38 : g_F RX8 38 8 15 36 2 true := ⟨_, _, rfl, by decide, by decide, by decide, rfl, g_in2 (l := gl_4_7) 8 ck_4_7 rfl rfl⟩
theorem fl_RX8_41 : g_F RX8 41 8 16 36 2 true := ⟨_, _, rfl, by decide, by decide, by decide, rfl, g_in2 (l := gl_4_7) 9 ck_4_7 rfl rfl⟩
theorem fl_RX8_44 : g_F RX8 44 8 17 36 2 true := ⟨_, _, rfl, by decide, by decide, by decide, rfl, g_in2 (l := gl_4_7) 10 ck_4_7 rfl rfl⟩
theorem fl_RX8_47 : g_F RX8 47 8 18 36 2 true := ⟨_, _, rfl, by decide, by decide, by decide, rfl, g_in2 (l := gl_4_7) 11 ck_4_7 rfl rfl⟩
theorem fl_RX8_50 : g_F RX8 50 8 19 36 2 true := ⟨_, _, rfl, by decide, by decide, by decide, rfl, g_in2 (l := gl_4_7) 12 ck_4_7 rfl rfl⟩
theorem fl_RX8_122 : g_F RX8 122 8 20 36 0 false := ⟨_, _, rfl, by decide, by decide, by decide, rfl, g_in2 (l := gl_4_7) 13 ck_4_7 rfl rfl⟩
theorem fl_RX8_125 : g_F RX8 125 8 21 36 0 false := ⟨_, _, rfl, by decide, by decide, by decide, rfl, g_in2 (l := gl_4_7) 14 ck_4_7 rfl rfl⟩
theorem fl_RX8_128 : g_F RX8 128 8 22 36 0 false := ⟨_, _, rfl, by decide, by decide, by decide, rfl, g_in2 (l := gl_4_7) 15 ck_4_7 rfl rfl⟩
theorem fl_RX8_131 : g_F RX8 131 8 23 36 0 false := ⟨_, _, rfl, by decide, by decide, by decide, rfl, g_in2 (l := gl_4_8) 0 ck_4_8 rfl rfl⟩
theorem fl_RX8_53 : g_F RX8 53 8 24 36 2 true := ⟨_, _, rfl, by decide, by decide, by decide, rfl, g_in2 (l := gl_4_8) 1 ck_4_8 rfl rfl⟩
theorem fl_RX8_56 : g_F RX8 56 8 25 36 2 true := ⟨_, _, rfl, by decide, by decide, by decide, rfl, g_in2 (l := gl_4_8) 2 ck_4_8 rfl rfl⟩
theorem fl_RX8_140 : g_F RX8 140 8 26 36 0 false := ⟨_, _, rfl, by decide, by decide, by decide, rfl, g_in2 (l := gl_4_8) 3 ck_4_8 rfl rfl⟩
theorem fl_RX8_146 : g_F RX8 146 8 27 36 0 false := ⟨_, _, rfl, by decide, by decide, by decide, rfl, g_in2 (l := gl_4_8) 4 ck_4_8 rfl rfl⟩
theorem fl_RX8_137 : g_F RX8 137 8 28 36 0 false := ⟨_, _, rfl, by decide, by decide, by decide, rfl, g_in2 (l := gl_4_8) 5 ck_4_8 rfl rfl⟩
theorem fl_RX8_59 : g_F RX8 59 8 29 36 2 true := ⟨_, _, rfl, by decide, by decide, by decide, rfl, g_in2 (l := gl_4_8) 6 ck_4_8 rfl rfl⟩
theorem fl_RX8_62 : g_F RX8 62 8 30 36 2 true := ⟨_, _, rfl, by decide, by decide, by decide, rfl, g_in2 (l := gl_4_8) 7 ck_4_8 rfl rfl⟩
theorem fl_RX8_65 : g_F RX8 65 8 31 36 2 true := ⟨_, _, rfl, by decide, by decide, by decide, rfl, g_in2 (l := gl_4_8) 8 ck_4_8 rfl rfl⟩
theorem fl_RX8_202 : g_F RX8 202 8 32 36 0 false := ⟨_, _, rfl, by decide, by decide, by decide, rfl, g_in2 (l := gl_4_8) 9 ck_4_8 rfl rfl⟩
theorem fl_RX8_68 : g_F RX8 68 8 33 36 2 true := ⟨_, _, rfl, by decide, by decide, by decide, rfl, g_in2 (l := gl_4_8) 10 ck_4_8 rfl rfl⟩
theorem fl_RX8_71 : g_F RX8 71 8 34 36 2 true := ⟨_, _, rfl, by decide, by decide, by decide, rfl, g_in2 (l := gl_4_8) 11 ck_4_8 rfl rfl⟩
theorem fl_RX8_272 : g_F RX8 272 8 35 36 0 false := ⟨_, _, rfl, by decide, by decide, by decide, rfl, g_in2 (l := gl_4_8) 12 ck_4_8 rfl rfl⟩
theorem fx_RJ0_9 : Cond.fieldLink RJ0 9 "java/lang/String" "value" "[B" ∈ g_T := g_in2 (l := gl_6_2) 11 ck_6_2 rfl rfl
theorem fx_RJ0_15 : Cond.fieldLink RJ0 15 "java/lang/String" "coder" "B" ∈ g_T := g_in2 (l := gl_6_2) 12 ck_6_2 rfl rfl
theorem lc_RL_7 : Cond.classLink RL 7 RX7 ∈ g_T := g_in2 (l := gl_1_1) 1 ck_1_1 rfl rfl
theorem lc_RX7_7 : Cond.classLink RX7 7 RX0 ∈ g_T := g_in2 (l := gl_1_1) 9 ck_1_1 rfl rfl
theorem lc_RX7_26 : Cond.classLink RX7 26 RX2 ∈ g_T := g_in2 (l := gl_1_5) 9 ck_1_5 rfl rfl
theorem lc_RX7_33 : Cond.classLink RX7 33 RX3 ∈ g_T := g_in2 (l := gl_1_8) 2 ck_1_8 rfl rfl
theorem lc_RX3_9 : Cond.classLink RX3 9 RX5 ∈ g_T := g_in2 (l := gl_1_8) 8 ck_1_8 rfl rfl
theorem lc_RX7_40 : Cond.classLink RX7 40 RX6 ∈ g_T := g_in2 (l := gl_1_9) 8 ck_1_9 rfl rfl
theorem lc_RX7_47 : Cond.classLink RX7 47 RX1 ∈ g_T := g_in2 (l := gl_1_10) 6 ck_1_10 rfl rfl
theorem lc_RX7_54 : Cond.classLink RX7 54 RX4 ∈ g_T := g_in2 (l := gl_1_11) 0 ck_1_11 rfl rfl
theorem lc_RX2_57 : Cond.classLink RX2 57 RX5 ∈ g_T := g_in2 (l := gl_2_5) 12 ck_2_5 rfl rfl
theorem lc_RX5_20 : Cond.classLink RX5 20 "[I" ∈ g_T := g_in2 (l := gl_2_6) 11 ck_2_6 rfl rfl
theorem lc_RL_10 : Cond.classLink RL 10 RX8 ∈ g_T := g_in2 (l := gl_4_3) 4 ck_4_3 rfl rfl
theorem ct_RJ6_265 : Cond.constant RJ6 265 (1431655765) ∈ g_T := g_in2 (l := gl_2_9) 15 ck_2_9 rfl rfl
theorem ct_RJ6_266 : Cond.constant RJ6 266 (858993459) ∈ g_T := g_in2 (l := gl_2_10) 0 ck_2_10 rfl rfl
theorem ct_RJ6_267 : Cond.constant RJ6 267 (252645135) ∈ g_T := g_in2 (l := gl_2_10) 1 ck_2_10 rfl rfl
theorem ct_RX7_276 : Cond.constant RX7 276 (99999) ∈ g_T := g_in2 (l := gl_3_14) 14 ck_3_14 rfl rfl
theorem ct_RX8_162 : Cond.constant RX8 162 (100000) ∈ g_T := g_in2 (l := gl_4_4) 13 ck_4_4 rfl rfl
theorem ct_RX8_283 : Cond.constant RX8 283 (99999) ∈ g_T := g_in2 (l := gl_5_14) 14 ck_5_14 rfl rfl
theorem ct_RX7_247 : Cond.constantLong RX7 247 (-4611686018427387904) ∈ g_T := g_in2 (l := gl_3_11) 6 ck_3_11 rfl rfl
theorem ct_RX1_13 : Cond.constantLong RX1 13 (48271) ∈ g_T := g_in2 (l := gl_4_0) 11 ck_4_0 rfl rfl
theorem ct_RX1_15 : Cond.constantLong RX1 15 (2147483647) ∈ g_T := g_in2 (l := gl_4_0) 12 ck_4_0 rfl rfl
theorem ct_RX8_257 : Cond.constantLong RX8 257 (-4611686018427387904) ∈ g_T := g_in2 (l := gl_5_11) 14 ck_5_11 rfl rfl
theorem ct_RX8_275 : Cond.constantLong RX8 275 (48271) ∈ g_T := g_in2 (l := gl_6_0) 3 ck_6_0 rfl rfl
theorem ct_RX8_277 : Cond.constantLong RX8 277 (2147483647) ∈ g_T := g_in2 (l := gl_6_0) 4 ck_6_0 rfl rfl
theorem ct_RX8_279 : Cond.constantLong RX8 279 (6) ∈ g_T := g_in2 (l := gl_6_0) 5 ck_6_0 rfl rfl
theorem ct_RX8_281 : Cond.constantLong RX8 281 (10) ∈ g_T := g_in2 (l := gl_6_0) 6 ck_6_0 rfl rfl
theorem wo_1 : Cond.instanceMethod Lib.objectInit ∈ g_T := g_in2 (l := gl_1_1) 7 ck_1_1 rfl rfl
theorem wo_2 : Cond.code Lib.objectInit ⟨#[0xb1]⟩ 1 none ∈ g_T := g_in2 (l := gl_1_1) 8 ck_1_1 rfl rfl
theorem wa_1 : Cond.native arraycopyName ∈ g_T := g_in2 (l := gl_2_6) 4 ck_2_6 rfl rfl
theorem wa_2 : Cond.static arraycopyName ∈ g_T := g_in2 (l := gl_2_6) 3 ck_2_6 rfl rfl
theorem wa_3 : Cond.initialized "java/lang/System" ∈ g_T := g_in2 (l := gl_1_0) 13 ck_1_0 rfl rfl
theorem wc_1 : Cond.sameMethod "[I" "java/lang/Object" "clone" "()Ljava/lang/Object;" ∈ g_T := g_in2 (l := gl_2_6) 6 ck_2_6 rfl rfl
theorem wc_2 : Cond.native ⟨"java/lang/Object", "clone", "()Ljava/lang/Object;"⟩ ∈ g_T := g_in2 (l := gl_2_6) 7 ck_2_6 rfl rfl
theorem wc_3 : Cond.instanceMethod ⟨"java/lang/Object", "clone", "()Ljava/lang/Object;"⟩ ∈ g_T := g_in2 (l := gl_2_6) 8 ck_2_6 rfl rfl
theorem wc_4 : Cond.selects "[I" ⟨"[I", "clone", "()Ljava/lang/Object;"⟩ ⟨"java/lang/Object", "clone", "()Ljava/lang/Object;"⟩ ∈ g_T := g_in2 (l := gl_2_6) 9 ck_2_6 rfl rfl
theorem wy_1 : Cond.arrayClass .int ∈ g_T := g_in2 (l := gl_1_5) 8 ck_1_5 rfl rfl
end
