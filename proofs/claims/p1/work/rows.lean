section
-- ===== PART A: goes FIRST, ahead of the names: the tables' words, and 'selects' of the private methods out of them =====
/-- a private method of a class that the tables say can be made, by its rows of tables_1 -/
def lw_okq (q : MethodName × Nat) : Prop := (q.1.cls ≠ "java/lang/invoke/MethodHandle" ∧ q.1.cls ≠ "java/lang/invoke/VarHandle") ∧ Cond.instantiable q.1.cls q.2 ∈ tables_1 ∧ Cond.privateMethod q.1 ∈ tables_1 ∧ Cond.instanceMethod q.1 ∈ tables_1
theorem lw_p0 : lw_okq (⟨"OptimumHouse$Syntax", "scanOne", "(LOptimumHouse$Text;I)I"⟩, 5) := ⟨⟨by decide +kernel, by decide +kernel⟩, List.mem_of_getElem? (i := 100) (by decide +kernel), List.mem_of_getElem? (i := 577) (by decide +kernel), List.mem_of_getElem? (i := 578) (by decide +kernel)⟩
theorem lw_p1 : lw_okq (⟨"OptimumHouse$Syntax", "scanName", "(LOptimumHouse$Text;I)I"⟩, 5) := ⟨⟨by decide +kernel, by decide +kernel⟩, List.mem_of_getElem? (i := 100) (by decide +kernel), List.mem_of_getElem? (i := 588) (by decide +kernel), List.mem_of_getElem? (i := 589) (by decide +kernel)⟩
theorem lw_p2 : lw_okq (⟨"OptimumHouse$Syntax", "token", "(IIJ)V"⟩, 5) := ⟨⟨by decide +kernel, by decide +kernel⟩, List.mem_of_getElem? (i := 100) (by decide +kernel), List.mem_of_getElem? (i := 600) (by decide +kernel), List.mem_of_getElem? (i := 601) (by decide +kernel)⟩
theorem lw_p3 : lw_okq (⟨"OptimumHouse$Syntax", "scanNumber", "(LOptimumHouse$Text;I)I"⟩, 5) := ⟨⟨by decide +kernel, by decide +kernel⟩, List.mem_of_getElem? (i := 100) (by decide +kernel), List.mem_of_getElem? (i := 604) (by decide +kernel), List.mem_of_getElem? (i := 605) (by decide +kernel)⟩
theorem lw_p4 : lw_okq (⟨"OptimumHouse$Syntax", "is", "(I)Z"⟩, 5) := ⟨⟨by decide +kernel, by decide +kernel⟩, List.mem_of_getElem? (i := 100) (by decide +kernel), List.mem_of_getElem? (i := 695) (by decide +kernel), List.mem_of_getElem? (i := 696) (by decide +kernel)⟩
theorem lw_p5 : lw_okq (⟨"OptimumHouse$Syntax", "declaration", "()Z"⟩, 5) := ⟨⟨by decide +kernel, by decide +kernel⟩, List.mem_of_getElem? (i := 100) (by decide +kernel), List.mem_of_getElem? (i := 699) (by decide +kernel), List.mem_of_getElem? (i := 700) (by decide +kernel)⟩
theorem lw_p6 : lw_okq (⟨"OptimumHouse$Syntax", "pass", "(I)Z"⟩, 5) := ⟨⟨by decide +kernel, by decide +kernel⟩, List.mem_of_getElem? (i := 100) (by decide +kernel), List.mem_of_getElem? (i := 707) (by decide +kernel), List.mem_of_getElem? (i := 708) (by decide +kernel)⟩
theorem lw_p7 : lw_okq (⟨"OptimumHouse$Syntax", "indexes", "()Z"⟩, 5) := ⟨⟨by decide +kernel, by decide +kernel⟩, List.mem_of_getElem? (i := 100) (by decide +kernel), List.mem_of_getElem? (i := 711) (by decide +kernel), List.mem_of_getElem? (i := 712) (by decide +kernel)⟩
theorem lw_p8 : lw_okq (⟨"OptimumHouse$Syntax", "valueList", "()Z"⟩, 5) := ⟨⟨by decide +kernel, by decide +kernel⟩, List.mem_of_getElem? (i := 100) (by decide +kernel), List.mem_of_getElem? (i := 715) (by decide +kernel), List.mem_of_getElem? (i := 716) (by decide +kernel)⟩
theorem lw_p9 : lw_okq (⟨"OptimumHouse$Syntax", "expression", "(I)Z"⟩, 5) := ⟨⟨by decide +kernel, by decide +kernel⟩, List.mem_of_getElem? (i := 100) (by decide +kernel), List.mem_of_getElem? (i := 719) (by decide +kernel), List.mem_of_getElem? (i := 720) (by decide +kernel)⟩
theorem lw_p10 : lw_okq (⟨"OptimumHouse$Syntax", "term", "(I)Z"⟩, 5) := ⟨⟨by decide +kernel, by decide +kernel⟩, List.mem_of_getElem? (i := 100) (by decide +kernel), List.mem_of_getElem? (i := 723) (by decide +kernel), List.mem_of_getElem? (i := 724) (by decide +kernel)⟩
theorem lw_p11 : lw_okq (⟨"OptimumHouse$Syntax", "factor", "(I)Z"⟩, 5) := ⟨⟨by decide +kernel, by decide +kernel⟩, List.mem_of_getElem? (i := 100) (by decide +kernel), List.mem_of_getElem? (i := 727) (by decide +kernel), List.mem_of_getElem? (i := 728) (by decide +kernel)⟩
theorem lw_p12 : lw_okq (⟨"OptimumHouse$Syntax", "items", "()Z"⟩, 5) := ⟨⟨by decide +kernel, by decide +kernel⟩, List.mem_of_getElem? (i := 100) (by decide +kernel), List.mem_of_getElem? (i := 731) (by decide +kernel), List.mem_of_getElem? (i := 732) (by decide +kernel)⟩
theorem lw_p13 : lw_okq (⟨"OptimumHouse$Syntax", "item", "()Z"⟩, 5) := ⟨⟨by decide +kernel, by decide +kernel⟩, List.mem_of_getElem? (i := 100) (by decide +kernel), List.mem_of_getElem? (i := 735) (by decide +kernel), List.mem_of_getElem? (i := 736) (by decide +kernel)⟩
theorem lw_p14 : lw_okq (⟨"OptimumHouse$Syntax", "row", "()Z"⟩, 5) := ⟨⟨by decide +kernel, by decide +kernel⟩, List.mem_of_getElem? (i := 100) (by decide +kernel), List.mem_of_getElem? (i := 739) (by decide +kernel), List.mem_of_getElem? (i := 740) (by decide +kernel)⟩
theorem lw_p15 : lw_okq (⟨"OptimumHouse$Teller", "tellSet", "()Z"⟩, 17) := ⟨⟨by decide +kernel, by decide +kernel⟩, List.mem_of_getElem? (i := 94) (by decide +kernel), List.mem_of_getElem? (i := 760) (by decide +kernel), List.mem_of_getElem? (i := 761) (by decide +kernel)⟩
def lw_privs_1 : List (MethodName × Nat) := [(⟨"OptimumHouse$Syntax", "scanOne", "(LOptimumHouse$Text;I)I"⟩, 5), (⟨"OptimumHouse$Syntax", "scanName", "(LOptimumHouse$Text;I)I"⟩, 5), (⟨"OptimumHouse$Syntax", "token", "(IIJ)V"⟩, 5), (⟨"OptimumHouse$Syntax", "scanNumber", "(LOptimumHouse$Text;I)I"⟩, 5), (⟨"OptimumHouse$Syntax", "is", "(I)Z"⟩, 5), (⟨"OptimumHouse$Syntax", "declaration", "()Z"⟩, 5), (⟨"OptimumHouse$Syntax", "pass", "(I)Z"⟩, 5), (⟨"OptimumHouse$Syntax", "indexes", "()Z"⟩, 5), (⟨"OptimumHouse$Syntax", "valueList", "()Z"⟩, 5), (⟨"OptimumHouse$Syntax", "expression", "(I)Z"⟩, 5), (⟨"OptimumHouse$Syntax", "term", "(I)Z"⟩, 5), (⟨"OptimumHouse$Syntax", "factor", "(I)Z"⟩, 5), (⟨"OptimumHouse$Syntax", "items", "()Z"⟩, 5), (⟨"OptimumHouse$Syntax", "item", "()Z"⟩, 5), (⟨"OptimumHouse$Syntax", "row", "()Z"⟩, 5), (⟨"OptimumHouse$Teller", "tellSet", "()Z"⟩, 17)]
theorem lw_r1 : ∀ q ∈ lw_privs_1, lw_okq q := List.forall_mem_cons.mpr ⟨lw_p0, List.forall_mem_cons.mpr ⟨lw_p1, List.forall_mem_cons.mpr ⟨lw_p2, List.forall_mem_cons.mpr ⟨lw_p3, List.forall_mem_cons.mpr ⟨lw_p4, List.forall_mem_cons.mpr ⟨lw_p5, List.forall_mem_cons.mpr ⟨lw_p6, List.forall_mem_cons.mpr ⟨lw_p7, List.forall_mem_cons.mpr ⟨lw_p8, List.forall_mem_cons.mpr ⟨lw_p9, List.forall_mem_cons.mpr ⟨lw_p10, List.forall_mem_cons.mpr ⟨lw_p11, List.forall_mem_cons.mpr ⟨lw_p12, List.forall_mem_cons.mpr ⟨lw_p13, List.forall_mem_cons.mpr ⟨lw_p14, List.forall_mem_cons.mpr ⟨lw_p15, fun _ h => absurd h List.not_mem_nil⟩⟩⟩⟩⟩⟩⟩⟩⟩⟩⟩⟩⟩⟩⟩⟩
theorem lw_p16 : lw_okq (⟨"OptimumHouse$Teller", "learn", "(II)I"⟩, 17) := ⟨⟨by decide +kernel, by decide +kernel⟩, List.mem_of_getElem? (i := 94) (by decide +kernel), List.mem_of_getElem? (i := 764) (by decide +kernel), List.mem_of_getElem? (i := 765) (by decide +kernel)⟩
theorem lw_p17 : lw_okq (⟨"OptimumHouse$Teller", "find", "(J)I"⟩, 17) := ⟨⟨by decide +kernel, by decide +kernel⟩, List.mem_of_getElem? (i := 94) (by decide +kernel), List.mem_of_getElem? (i := 772) (by decide +kernel), List.mem_of_getElem? (i := 773) (by decide +kernel)⟩
theorem lw_p18 : lw_okq (⟨"OptimumHouse$Teller", "fail", "(II)Z"⟩, 17) := ⟨⟨by decide +kernel, by decide +kernel⟩, List.mem_of_getElem? (i := 94) (by decide +kernel), List.mem_of_getElem? (i := 776) (by decide +kernel), List.mem_of_getElem? (i := 777) (by decide +kernel)⟩
theorem lw_p19 : lw_okq (⟨"OptimumHouse$Teller", "setFact", "(III)V"⟩, 17) := ⟨⟨by decide +kernel, by decide +kernel⟩, List.mem_of_getElem? (i := 94) (by decide +kernel), List.mem_of_getElem? (i := 780) (by decide +kernel), List.mem_of_getElem? (i := 781) (by decide +kernel)⟩
theorem lw_p20 : lw_okq (⟨"OptimumHouse$Teller", "number", "(I)I"⟩, 17) := ⟨⟨by decide +kernel, by decide +kernel⟩, List.mem_of_getElem? (i := 94) (by decide +kernel), List.mem_of_getElem? (i := 784) (by decide +kernel), List.mem_of_getElem? (i := 785) (by decide +kernel)⟩
theorem lw_p21 : lw_okq (⟨"OptimumHouse$Teller", "tellPar", "()Z"⟩, 17) := ⟨⟨by decide +kernel, by decide +kernel⟩, List.mem_of_getElem? (i := 94) (by decide +kernel), List.mem_of_getElem? (i := 788) (by decide +kernel), List.mem_of_getElem? (i := 789) (by decide +kernel)⟩
theorem lw_p22 : lw_okq (⟨"OptimumHouse$Teller", "tellIndexes", "(I)Z"⟩, 17) := ⟨⟨by decide +kernel, by decide +kernel⟩, List.mem_of_getElem? (i := 94) (by decide +kernel), List.mem_of_getElem? (i := 792) (by decide +kernel), List.mem_of_getElem? (i := 793) (by decide +kernel)⟩
theorem lw_p23 : lw_okq (⟨"OptimumHouse$Teller", "isSort", "(II)Z"⟩, 17) := ⟨⟨by decide +kernel, by decide +kernel⟩, List.mem_of_getElem? (i := 94) (by decide +kernel), List.mem_of_getElem? (i := 796) (by decide +kernel), List.mem_of_getElem? (i := 797) (by decide +kernel)⟩
theorem lw_p24 : lw_okq (⟨"OptimumHouse$Teller", "fact", "(II)I"⟩, 17) := ⟨⟨by decide +kernel, by decide +kernel⟩, List.mem_of_getElem? (i := 94) (by decide +kernel), List.mem_of_getElem? (i := 800) (by decide +kernel), List.mem_of_getElem? (i := 801) (by decide +kernel)⟩
theorem lw_p25 : lw_okq (⟨"OptimumHouse$Teller", "asked", "(I)I"⟩, 17) := ⟨⟨by decide +kernel, by decide +kernel⟩, List.mem_of_getElem? (i := 94) (by decide +kernel), List.mem_of_getElem? (i := 804) (by decide +kernel), List.mem_of_getElem? (i := 805) (by decide +kernel)⟩
theorem lw_p26 : lw_okq (⟨"OptimumHouse$Teller", "setSize", "(I)I"⟩, 17) := ⟨⟨by decide +kernel, by decide +kernel⟩, List.mem_of_getElem? (i := 94) (by decide +kernel), List.mem_of_getElem? (i := 808) (by decide +kernel), List.mem_of_getElem? (i := 809) (by decide +kernel)⟩
theorem lw_p27 : lw_okq (⟨"OptimumHouse$Teller", "tellVar", "()Z"⟩, 17) := ⟨⟨by decide +kernel, by decide +kernel⟩, List.mem_of_getElem? (i := 94) (by decide +kernel), List.mem_of_getElem? (i := 812) (by decide +kernel), List.mem_of_getElem? (i := 813) (by decide +kernel)⟩
theorem lw_p28 : lw_okq (⟨"OptimumHouse$Teller", "tellRow", "()Z"⟩, 17) := ⟨⟨by decide +kernel, by decide +kernel⟩, List.mem_of_getElem? (i := 94) (by decide +kernel), List.mem_of_getElem? (i := 820) (by decide +kernel), List.mem_of_getElem? (i := 821) (by decide +kernel)⟩
theorem lw_p29 : lw_okq (⟨"OptimumHouse$Teller", "tellOneRow", "(I)Z"⟩, 17) := ⟨⟨by decide +kernel, by decide +kernel⟩, List.mem_of_getElem? (i := 94) (by decide +kernel), List.mem_of_getElem? (i := 824) (by decide +kernel), List.mem_of_getElem? (i := 825) (by decide +kernel)⟩
theorem lw_p30 : lw_okq (⟨"OptimumHouse$Teller", "expression", "(I)Z"⟩, 17) := ⟨⟨by decide +kernel, by decide +kernel⟩, List.mem_of_getElem? (i := 94) (by decide +kernel), List.mem_of_getElem? (i := 828) (by decide +kernel), List.mem_of_getElem? (i := 829) (by decide +kernel)⟩
theorem lw_p31 : lw_okq (⟨"OptimumHouse$Teller", "term", "(I)Z"⟩, 17) := ⟨⟨by decide +kernel, by decide +kernel⟩, List.mem_of_getElem? (i := 94) (by decide +kernel), List.mem_of_getElem? (i := 832) (by decide +kernel), List.mem_of_getElem? (i := 833) (by decide +kernel)⟩
def lw_privs_2 : List (MethodName × Nat) := [(⟨"OptimumHouse$Teller", "learn", "(II)I"⟩, 17), (⟨"OptimumHouse$Teller", "find", "(J)I"⟩, 17), (⟨"OptimumHouse$Teller", "fail", "(II)Z"⟩, 17), (⟨"OptimumHouse$Teller", "setFact", "(III)V"⟩, 17), (⟨"OptimumHouse$Teller", "number", "(I)I"⟩, 17), (⟨"OptimumHouse$Teller", "tellPar", "()Z"⟩, 17), (⟨"OptimumHouse$Teller", "tellIndexes", "(I)Z"⟩, 17), (⟨"OptimumHouse$Teller", "isSort", "(II)Z"⟩, 17), (⟨"OptimumHouse$Teller", "fact", "(II)I"⟩, 17), (⟨"OptimumHouse$Teller", "asked", "(I)I"⟩, 17), (⟨"OptimumHouse$Teller", "setSize", "(I)I"⟩, 17), (⟨"OptimumHouse$Teller", "tellVar", "()Z"⟩, 17), (⟨"OptimumHouse$Teller", "tellRow", "()Z"⟩, 17), (⟨"OptimumHouse$Teller", "tellOneRow", "(I)Z"⟩, 17), (⟨"OptimumHouse$Teller", "expression", "(I)Z"⟩, 17), (⟨"OptimumHouse$Teller", "term", "(I)Z"⟩, 17)]
theorem lw_r2 : ∀ q ∈ lw_privs_2, lw_okq q := List.forall_mem_cons.mpr ⟨lw_p16, List.forall_mem_cons.mpr ⟨lw_p17, List.forall_mem_cons.mpr ⟨lw_p18, List.forall_mem_cons.mpr ⟨lw_p19, List.forall_mem_cons.mpr ⟨lw_p20, List.forall_mem_cons.mpr ⟨lw_p21, List.forall_mem_cons.mpr ⟨lw_p22, List.forall_mem_cons.mpr ⟨lw_p23, List.forall_mem_cons.mpr ⟨lw_p24, List.forall_mem_cons.mpr ⟨lw_p25, List.forall_mem_cons.mpr ⟨lw_p26, List.forall_mem_cons.mpr ⟨lw_p27, List.forall_mem_cons.mpr ⟨lw_p28, List.forall_mem_cons.mpr ⟨lw_p29, List.forall_mem_cons.mpr ⟨lw_p30, List.forall_mem_cons.mpr ⟨lw_p31, fun _ h => absurd h List.not_mem_nil⟩⟩⟩⟩⟩⟩⟩⟩⟩⟩⟩⟩⟩⟩⟩⟩
theorem lw_p32 : lw_okq (⟨"OptimumHouse$Teller", "factor", "(I)Z"⟩, 17) := ⟨⟨by decide +kernel, by decide +kernel⟩, List.mem_of_getElem? (i := 94) (by decide +kernel), List.mem_of_getElem? (i := 836) (by decide +kernel), List.mem_of_getElem? (i := 837) (by decide +kernel)⟩
theorem lw_p33 : lw_okq (⟨"OptimumHouse$Teller", "canBeFactor", "(I)Z"⟩, 17) := ⟨⟨by decide +kernel, by decide +kernel⟩, List.mem_of_getElem? (i := 94) (by decide +kernel), List.mem_of_getElem? (i := 840) (by decide +kernel), List.mem_of_getElem? (i := 841) (by decide +kernel)⟩
theorem lw_p34 : lw_okq (⟨"OptimumHouse$Teller", "named", "(II)Z"⟩, 17) := ⟨⟨by decide +kernel, by decide +kernel⟩, List.mem_of_getElem? (i := 94) (by decide +kernel), List.mem_of_getElem? (i := 847) (by decide +kernel), List.mem_of_getElem? (i := 848) (by decide +kernel)⟩
theorem lw_p35 : lw_okq (⟨"OptimumHouse$Teller", "item", "()I"⟩, 17) := ⟨⟨by decide +kernel, by decide +kernel⟩, List.mem_of_getElem? (i := 94) (by decide +kernel), List.mem_of_getElem? (i := 851) (by decide +kernel), List.mem_of_getElem? (i := 852) (by decide +kernel)⟩
theorem lw_p36 : lw_okq (⟨"OptimumHouse$Teller", "putNamed", "([JII)V"⟩, 17) := ⟨⟨by decide +kernel, by decide +kernel⟩, List.mem_of_getElem? (i := 94) (by decide +kernel), List.mem_of_getElem? (i := 855) (by decide +kernel), List.mem_of_getElem? (i := 856) (by decide +kernel)⟩
theorem lw_p37 : lw_okq (⟨"OptimumHouse$Teller", "negated", "(I)Z"⟩, 17) := ⟨⟨by decide +kernel, by decide +kernel⟩, List.mem_of_getElem? (i := 94) (by decide +kernel), List.mem_of_getElem? (i := 859) (by decide +kernel), List.mem_of_getElem? (i := 860) (by decide +kernel)⟩
theorem lw_p38 : lw_okq (⟨"OptimumHouse$Teller", "inner", "(I)Z"⟩, 17) := ⟨⟨by decide +kernel, by decide +kernel⟩, List.mem_of_getElem? (i := 94) (by decide +kernel), List.mem_of_getElem? (i := 866) (by decide +kernel), List.mem_of_getElem? (i := 867) (by decide +kernel)⟩
theorem lw_p39 : lw_okq (⟨"OptimumHouse$Teller", "summed", "(I)Z"⟩, 17) := ⟨⟨by decide +kernel, by decide +kernel⟩, List.mem_of_getElem? (i := 94) (by decide +kernel), List.mem_of_getElem? (i := 870) (by decide +kernel), List.mem_of_getElem? (i := 871) (by decide +kernel)⟩
theorem lw_p40 : lw_okq (⟨"OptimumHouse$Teller", "forgetLast", "()V"⟩, 17) := ⟨⟨by decide +kernel, by decide +kernel⟩, List.mem_of_getElem? (i := 94) (by decide +kernel), List.mem_of_getElem? (i := 881) (by decide +kernel), List.mem_of_getElem? (i := 882) (by decide +kernel)⟩
theorem lw_p41 : lw_okq (⟨"OptimumHouse$Teller", "tellGoal", "()Z"⟩, 17) := ⟨⟨by decide +kernel, by decide +kernel⟩, List.mem_of_getElem? (i := 94) (by decide +kernel), List.mem_of_getElem? (i := 902) (by decide +kernel), List.mem_of_getElem? (i := 903) (by decide +kernel)⟩
theorem lw_p42 : lw_okq (⟨"OptimumHouse$Dictionary", "needsHelper", "()Z"⟩, 20) := ⟨⟨by decide +kernel, by decide +kernel⟩, List.mem_of_getElem? (i := 245) (by decide +kernel), List.mem_of_getElem? (i := 996) (by decide +kernel), List.mem_of_getElem? (i := 997) (by decide +kernel)⟩
theorem lw_p43 : lw_okq (⟨"OptimumHouse$Dictionary", "addHelper", "()V"⟩, 20) := ⟨⟨by decide +kernel, by decide +kernel⟩, List.mem_of_getElem? (i := 245) (by decide +kernel), List.mem_of_getElem? (i := 1005) (by decide +kernel), List.mem_of_getElem? (i := 1006) (by decide +kernel)⟩
theorem lw_p44 : lw_okq (⟨"OptimumHouse$Dictionary", "pivotRow", "(II)Z"⟩, 20) := ⟨⟨by decide +kernel, by decide +kernel⟩, List.mem_of_getElem? (i := 245) (by decide +kernel), List.mem_of_getElem? (i := 1037) (by decide +kernel), List.mem_of_getElem? (i := 1038) (by decide +kernel)⟩
theorem lw_p45 : lw_okq (⟨"OptimumHouse$Dictionary", "small", "(I)J"⟩, 20) := ⟨⟨by decide +kernel, by decide +kernel⟩, List.mem_of_getElem? (i := 245) (by decide +kernel), List.mem_of_getElem? (i := 1041) (by decide +kernel), List.mem_of_getElem? (i := 1042) (by decide +kernel)⟩
theorem lw_p46 : lw_okq (⟨"OptimumHouse$Dictionary", "isSmall", "(I)Z"⟩, 20) := ⟨⟨by decide +kernel, by decide +kernel⟩, List.mem_of_getElem? (i := 245) (by decide +kernel), List.mem_of_getElem? (i := 1045) (by decide +kernel), List.mem_of_getElem? (i := 1046) (by decide +kernel)⟩
theorem lw_p47 : lw_okq (⟨"OptimumHouse$Dictionary", "pivotGreat", "(IIII)Z"⟩, 20) := ⟨⟨by decide +kernel, by decide +kernel⟩, List.mem_of_getElem? (i := 245) (by decide +kernel), List.mem_of_getElem? (i := 1052) (by decide +kernel), List.mem_of_getElem? (i := 1053) (by decide +kernel)⟩
def lw_privs_3 : List (MethodName × Nat) := [(⟨"OptimumHouse$Teller", "factor", "(I)Z"⟩, 17), (⟨"OptimumHouse$Teller", "canBeFactor", "(I)Z"⟩, 17), (⟨"OptimumHouse$Teller", "named", "(II)Z"⟩, 17), (⟨"OptimumHouse$Teller", "item", "()I"⟩, 17), (⟨"OptimumHouse$Teller", "putNamed", "([JII)V"⟩, 17), (⟨"OptimumHouse$Teller", "negated", "(I)Z"⟩, 17), (⟨"OptimumHouse$Teller", "inner", "(I)Z"⟩, 17), (⟨"OptimumHouse$Teller", "summed", "(I)Z"⟩, 17), (⟨"OptimumHouse$Teller", "forgetLast", "()V"⟩, 17), (⟨"OptimumHouse$Teller", "tellGoal", "()Z"⟩, 17), (⟨"OptimumHouse$Dictionary", "needsHelper", "()Z"⟩, 20), (⟨"OptimumHouse$Dictionary", "addHelper", "()V"⟩, 20), (⟨"OptimumHouse$Dictionary", "pivotRow", "(II)Z"⟩, 20), (⟨"OptimumHouse$Dictionary", "small", "(I)J"⟩, 20), (⟨"OptimumHouse$Dictionary", "isSmall", "(I)Z"⟩, 20), (⟨"OptimumHouse$Dictionary", "pivotGreat", "(IIII)Z"⟩, 20)]
theorem lw_r3 : ∀ q ∈ lw_privs_3, lw_okq q := List.forall_mem_cons.mpr ⟨lw_p32, List.forall_mem_cons.mpr ⟨lw_p33, List.forall_mem_cons.mpr ⟨lw_p34, List.forall_mem_cons.mpr ⟨lw_p35, List.forall_mem_cons.mpr ⟨lw_p36, List.forall_mem_cons.mpr ⟨lw_p37, List.forall_mem_cons.mpr ⟨lw_p38, List.forall_mem_cons.mpr ⟨lw_p39, List.forall_mem_cons.mpr ⟨lw_p40, List.forall_mem_cons.mpr ⟨lw_p41, List.forall_mem_cons.mpr ⟨lw_p42, List.forall_mem_cons.mpr ⟨lw_p43, List.forall_mem_cons.mpr ⟨lw_p44, List.forall_mem_cons.mpr ⟨lw_p45, List.forall_mem_cons.mpr ⟨lw_p46, List.forall_mem_cons.mpr ⟨lw_p47, fun _ h => absurd h List.not_mem_nil⟩⟩⟩⟩⟩⟩⟩⟩⟩⟩⟩⟩⟩⟩⟩⟩
theorem lw_p48 : lw_okq (⟨"OptimumHouse$Big", "trim", "()V"⟩, 3) := ⟨⟨by decide +kernel, by decide +kernel⟩, List.mem_of_getElem? (i := 191) (by decide +kernel), List.mem_of_getElem? (i := 1073) (by decide +kernel), List.mem_of_getElem? (i := 1074) (by decide +kernel)⟩
theorem lw_p49 : lw_okq (⟨"OptimumHouse$Big", "addSize", "(LOptimumHouse$Big;)V"⟩, 3) := ⟨⟨by decide +kernel, by decide +kernel⟩, List.mem_of_getElem? (i := 191) (by decide +kernel), List.mem_of_getElem? (i := 1086) (by decide +kernel), List.mem_of_getElem? (i := 1087) (by decide +kernel)⟩
theorem lw_p50 : lw_okq (⟨"OptimumHouse$Big", "compareSize", "(LOptimumHouse$Big;)I"⟩, 3) := ⟨⟨by decide +kernel, by decide +kernel⟩, List.mem_of_getElem? (i := 191) (by decide +kernel), List.mem_of_getElem? (i := 1092) (by decide +kernel), List.mem_of_getElem? (i := 1093) (by decide +kernel)⟩
theorem lw_p51 : lw_okq (⟨"OptimumHouse$Big", "takeSize", "(LOptimumHouse$Big;LOptimumHouse$Big;)V"⟩, 3) := ⟨⟨by decide +kernel, by decide +kernel⟩, List.mem_of_getElem? (i := 191) (by decide +kernel), List.mem_of_getElem? (i := 1099) (by decide +kernel), List.mem_of_getElem? (i := 1100) (by decide +kernel)⟩
theorem lw_p52 : lw_okq (⟨"OptimumHouse$Big", "reduce", "(I)I"⟩, 3) := ⟨⟨by decide +kernel, by decide +kernel⟩, List.mem_of_getElem? (i := 191) (by decide +kernel), List.mem_of_getElem? (i := 1107) (by decide +kernel), List.mem_of_getElem? (i := 1108) (by decide +kernel)⟩
theorem lw_p53 : lw_okq (⟨"OptimumHouse$Big", "divideLong", "(LOptimumHouse$Big;LOptimumHouse$Big;LOptimumHouse$Big;)V"⟩, 3) := ⟨⟨by decide +kernel, by decide +kernel⟩, List.mem_of_getElem? (i := 191) (by decide +kernel), List.mem_of_getElem? (i := 1111) (by decide +kernel), List.mem_of_getElem? (i := 1112) (by decide +kernel)⟩
theorem lw_p54 : lw_okq (⟨"OptimumHouse$Big", "scale", "(I)V"⟩, 3) := ⟨⟨by decide +kernel, by decide +kernel⟩, List.mem_of_getElem? (i := 191) (by decide +kernel), List.mem_of_getElem? (i := 1115) (by decide +kernel), List.mem_of_getElem? (i := 1116) (by decide +kernel)⟩
theorem lw_p55 : lw_okq (⟨"OptimumHouse$Big", "digitAt", "(ILOptimumHouse$Big;I)I"⟩, 3) := ⟨⟨by decide +kernel, by decide +kernel⟩, List.mem_of_getElem? (i := 191) (by decide +kernel), List.mem_of_getElem? (i := 1119) (by decide +kernel), List.mem_of_getElem? (i := 1120) (by decide +kernel)⟩
theorem lw_p56 : lw_okq (⟨"OptimumHouse$Search", "judge", "()V"⟩, 17) := ⟨⟨by decide +kernel, by decide +kernel⟩, List.mem_of_getElem? (i := 179) (by decide +kernel), List.mem_of_getElem? (i := 1132) (by decide +kernel), List.mem_of_getElem? (i := 1133) (by decide +kernel)⟩
theorem lw_p57 : lw_okq (⟨"OptimumHouse$Search", "isAboveBest", "()Z"⟩, 17) := ⟨⟨by decide +kernel, by decide +kernel⟩, List.mem_of_getElem? (i := 179) (by decide +kernel), List.mem_of_getElem? (i := 1136) (by decide +kernel), List.mem_of_getElem? (i := 1137) (by decide +kernel)⟩
theorem lw_p58 : lw_okq (⟨"OptimumHouse$Dictionary", "rowOf", "(I)I"⟩, 20) := ⟨⟨by decide +kernel, by decide +kernel⟩, List.mem_of_getElem? (i := 245) (by decide +kernel), List.mem_of_getElem? (i := 1177) (by decide +kernel), List.mem_of_getElem? (i := 1178) (by decide +kernel)⟩
theorem lw_p59 : lw_okq (⟨"OptimumHouse$Search", "leaf", "()V"⟩, 17) := ⟨⟨by decide +kernel, by decide +kernel⟩, List.mem_of_getElem? (i := 179) (by decide +kernel), List.mem_of_getElem? (i := 1198) (by decide +kernel), List.mem_of_getElem? (i := 1199) (by decide +kernel)⟩
theorem lw_p60 : lw_okq (⟨"OptimumHouse$Dictionary", "placeOf", "(I)I"⟩, 20) := ⟨⟨by decide +kernel, by decide +kernel⟩, List.mem_of_getElem? (i := 245) (by decide +kernel), List.mem_of_getElem? (i := 1246) (by decide +kernel), List.mem_of_getElem? (i := 1247) (by decide +kernel)⟩
theorem lw_p61 : lw_okq (⟨"OptimumHouse$Prover", "writePair", "(ILOptimumHouse$Big;)V"⟩, 10) := ⟨⟨by decide +kernel, by decide +kernel⟩, List.mem_of_getElem? (i := 315) (by decide +kernel), List.mem_of_getElem? (i := 1250) (by decide +kernel), List.mem_of_getElem? (i := 1251) (by decide +kernel)⟩
theorem lw_p62 : lw_okq (⟨"OptimumHouse$Search", "cut", "()V"⟩, 17) := ⟨⟨by decide +kernel, by decide +kernel⟩, List.mem_of_getElem? (i := 179) (by decide +kernel), List.mem_of_getElem? (i := 1273) (by decide +kernel), List.mem_of_getElem? (i := 1274) (by decide +kernel)⟩
theorem lw_p63 : lw_okq (⟨"OptimumHouse$Search", "countChild", "(Z)Z"⟩, 17) := ⟨⟨by decide +kernel, by decide +kernel⟩, List.mem_of_getElem? (i := 179) (by decide +kernel), List.mem_of_getElem? (i := 1296) (by decide +kernel), List.mem_of_getElem? (i := 1297) (by decide +kernel)⟩
def lw_privs_4 : List (MethodName × Nat) := [(⟨"OptimumHouse$Big", "trim", "()V"⟩, 3), (⟨"OptimumHouse$Big", "addSize", "(LOptimumHouse$Big;)V"⟩, 3), (⟨"OptimumHouse$Big", "compareSize", "(LOptimumHouse$Big;)I"⟩, 3), (⟨"OptimumHouse$Big", "takeSize", "(LOptimumHouse$Big;LOptimumHouse$Big;)V"⟩, 3), (⟨"OptimumHouse$Big", "reduce", "(I)I"⟩, 3), (⟨"OptimumHouse$Big", "divideLong", "(LOptimumHouse$Big;LOptimumHouse$Big;LOptimumHouse$Big;)V"⟩, 3), (⟨"OptimumHouse$Big", "scale", "(I)V"⟩, 3), (⟨"OptimumHouse$Big", "digitAt", "(ILOptimumHouse$Big;I)I"⟩, 3), (⟨"OptimumHouse$Search", "judge", "()V"⟩, 17), (⟨"OptimumHouse$Search", "isAboveBest", "()Z"⟩, 17), (⟨"OptimumHouse$Dictionary", "rowOf", "(I)I"⟩, 20), (⟨"OptimumHouse$Search", "leaf", "()V"⟩, 17), (⟨"OptimumHouse$Dictionary", "placeOf", "(I)I"⟩, 20), (⟨"OptimumHouse$Prover", "writePair", "(ILOptimumHouse$Big;)V"⟩, 10), (⟨"OptimumHouse$Search", "cut", "()V"⟩, 17), (⟨"OptimumHouse$Search", "countChild", "(Z)Z"⟩, 17)]
theorem lw_r4 : ∀ q ∈ lw_privs_4, lw_okq q := List.forall_mem_cons.mpr ⟨lw_p48, List.forall_mem_cons.mpr ⟨lw_p49, List.forall_mem_cons.mpr ⟨lw_p50, List.forall_mem_cons.mpr ⟨lw_p51, List.forall_mem_cons.mpr ⟨lw_p52, List.forall_mem_cons.mpr ⟨lw_p53, List.forall_mem_cons.mpr ⟨lw_p54, List.forall_mem_cons.mpr ⟨lw_p55, List.forall_mem_cons.mpr ⟨lw_p56, List.forall_mem_cons.mpr ⟨lw_p57, List.forall_mem_cons.mpr ⟨lw_p58, List.forall_mem_cons.mpr ⟨lw_p59, List.forall_mem_cons.mpr ⟨lw_p60, List.forall_mem_cons.mpr ⟨lw_p61, List.forall_mem_cons.mpr ⟨lw_p62, List.forall_mem_cons.mpr ⟨lw_p63, fun _ h => absurd h List.not_mem_nil⟩⟩⟩⟩⟩⟩⟩⟩⟩⟩⟩⟩⟩⟩⟩⟩
theorem lw_p64 : lw_okq (⟨"OptimumHouse$Dictionary", "addRow", "()V"⟩, 20) := ⟨⟨by decide +kernel, by decide +kernel⟩, List.mem_of_getElem? (i := 245) (by decide +kernel), List.mem_of_getElem? (i := 1323) (by decide +kernel), List.mem_of_getElem? (i := 1324) (by decide +kernel)⟩
theorem lw_p65 : lw_okq (⟨"OptimumHouse$Search", "branch", "()V"⟩, 17) := ⟨⟨by decide +kernel, by decide +kernel⟩, List.mem_of_getElem? (i := 179) (by decide +kernel), List.mem_of_getElem? (i := 1327) (by decide +kernel), List.mem_of_getElem? (i := 1328) (by decide +kernel)⟩
theorem lw_p66 : lw_okq (⟨"OptimumHouse$Search", "beginSecondChild", "()V"⟩, 17) := ⟨⟨by decide +kernel, by decide +kernel⟩, List.mem_of_getElem? (i := 179) (by decide +kernel), List.mem_of_getElem? (i := 1356) (by decide +kernel), List.mem_of_getElem? (i := 1357) (by decide +kernel)⟩
theorem lw_p67 : lw_okq (⟨"OptimumHouse$Search", "choose", "()V"⟩, 17) := ⟨⟨by decide +kernel, by decide +kernel⟩, List.mem_of_getElem? (i := 179) (by decide +kernel), List.mem_of_getElem? (i := 1371) (by decide +kernel), List.mem_of_getElem? (i := 1372) (by decide +kernel)⟩
theorem lw_p68 : lw_okq (⟨"OptimumHouse$Dictionary", "leavesAhead", "(I)Z"⟩, 20) := ⟨⟨by decide +kernel, by decide +kernel⟩, List.mem_of_getElem? (i := 245) (by decide +kernel), List.mem_of_getElem? (i := 1383) (by decide +kernel), List.mem_of_getElem? (i := 1384) (by decide +kernel)⟩
theorem lw_p69 : lw_okq (⟨"OptimumHouse$Dictionary", "compareProducts", "(IIII)I"⟩, 20) := ⟨⟨by decide +kernel, by decide +kernel⟩, List.mem_of_getElem? (i := 245) (by decide +kernel), List.mem_of_getElem? (i := 1387) (by decide +kernel), List.mem_of_getElem? (i := 1388) (by decide +kernel)⟩
theorem lw_p70 : lw_okq (⟨"OptimumHouse$Dictionary", "entersAhead", "(I)Z"⟩, 20) := ⟨⟨by decide +kernel, by decide +kernel⟩, List.mem_of_getElem? (i := 245) (by decide +kernel), List.mem_of_getElem? (i := 1399) (by decide +kernel), List.mem_of_getElem? (i := 1400) (by decide +kernel)⟩
theorem lw_p71 : lw_okq (⟨"OptimumHouse$Search", "endPhaseOne", "()V"⟩, 17) := ⟨⟨by decide +kernel, by decide +kernel⟩, List.mem_of_getElem? (i := 179) (by decide +kernel), List.mem_of_getElem? (i := 1403) (by decide +kernel), List.mem_of_getElem? (i := 1404) (by decide +kernel)⟩
theorem lw_p72 : lw_okq (⟨"OptimumHouse$Prover", "reduce", "(LOptimumHouse$Big;LOptimumHouse$Big;Z)V"⟩, 10) := ⟨⟨by decide +kernel, by decide +kernel⟩, List.mem_of_getElem? (i := 315) (by decide +kernel), List.mem_of_getElem? (i := 1440) (by decide +kernel), List.mem_of_getElem? (i := 1441) (by decide +kernel)⟩
theorem lw_p73 : lw_okq (⟨"OptimumHouse$Prover", "common", "(LOptimumHouse$Big;LOptimumHouse$Big;)LOptimumHouse$Big;"⟩, 10) := ⟨⟨by decide +kernel, by decide +kernel⟩, List.mem_of_getElem? (i := 315) (by decide +kernel), List.mem_of_getElem? (i := 1447) (by decide +kernel), List.mem_of_getElem? (i := 1448) (by decide +kernel)⟩
theorem lw_p74 : lw_okq (⟨"OptimumHouse$Prover", "writePoint", "(I)V"⟩, 10) := ⟨⟨by decide +kernel, by decide +kernel⟩, List.mem_of_getElem? (i := 315) (by decide +kernel), List.mem_of_getElem? (i := 1453) (by decide +kernel), List.mem_of_getElem? (i := 1454) (by decide +kernel)⟩
theorem lw_p75 : lw_okq (⟨"OptimumHouse$ProofReader", "scanOne", "(II)I"⟩, 4) := ⟨⟨by decide +kernel, by decide +kernel⟩, List.mem_of_getElem? (i := 420) (by decide +kernel), List.mem_of_getElem? (i := 1555) (by decide +kernel), List.mem_of_getElem? (i := 1556) (by decide +kernel)⟩
theorem lw_p76 : lw_okq (⟨"OptimumHouse$ProofReader", "scanWord", "(II)I"⟩, 4) := ⟨⟨by decide +kernel, by decide +kernel⟩, List.mem_of_getElem? (i := 420) (by decide +kernel), List.mem_of_getElem? (i := 1561) (by decide +kernel), List.mem_of_getElem? (i := 1562) (by decide +kernel)⟩
theorem lw_p77 : lw_okq (⟨"OptimumHouse$ProofReader", "isWord", "(IILjava/lang/String;)Z"⟩, 4) := ⟨⟨by decide +kernel, by decide +kernel⟩, List.mem_of_getElem? (i := 420) (by decide +kernel), List.mem_of_getElem? (i := 1577) (by decide +kernel), List.mem_of_getElem? (i := 1578) (by decide +kernel)⟩
theorem lw_p78 : lw_okq (⟨"OptimumHouse$ProofReader", "mark", "(II)V"⟩, 4) := ⟨⟨by decide +kernel, by decide +kernel⟩, List.mem_of_getElem? (i := 420) (by decide +kernel), List.mem_of_getElem? (i := 1583) (by decide +kernel), List.mem_of_getElem? (i := 1584) (by decide +kernel)⟩
theorem lw_p79 : lw_okq (⟨"OptimumHouse$ProofReader", "scanNumber", "(II)I"⟩, 4) := ⟨⟨by decide +kernel, by decide +kernel⟩, List.mem_of_getElem? (i := 420) (by decide +kernel), List.mem_of_getElem? (i := 1588) (by decide +kernel), List.mem_of_getElem? (i := 1589) (by decide +kernel)⟩
def lw_privs_5 : List (MethodName × Nat) := [(⟨"OptimumHouse$Dictionary", "addRow", "()V"⟩, 20), (⟨"OptimumHouse$Search", "branch", "()V"⟩, 17), (⟨"OptimumHouse$Search", "beginSecondChild", "()V"⟩, 17), (⟨"OptimumHouse$Search", "choose", "()V"⟩, 17), (⟨"OptimumHouse$Dictionary", "leavesAhead", "(I)Z"⟩, 20), (⟨"OptimumHouse$Dictionary", "compareProducts", "(IIII)I"⟩, 20), (⟨"OptimumHouse$Dictionary", "entersAhead", "(I)Z"⟩, 20), (⟨"OptimumHouse$Search", "endPhaseOne", "()V"⟩, 17), (⟨"OptimumHouse$Prover", "reduce", "(LOptimumHouse$Big;LOptimumHouse$Big;Z)V"⟩, 10), (⟨"OptimumHouse$Prover", "common", "(LOptimumHouse$Big;LOptimumHouse$Big;)LOptimumHouse$Big;"⟩, 10), (⟨"OptimumHouse$Prover", "writePoint", "(I)V"⟩, 10), (⟨"OptimumHouse$ProofReader", "scanOne", "(II)I"⟩, 4), (⟨"OptimumHouse$ProofReader", "scanWord", "(II)I"⟩, 4), (⟨"OptimumHouse$ProofReader", "isWord", "(IILjava/lang/String;)Z"⟩, 4), (⟨"OptimumHouse$ProofReader", "mark", "(II)V"⟩, 4), (⟨"OptimumHouse$ProofReader", "scanNumber", "(II)I"⟩, 4)]
theorem lw_r5 : ∀ q ∈ lw_privs_5, lw_okq q := List.forall_mem_cons.mpr ⟨lw_p64, List.forall_mem_cons.mpr ⟨lw_p65, List.forall_mem_cons.mpr ⟨lw_p66, List.forall_mem_cons.mpr ⟨lw_p67, List.forall_mem_cons.mpr ⟨lw_p68, List.forall_mem_cons.mpr ⟨lw_p69, List.forall_mem_cons.mpr ⟨lw_p70, List.forall_mem_cons.mpr ⟨lw_p71, List.forall_mem_cons.mpr ⟨lw_p72, List.forall_mem_cons.mpr ⟨lw_p73, List.forall_mem_cons.mpr ⟨lw_p74, List.forall_mem_cons.mpr ⟨lw_p75, List.forall_mem_cons.mpr ⟨lw_p76, List.forall_mem_cons.mpr ⟨lw_p77, List.forall_mem_cons.mpr ⟨lw_p78, List.forall_mem_cons.mpr ⟨lw_p79, fun _ h => absurd h List.not_mem_nil⟩⟩⟩⟩⟩⟩⟩⟩⟩⟩⟩⟩⟩⟩⟩⟩
theorem lw_p80 : lw_okq (⟨"OptimumHouse$ProofReader", "behindDigits", "(II)I"⟩, 4) := ⟨⟨by decide +kernel, by decide +kernel⟩, List.mem_of_getElem? (i := 420) (by decide +kernel), List.mem_of_getElem? (i := 1592) (by decide +kernel), List.mem_of_getElem? (i := 1593) (by decide +kernel)⟩
theorem lw_p81 : lw_okq (⟨"OptimumHouse$ProofReader", "hasMoreThanNoughts", "(II)Z"⟩, 4) := ⟨⟨by decide +kernel, by decide +kernel⟩, List.mem_of_getElem? (i := 420) (by decide +kernel), List.mem_of_getElem? (i := 1596) (by decide +kernel), List.mem_of_getElem? (i := 1597) (by decide +kernel)⟩
theorem lw_p82 : lw_okq (⟨"OptimumHouse$ProofReader", "pass", "(I)Z"⟩, 4) := ⟨⟨by decide +kernel, by decide +kernel⟩, List.mem_of_getElem? (i := 420) (by decide +kernel), List.mem_of_getElem? (i := 1609) (by decide +kernel), List.mem_of_getElem? (i := 1610) (by decide +kernel)⟩
theorem lw_p83 : lw_okq (⟨"OptimumHouse$ProofReader", "passAbove", "()Z"⟩, 4) := ⟨⟨by decide +kernel, by decide +kernel⟩, List.mem_of_getElem? (i := 420) (by decide +kernel), List.mem_of_getElem? (i := 1613) (by decide +kernel), List.mem_of_getElem? (i := 1614) (by decide +kernel)⟩
theorem lw_p84 : lw_okq (⟨"OptimumHouse$ProofReader", "passPoint", "(I)Z"⟩, 4) := ⟨⟨by decide +kernel, by decide +kernel⟩, List.mem_of_getElem? (i := 420) (by decide +kernel), List.mem_of_getElem? (i := 1621) (by decide +kernel), List.mem_of_getElem? (i := 1622) (by decide +kernel)⟩
theorem lw_p85 : lw_okq (⟨"OptimumHouse$ProofReader", "passTree", "()Z"⟩, 4) := ⟨⟨by decide +kernel, by decide +kernel⟩, List.mem_of_getElem? (i := 420) (by decide +kernel), List.mem_of_getElem? (i := 1625) (by decide +kernel), List.mem_of_getElem? (i := 1626) (by decide +kernel)⟩
theorem lw_p86 : lw_okq (⟨"OptimumHouse$ProofReader", "passPairs", "()Z"⟩, 4) := ⟨⟨by decide +kernel, by decide +kernel⟩, List.mem_of_getElem? (i := 420) (by decide +kernel), List.mem_of_getElem? (i := 1629) (by decide +kernel), List.mem_of_getElem? (i := 1630) (by decide +kernel)⟩
theorem lw_p87 : lw_okq (⟨"OptimumHouse$Checker", "fail", "(II)Z"⟩, 18) := ⟨⟨by decide +kernel, by decide +kernel⟩, List.mem_of_getElem? (i := 414) (by decide +kernel), List.mem_of_getElem? (i := 1634) (by decide +kernel), List.mem_of_getElem? (i := 1635) (by decide +kernel)⟩
theorem lw_p88 : lw_okq (⟨"OptimumHouse$Checker", "holdUnbounded", "()Z"⟩, 18) := ⟨⟨by decide +kernel, by decide +kernel⟩, List.mem_of_getElem? (i := 414) (by decide +kernel), List.mem_of_getElem? (i := 1644) (by decide +kernel), List.mem_of_getElem? (i := 1645) (by decide +kernel)⟩
theorem lw_p89 : lw_okq (⟨"OptimumHouse$Checker", "takePoint", "()V"⟩, 18) := ⟨⟨by decide +kernel, by decide +kernel⟩, List.mem_of_getElem? (i := 414) (by decide +kernel), List.mem_of_getElem? (i := 1652) (by decide +kernel), List.mem_of_getElem? (i := 1653) (by decide +kernel)⟩
theorem lw_p90 : lw_okq (⟨"OptimumHouse$Checker", "isPoint", "(Z)Z"⟩, 18) := ⟨⟨by decide +kernel, by decide +kernel⟩, List.mem_of_getElem? (i := 414) (by decide +kernel), List.mem_of_getElem? (i := 1667) (by decide +kernel), List.mem_of_getElem? (i := 1668) (by decide +kernel)⟩
theorem lw_p91 : lw_okq (⟨"OptimumHouse$Checker", "sumAt", "(I)V"⟩, 18) := ⟨⟨by decide +kernel, by decide +kernel⟩, List.mem_of_getElem? (i := 414) (by decide +kernel), List.mem_of_getElem? (i := 1674) (by decide +kernel), List.mem_of_getElem? (i := 1675) (by decide +kernel)⟩
theorem lw_p92 : lw_okq (⟨"OptimumHouse$Checker", "scaleBound", "(I)V"⟩, 18) := ⟨⟨by decide +kernel, by decide +kernel⟩, List.mem_of_getElem? (i := 414) (by decide +kernel), List.mem_of_getElem? (i := 1685) (by decide +kernel), List.mem_of_getElem? (i := 1686) (by decide +kernel)⟩
theorem lw_p93 : lw_okq (⟨"OptimumHouse$Checker", "isAlong", "()Z"⟩, 18) := ⟨⟨by decide +kernel, by decide +kernel⟩, List.mem_of_getElem? (i := 414) (by decide +kernel), List.mem_of_getElem? (i := 1690) (by decide +kernel), List.mem_of_getElem? (i := 1691) (by decide +kernel)⟩
theorem lw_p94 : lw_okq (⟨"OptimumHouse$Checker", "holdOptimal", "()Z"⟩, 18) := ⟨⟨by decide +kernel, by decide +kernel⟩, List.mem_of_getElem? (i := 414) (by decide +kernel), List.mem_of_getElem? (i := 1694) (by decide +kernel), List.mem_of_getElem? (i := 1695) (by decide +kernel)⟩
theorem lw_p95 : lw_okq (⟨"OptimumHouse$Checker", "isValue", "()Z"⟩, 18) := ⟨⟨by decide +kernel, by decide +kernel⟩, List.mem_of_getElem? (i := 414) (by decide +kernel), List.mem_of_getElem? (i := 1699) (by decide +kernel), List.mem_of_getElem? (i := 1700) (by decide +kernel)⟩
def lw_privs_6 : List (MethodName × Nat) := [(⟨"OptimumHouse$ProofReader", "behindDigits", "(II)I"⟩, 4), (⟨"OptimumHouse$ProofReader", "hasMoreThanNoughts", "(II)Z"⟩, 4), (⟨"OptimumHouse$ProofReader", "pass", "(I)Z"⟩, 4), (⟨"OptimumHouse$ProofReader", "passAbove", "()Z"⟩, 4), (⟨"OptimumHouse$ProofReader", "passPoint", "(I)Z"⟩, 4), (⟨"OptimumHouse$ProofReader", "passTree", "()Z"⟩, 4), (⟨"OptimumHouse$ProofReader", "passPairs", "()Z"⟩, 4), (⟨"OptimumHouse$Checker", "fail", "(II)Z"⟩, 18), (⟨"OptimumHouse$Checker", "holdUnbounded", "()Z"⟩, 18), (⟨"OptimumHouse$Checker", "takePoint", "()V"⟩, 18), (⟨"OptimumHouse$Checker", "isPoint", "(Z)Z"⟩, 18), (⟨"OptimumHouse$Checker", "sumAt", "(I)V"⟩, 18), (⟨"OptimumHouse$Checker", "scaleBound", "(I)V"⟩, 18), (⟨"OptimumHouse$Checker", "isAlong", "()Z"⟩, 18), (⟨"OptimumHouse$Checker", "holdOptimal", "()Z"⟩, 18), (⟨"OptimumHouse$Checker", "isValue", "()Z"⟩, 18)]
theorem lw_r6 : ∀ q ∈ lw_privs_6, lw_okq q := List.forall_mem_cons.mpr ⟨lw_p80, List.forall_mem_cons.mpr ⟨lw_p81, List.forall_mem_cons.mpr ⟨lw_p82, List.forall_mem_cons.mpr ⟨lw_p83, List.forall_mem_cons.mpr ⟨lw_p84, List.forall_mem_cons.mpr ⟨lw_p85, List.forall_mem_cons.mpr ⟨lw_p86, List.forall_mem_cons.mpr ⟨lw_p87, List.forall_mem_cons.mpr ⟨lw_p88, List.forall_mem_cons.mpr ⟨lw_p89, List.forall_mem_cons.mpr ⟨lw_p90, List.forall_mem_cons.mpr ⟨lw_p91, List.forall_mem_cons.mpr ⟨lw_p92, List.forall_mem_cons.mpr ⟨lw_p93, List.forall_mem_cons.mpr ⟨lw_p94, List.forall_mem_cons.mpr ⟨lw_p95, fun _ h => absurd h List.not_mem_nil⟩⟩⟩⟩⟩⟩⟩⟩⟩⟩⟩⟩⟩⟩⟩⟩
theorem lw_p96 : lw_okq (⟨"OptimumHouse$Checker", "holdTrees", "(Z)Z"⟩, 18) := ⟨⟨by decide +kernel, by decide +kernel⟩, List.mem_of_getElem? (i := 414) (by decide +kernel), List.mem_of_getElem? (i := 1703) (by decide +kernel), List.mem_of_getElem? (i := 1704) (by decide +kernel)⟩
theorem lw_p97 : lw_okq (⟨"OptimumHouse$Checker", "branch", "()I"⟩, 18) := ⟨⟨by decide +kernel, by decide +kernel⟩, List.mem_of_getElem? (i := 414) (by decide +kernel), List.mem_of_getElem? (i := 1707) (by decide +kernel), List.mem_of_getElem? (i := 1708) (by decide +kernel)⟩
theorem lw_p98 : lw_okq (⟨"OptimumHouse$Checker", "pairTree", "(IZ)I"⟩, 18) := ⟨⟨by decide +kernel, by decide +kernel⟩, List.mem_of_getElem? (i := 414) (by decide +kernel), List.mem_of_getElem? (i := 1719) (by decide +kernel), List.mem_of_getElem? (i := 1720) (by decide +kernel)⟩
theorem lw_p99 : lw_okq (⟨"OptimumHouse$Checker", "takePairs", "()Z"⟩, 18) := ⟨⟨by decide +kernel, by decide +kernel⟩, List.mem_of_getElem? (i := 414) (by decide +kernel), List.mem_of_getElem? (i := 1723) (by decide +kernel), List.mem_of_getElem? (i := 1724) (by decide +kernel)⟩
theorem lw_p100 : lw_okq (⟨"OptimumHouse$Checker", "isFarkas", "()Z"⟩, 18) := ⟨⟨by decide +kernel, by decide +kernel⟩, List.mem_of_getElem? (i := 414) (by decide +kernel), List.mem_of_getElem? (i := 1731) (by decide +kernel), List.mem_of_getElem? (i := 1732) (by decide +kernel)⟩
theorem lw_p101 : lw_okq (⟨"OptimumHouse$Checker", "isBound", "()Z"⟩, 18) := ⟨⟨by decide +kernel, by decide +kernel⟩, List.mem_of_getElem? (i := 414) (by decide +kernel), List.mem_of_getElem? (i := 1736) (by decide +kernel), List.mem_of_getElem? (i := 1737) (by decide +kernel)⟩
theorem lw_p102 : lw_okq (⟨"OptimumHouse$Checker", "beginSecondTree", "()V"⟩, 18) := ⟨⟨by decide +kernel, by decide +kernel⟩, List.mem_of_getElem? (i := 414) (by decide +kernel), List.mem_of_getElem? (i := 1741) (by decide +kernel), List.mem_of_getElem? (i := 1742) (by decide +kernel)⟩
theorem lw_p103 : lw_okq (⟨"OptimumHouseModel", "lay", "(I)V"⟩, 105) := ⟨⟨by decide +kernel, by decide +kernel⟩, List.mem_of_getElem? (i := 1750) (by decide +kernel), List.mem_of_getElem? (i := 2079) (by decide +kernel), List.mem_of_getElem? (i := 2080) (by decide +kernel)⟩
theorem lw_p104 : lw_okq (⟨"OptimumHouseModel", "tokenize", "()V"⟩, 105) := ⟨⟨by decide +kernel, by decide +kernel⟩, List.mem_of_getElem? (i := 1750) (by decide +kernel), List.mem_of_getElem? (i := 2091) (by decide +kernel), List.mem_of_getElem? (i := 2092) (by decide +kernel)⟩
theorem lw_p105 : lw_okq (⟨"OptimumHouseModel", "at", "(I)I"⟩, 105) := ⟨⟨by decide +kernel, by decide +kernel⟩, List.mem_of_getElem? (i := 1750) (by decide +kernel), List.mem_of_getElem? (i := 2098) (by decide +kernel), List.mem_of_getElem? (i := 2099) (by decide +kernel)⟩
theorem lw_p106 : lw_okq (⟨"OptimumHouseModel", "among", "(Ljava/lang/String;II)I"⟩, 105) := ⟨⟨by decide +kernel, by decide +kernel⟩, List.mem_of_getElem? (i := 1750) (by decide +kernel), List.mem_of_getElem? (i := 2106) (by decide +kernel), List.mem_of_getElem? (i := 2107) (by decide +kernel)⟩
theorem lw_p107 : lw_okq (⟨"OptimumHouseModel", "token", "(IIII)V"⟩, 105) := ⟨⟨by decide +kernel, by decide +kernel⟩, List.mem_of_getElem? (i := 1750) (by decide +kernel), List.mem_of_getElem? (i := 2112) (by decide +kernel), List.mem_of_getElem? (i := 2113) (by decide +kernel)⟩
theorem lw_p108 : lw_okq (⟨"OptimumHouseModel", "signAt", "(I)I"⟩, 105) := ⟨⟨by decide +kernel, by decide +kernel⟩, List.mem_of_getElem? (i := 1750) (by decide +kernel), List.mem_of_getElem? (i := 2116) (by decide +kernel), List.mem_of_getElem? (i := 2117) (by decide +kernel)⟩
theorem lw_p109 : lw_okq (⟨"OptimumHouseModel", "read", "()V"⟩, 105) := ⟨⟨by decide +kernel, by decide +kernel⟩, List.mem_of_getElem? (i := 1750) (by decide +kernel), List.mem_of_getElem? (i := 2120) (by decide +kernel), List.mem_of_getElem? (i := 2121) (by decide +kernel)⟩
theorem lw_p110 : lw_okq (⟨"OptimumHouseModel", "isWord", "(I)Z"⟩, 105) := ⟨⟨by decide +kernel, by decide +kernel⟩, List.mem_of_getElem? (i := 1750) (by decide +kernel), List.mem_of_getElem? (i := 2124) (by decide +kernel), List.mem_of_getElem? (i := 2125) (by decide +kernel)⟩
theorem lw_p111 : lw_okq (⟨"OptimumHouseModel", "told", "()V"⟩, 105) := ⟨⟨by decide +kernel, by decide +kernel⟩, List.mem_of_getElem? (i := 1750) (by decide +kernel), List.mem_of_getElem? (i := 2128) (by decide +kernel), List.mem_of_getElem? (i := 2129) (by decide +kernel)⟩
def lw_privs_7 : List (MethodName × Nat) := [(⟨"OptimumHouse$Checker", "holdTrees", "(Z)Z"⟩, 18), (⟨"OptimumHouse$Checker", "branch", "()I"⟩, 18), (⟨"OptimumHouse$Checker", "pairTree", "(IZ)I"⟩, 18), (⟨"OptimumHouse$Checker", "takePairs", "()Z"⟩, 18), (⟨"OptimumHouse$Checker", "isFarkas", "()Z"⟩, 18), (⟨"OptimumHouse$Checker", "isBound", "()Z"⟩, 18), (⟨"OptimumHouse$Checker", "beginSecondTree", "()V"⟩, 18), (⟨"OptimumHouseModel", "lay", "(I)V"⟩, 105), (⟨"OptimumHouseModel", "tokenize", "()V"⟩, 105), (⟨"OptimumHouseModel", "at", "(I)I"⟩, 105), (⟨"OptimumHouseModel", "among", "(Ljava/lang/String;II)I"⟩, 105), (⟨"OptimumHouseModel", "token", "(IIII)V"⟩, 105), (⟨"OptimumHouseModel", "signAt", "(I)I"⟩, 105), (⟨"OptimumHouseModel", "read", "()V"⟩, 105), (⟨"OptimumHouseModel", "isWord", "(I)Z"⟩, 105), (⟨"OptimumHouseModel", "told", "()V"⟩, 105)]
theorem lw_r7 : ∀ q ∈ lw_privs_7, lw_okq q := List.forall_mem_cons.mpr ⟨lw_p96, List.forall_mem_cons.mpr ⟨lw_p97, List.forall_mem_cons.mpr ⟨lw_p98, List.forall_mem_cons.mpr ⟨lw_p99, List.forall_mem_cons.mpr ⟨lw_p100, List.forall_mem_cons.mpr ⟨lw_p101, List.forall_mem_cons.mpr ⟨lw_p102, List.forall_mem_cons.mpr ⟨lw_p103, List.forall_mem_cons.mpr ⟨lw_p104, List.forall_mem_cons.mpr ⟨lw_p105, List.forall_mem_cons.mpr ⟨lw_p106, List.forall_mem_cons.mpr ⟨lw_p107, List.forall_mem_cons.mpr ⟨lw_p108, List.forall_mem_cons.mpr ⟨lw_p109, List.forall_mem_cons.mpr ⟨lw_p110, List.forall_mem_cons.mpr ⟨lw_p111, fun _ h => absurd h List.not_mem_nil⟩⟩⟩⟩⟩⟩⟩⟩⟩⟩⟩⟩⟩⟩⟩⟩
theorem lw_p112 : lw_okq (⟨"OptimumHouseModel", "wantKind", "(I)V"⟩, 105) := ⟨⟨by decide +kernel, by decide +kernel⟩, List.mem_of_getElem? (i := 1750) (by decide +kernel), List.mem_of_getElem? (i := 2132) (by decide +kernel), List.mem_of_getElem? (i := 2133) (by decide +kernel)⟩
theorem lw_p113 : lw_okq (⟨"OptimumHouseModel", "wrong", "(II)V"⟩, 105) := ⟨⟨by decide +kernel, by decide +kernel⟩, List.mem_of_getElem? (i := 1750) (by decide +kernel), List.mem_of_getElem? (i := 2136) (by decide +kernel), List.mem_of_getElem? (i := 2137) (by decide +kernel)⟩
theorem lw_p114 : lw_okq (⟨"OptimumHouseModel", "indexes", "()V"⟩, 105) := ⟨⟨by decide +kernel, by decide +kernel⟩, List.mem_of_getElem? (i := 1750) (by decide +kernel), List.mem_of_getElem? (i := 2140) (by decide +kernel), List.mem_of_getElem? (i := 2141) (by decide +kernel)⟩
theorem lw_p115 : lw_okq (⟨"OptimumHouseModel", "isSign", "(I)Z"⟩, 105) := ⟨⟨by decide +kernel, by decide +kernel⟩, List.mem_of_getElem? (i := 1750) (by decide +kernel), List.mem_of_getElem? (i := 2144) (by decide +kernel), List.mem_of_getElem? (i := 2145) (by decide +kernel)⟩
theorem lw_p116 : lw_okq (⟨"OptimumHouseModel", "want", "(I)V"⟩, 105) := ⟨⟨by decide +kernel, by decide +kernel⟩, List.mem_of_getElem? (i := 1750) (by decide +kernel), List.mem_of_getElem? (i := 2148) (by decide +kernel), List.mem_of_getElem? (i := 2149) (by decide +kernel)⟩
theorem lw_p117 : lw_okq (⟨"OptimumHouseModel", "valueRead", "()V"⟩, 105) := ⟨⟨by decide +kernel, by decide +kernel⟩, List.mem_of_getElem? (i := 1750) (by decide +kernel), List.mem_of_getElem? (i := 2152) (by decide +kernel), List.mem_of_getElem? (i := 2153) (by decide +kernel)⟩
theorem lw_p118 : lw_okq (⟨"OptimumHouseModel", "sumRead", "(I)V"⟩, 105) := ⟨⟨by decide +kernel, by decide +kernel⟩, List.mem_of_getElem? (i := 1750) (by decide +kernel), List.mem_of_getElem? (i := 2156) (by decide +kernel), List.mem_of_getElem? (i := 2157) (by decide +kernel)⟩
theorem lw_p119 : lw_okq (⟨"OptimumHouseModel", "productRead", "(I)V"⟩, 105) := ⟨⟨by decide +kernel, by decide +kernel⟩, List.mem_of_getElem? (i := 1750) (by decide +kernel), List.mem_of_getElem? (i := 2160) (by decide +kernel), List.mem_of_getElem? (i := 2161) (by decide +kernel)⟩
theorem lw_p120 : lw_okq (⟨"OptimumHouseModel", "factorRead", "(I)V"⟩, 105) := ⟨⟨by decide +kernel, by decide +kernel⟩, List.mem_of_getElem? (i := 1750) (by decide +kernel), List.mem_of_getElem? (i := 2164) (by decide +kernel), List.mem_of_getElem? (i := 2165) (by decide +kernel)⟩
theorem lw_p121 : lw_okq (⟨"OptimumHouseModel", "wantWord", "(I)V"⟩, 105) := ⟨⟨by decide +kernel, by decide +kernel⟩, List.mem_of_getElem? (i := 1750) (by decide +kernel), List.mem_of_getElem? (i := 2168) (by decide +kernel), List.mem_of_getElem? (i := 2169) (by decide +kernel)⟩
theorem lw_p122 : lw_okq (⟨"OptimumHouseModel", "indexRead", "()V"⟩, 105) := ⟨⟨by decide +kernel, by decide +kernel⟩, List.mem_of_getElem? (i := 1750) (by decide +kernel), List.mem_of_getElem? (i := 2172) (by decide +kernel), List.mem_of_getElem? (i := 2173) (by decide +kernel)⟩
theorem lw_p123 : lw_okq (⟨"OptimumHouseModel", "tellAll", "()V"⟩, 105) := ⟨⟨by decide +kernel, by decide +kernel⟩, List.mem_of_getElem? (i := 1750) (by decide +kernel), List.mem_of_getElem? (i := 2176) (by decide +kernel), List.mem_of_getElem? (i := 2177) (by decide +kernel)⟩
theorem lw_p124 : lw_okq (⟨"OptimumHouseModel", "tellSet", "(I)V"⟩, 105) := ⟨⟨by decide +kernel, by decide +kernel⟩, List.mem_of_getElem? (i := 1750) (by decide +kernel), List.mem_of_getElem? (i := 2180) (by decide +kernel), List.mem_of_getElem? (i := 2181) (by decide +kernel)⟩
theorem lw_p125 : lw_okq (⟨"OptimumHouseModel", "add", "(II)I"⟩, 105) := ⟨⟨by decide +kernel, by decide +kernel⟩, List.mem_of_getElem? (i := 1750) (by decide +kernel), List.mem_of_getElem? (i := 2184) (by decide +kernel), List.mem_of_getElem? (i := 2185) (by decide +kernel)⟩
theorem lw_p126 : lw_okq (⟨"OptimumHouseModel", "find", "(I)I"⟩, 105) := ⟨⟨by decide +kernel, by decide +kernel⟩, List.mem_of_getElem? (i := 1750) (by decide +kernel), List.mem_of_getElem? (i := 2188) (by decide +kernel), List.mem_of_getElem? (i := 2189) (by decide +kernel)⟩
theorem lw_p127 : lw_okq (⟨"OptimumHouseModel", "tellPar", "(I)V"⟩, 105) := ⟨⟨by decide +kernel, by decide +kernel⟩, List.mem_of_getElem? (i := 1750) (by decide +kernel), List.mem_of_getElem? (i := 2192) (by decide +kernel), List.mem_of_getElem? (i := 2193) (by decide +kernel)⟩
def lw_privs_8 : List (MethodName × Nat) := [(⟨"OptimumHouseModel", "wantKind", "(I)V"⟩, 105), (⟨"OptimumHouseModel", "wrong", "(II)V"⟩, 105), (⟨"OptimumHouseModel", "indexes", "()V"⟩, 105), (⟨"OptimumHouseModel", "isSign", "(I)Z"⟩, 105), (⟨"OptimumHouseModel", "want", "(I)V"⟩, 105), (⟨"OptimumHouseModel", "valueRead", "()V"⟩, 105), (⟨"OptimumHouseModel", "sumRead", "(I)V"⟩, 105), (⟨"OptimumHouseModel", "productRead", "(I)V"⟩, 105), (⟨"OptimumHouseModel", "factorRead", "(I)V"⟩, 105), (⟨"OptimumHouseModel", "wantWord", "(I)V"⟩, 105), (⟨"OptimumHouseModel", "indexRead", "()V"⟩, 105), (⟨"OptimumHouseModel", "tellAll", "()V"⟩, 105), (⟨"OptimumHouseModel", "tellSet", "(I)V"⟩, 105), (⟨"OptimumHouseModel", "add", "(II)I"⟩, 105), (⟨"OptimumHouseModel", "find", "(I)I"⟩, 105), (⟨"OptimumHouseModel", "tellPar", "(I)V"⟩, 105)]
theorem lw_r8 : ∀ q ∈ lw_privs_8, lw_okq q := List.forall_mem_cons.mpr ⟨lw_p112, List.forall_mem_cons.mpr ⟨lw_p113, List.forall_mem_cons.mpr ⟨lw_p114, List.forall_mem_cons.mpr ⟨lw_p115, List.forall_mem_cons.mpr ⟨lw_p116, List.forall_mem_cons.mpr ⟨lw_p117, List.forall_mem_cons.mpr ⟨lw_p118, List.forall_mem_cons.mpr ⟨lw_p119, List.forall_mem_cons.mpr ⟨lw_p120, List.forall_mem_cons.mpr ⟨lw_p121, List.forall_mem_cons.mpr ⟨lw_p122, List.forall_mem_cons.mpr ⟨lw_p123, List.forall_mem_cons.mpr ⟨lw_p124, List.forall_mem_cons.mpr ⟨lw_p125, List.forall_mem_cons.mpr ⟨lw_p126, List.forall_mem_cons.mpr ⟨lw_p127, fun _ h => absurd h List.not_mem_nil⟩⟩⟩⟩⟩⟩⟩⟩⟩⟩⟩⟩⟩⟩⟩⟩
theorem lw_p128 : lw_okq (⟨"OptimumHouseModel", "indexesOf", "(I)V"⟩, 105) := ⟨⟨by decide +kernel, by decide +kernel⟩, List.mem_of_getElem? (i := 1750) (by decide +kernel), List.mem_of_getElem? (i := 2196) (by decide +kernel), List.mem_of_getElem? (i := 2197) (by decide +kernel)⟩
theorem lw_p129 : lw_okq (⟨"OptimumHouseModel", "setHere", "()I"⟩, 105) := ⟨⟨by decide +kernel, by decide +kernel⟩, List.mem_of_getElem? (i := 1750) (by decide +kernel), List.mem_of_getElem? (i := 2200) (by decide +kernel), List.mem_of_getElem? (i := 2201) (by decide +kernel)⟩
theorem lw_p130 : lw_okq (⟨"OptimumHouseModel", "sizeOf", "(I)I"⟩, 105) := ⟨⟨by decide +kernel, by decide +kernel⟩, List.mem_of_getElem? (i := 1750) (by decide +kernel), List.mem_of_getElem? (i := 2204) (by decide +kernel), List.mem_of_getElem? (i := 2205) (by decide +kernel)⟩
theorem lw_p131 : lw_okq (⟨"OptimumHouseModel", "tellVar", "(I)V"⟩, 105) := ⟨⟨by decide +kernel, by decide +kernel⟩, List.mem_of_getElem? (i := 1750) (by decide +kernel), List.mem_of_getElem? (i := 2208) (by decide +kernel), List.mem_of_getElem? (i := 2209) (by decide +kernel)⟩
theorem lw_p132 : lw_okq (⟨"OptimumHouseModel", "expression", "(I)V"⟩, 105) := ⟨⟨by decide +kernel, by decide +kernel⟩, List.mem_of_getElem? (i := 1750) (by decide +kernel), List.mem_of_getElem? (i := 2212) (by decide +kernel), List.mem_of_getElem? (i := 2213) (by decide +kernel)⟩
theorem lw_p133 : lw_okq (⟨"OptimumHouseModel", "product", "(I)V"⟩, 105) := ⟨⟨by decide +kernel, by decide +kernel⟩, List.mem_of_getElem? (i := 1750) (by decide +kernel), List.mem_of_getElem? (i := 2216) (by decide +kernel), List.mem_of_getElem? (i := 2217) (by decide +kernel)⟩
theorem lw_p134 : lw_okq (⟨"OptimumHouseModel", "factor", "(I)V"⟩, 105) := ⟨⟨by decide +kernel, by decide +kernel⟩, List.mem_of_getElem? (i := 1750) (by decide +kernel), List.mem_of_getElem? (i := 2220) (by decide +kernel), List.mem_of_getElem? (i := 2221) (by decide +kernel)⟩
theorem lw_p135 : lw_okq (⟨"OptimumHouseModel", "constant", "(IJ)V"⟩, 105) := ⟨⟨by decide +kernel, by decide +kernel⟩, List.mem_of_getElem? (i := 1750) (by decide +kernel), List.mem_of_getElem? (i := 2224) (by decide +kernel), List.mem_of_getElem? (i := 2225) (by decide +kernel)⟩
theorem lw_p136 : lw_okq (⟨"OptimumHouseModel", "sum", "(I)V"⟩, 105) := ⟨⟨by decide +kernel, by decide +kernel⟩, List.mem_of_getElem? (i := 1750) (by decide +kernel), List.mem_of_getElem? (i := 2228) (by decide +kernel), List.mem_of_getElem? (i := 2229) (by decide +kernel)⟩
theorem lw_p137 : lw_okq (⟨"OptimumHouseModel", "isGreat", "(I)Z"⟩, 105) := ⟨⟨by decide +kernel, by decide +kernel⟩, List.mem_of_getElem? (i := 1750) (by decide +kernel), List.mem_of_getElem? (i := 2232) (by decide +kernel), List.mem_of_getElem? (i := 2233) (by decide +kernel)⟩
theorem lw_p138 : lw_okq (⟨"OptimumHouseModel", "named", "(I)V"⟩, 105) := ⟨⟨by decide +kernel, by decide +kernel⟩, List.mem_of_getElem? (i := 1750) (by decide +kernel), List.mem_of_getElem? (i := 2238) (by decide +kernel), List.mem_of_getElem? (i := 2239) (by decide +kernel)⟩
theorem lw_p139 : lw_okq (⟨"OptimumHouseModel", "index", "()V"⟩, 105) := ⟨⟨by decide +kernel, by decide +kernel⟩, List.mem_of_getElem? (i := 1750) (by decide +kernel), List.mem_of_getElem? (i := 2242) (by decide +kernel), List.mem_of_getElem? (i := 2243) (by decide +kernel)⟩
theorem lw_p140 : lw_okq (⟨"OptimumHouseModel", "hasVariables", "(I)Z"⟩, 105) := ⟨⟨by decide +kernel, by decide +kernel⟩, List.mem_of_getElem? (i := 1750) (by decide +kernel), List.mem_of_getElem? (i := 2246) (by decide +kernel), List.mem_of_getElem? (i := 2247) (by decide +kernel)⟩
theorem lw_p141 : lw_okq (⟨"OptimumHouseModel", "tellRow", "()V"⟩, 105) := ⟨⟨by decide +kernel, by decide +kernel⟩, List.mem_of_getElem? (i := 1750) (by decide +kernel), List.mem_of_getElem? (i := 2250) (by decide +kernel), List.mem_of_getElem? (i := 2251) (by decide +kernel)⟩
theorem lw_p142 : lw_okq (⟨"OptimumHouseModel", "oneRow", "(I)V"⟩, 105) := ⟨⟨by decide +kernel, by decide +kernel⟩, List.mem_of_getElem? (i := 1750) (by decide +kernel), List.mem_of_getElem? (i := 2254) (by decide +kernel), List.mem_of_getElem? (i := 2255) (by decide +kernel)⟩
theorem lw_p143 : lw_okq (⟨"OptimumHouseModel", "asLong", "([II)J"⟩, 105) := ⟨⟨by decide +kernel, by decide +kernel⟩, List.mem_of_getElem? (i := 1750) (by decide +kernel), List.mem_of_getElem? (i := 2278) (by decide +kernel), List.mem_of_getElem? (i := 2279) (by decide +kernel)⟩
def lw_privs_9 : List (MethodName × Nat) := [(⟨"OptimumHouseModel", "indexesOf", "(I)V"⟩, 105), (⟨"OptimumHouseModel", "setHere", "()I"⟩, 105), (⟨"OptimumHouseModel", "sizeOf", "(I)I"⟩, 105), (⟨"OptimumHouseModel", "tellVar", "(I)V"⟩, 105), (⟨"OptimumHouseModel", "expression", "(I)V"⟩, 105), (⟨"OptimumHouseModel", "product", "(I)V"⟩, 105), (⟨"OptimumHouseModel", "factor", "(I)V"⟩, 105), (⟨"OptimumHouseModel", "constant", "(IJ)V"⟩, 105), (⟨"OptimumHouseModel", "sum", "(I)V"⟩, 105), (⟨"OptimumHouseModel", "isGreat", "(I)Z"⟩, 105), (⟨"OptimumHouseModel", "named", "(I)V"⟩, 105), (⟨"OptimumHouseModel", "index", "()V"⟩, 105), (⟨"OptimumHouseModel", "hasVariables", "(I)Z"⟩, 105), (⟨"OptimumHouseModel", "tellRow", "()V"⟩, 105), (⟨"OptimumHouseModel", "oneRow", "(I)V"⟩, 105), (⟨"OptimumHouseModel", "asLong", "([II)J"⟩, 105)]
theorem lw_r9 : ∀ q ∈ lw_privs_9, lw_okq q := List.forall_mem_cons.mpr ⟨lw_p128, List.forall_mem_cons.mpr ⟨lw_p129, List.forall_mem_cons.mpr ⟨lw_p130, List.forall_mem_cons.mpr ⟨lw_p131, List.forall_mem_cons.mpr ⟨lw_p132, List.forall_mem_cons.mpr ⟨lw_p133, List.forall_mem_cons.mpr ⟨lw_p134, List.forall_mem_cons.mpr ⟨lw_p135, List.forall_mem_cons.mpr ⟨lw_p136, List.forall_mem_cons.mpr ⟨lw_p137, List.forall_mem_cons.mpr ⟨lw_p138, List.forall_mem_cons.mpr ⟨lw_p139, List.forall_mem_cons.mpr ⟨lw_p140, List.forall_mem_cons.mpr ⟨lw_p141, List.forall_mem_cons.mpr ⟨lw_p142, List.forall_mem_cons.mpr ⟨lw_p143, fun _ h => absurd h List.not_mem_nil⟩⟩⟩⟩⟩⟩⟩⟩⟩⟩⟩⟩⟩⟩⟩⟩
theorem lw_p144 : lw_okq (⟨"OptimumHouseModel", "cell", "(II)I"⟩, 105) := ⟨⟨by decide +kernel, by decide +kernel⟩, List.mem_of_getElem? (i := 1750) (by decide +kernel), List.mem_of_getElem? (i := 2290) (by decide +kernel), List.mem_of_getElem? (i := 2291) (by decide +kernel)⟩
theorem lw_p145 : lw_okq (⟨"OptimumHouseModel", "goOn", "()V"⟩, 105) := ⟨⟨by decide +kernel, by decide +kernel⟩, List.mem_of_getElem? (i := 1750) (by decide +kernel), List.mem_of_getElem? (i := 2299) (by decide +kernel), List.mem_of_getElem? (i := 2300) (by decide +kernel)⟩
theorem lw_p146 : lw_okq (⟨"OptimumHouseModel", "stepUp", "(I)I"⟩, 105) := ⟨⟨by decide +kernel, by decide +kernel⟩, List.mem_of_getElem? (i := 1750) (by decide +kernel), List.mem_of_getElem? (i := 2312) (by decide +kernel), List.mem_of_getElem? (i := 2313) (by decide +kernel)⟩
theorem lw_p147 : lw_okq (⟨"OptimumHouseModel", "ratio", "(IIII)I"⟩, 105) := ⟨⟨by decide +kernel, by decide +kernel⟩, List.mem_of_getElem? (i := 1750) (by decide +kernel), List.mem_of_getElem? (i := 2316) (by decide +kernel), List.mem_of_getElem? (i := 2317) (by decide +kernel)⟩
theorem lw_p148 : lw_okq (⟨"OptimumHouseModel", "leafFarkas", "(II)V"⟩, 105) := ⟨⟨by decide +kernel, by decide +kernel⟩, List.mem_of_getElem? (i := 1750) (by decide +kernel), List.mem_of_getElem? (i := 2323) (by decide +kernel), List.mem_of_getElem? (i := 2324) (by decide +kernel)⟩
theorem lw_p149 : lw_okq (⟨"OptimumHouseModel", "multipliersOf", "(I)V"⟩, 105) := ⟨⟨by decide +kernel, by decide +kernel⟩, List.mem_of_getElem? (i := 1750) (by decide +kernel), List.mem_of_getElem? (i := 2327) (by decide +kernel), List.mem_of_getElem? (i := 2328) (by decide +kernel)⟩
theorem lw_p150 : lw_okq (⟨"OptimumHouseModel", "clearMultipliers", "()V"⟩, 105) := ⟨⟨by decide +kernel, by decide +kernel⟩, List.mem_of_getElem? (i := 1750) (by decide +kernel), List.mem_of_getElem? (i := 2331) (by decide +kernel), List.mem_of_getElem? (i := 2332) (by decide +kernel)⟩
theorem lw_p151 : lw_okq (⟨"OptimumHouseModel", "writePairs", "(Ljava/lang/String;)V"⟩, 105) := ⟨⟨by decide +kernel, by decide +kernel⟩, List.mem_of_getElem? (i := 1750) (by decide +kernel), List.mem_of_getElem? (i := 2339) (by decide +kernel), List.mem_of_getElem? (i := 2340) (by decide +kernel)⟩
theorem lw_p152 : lw_okq (⟨"OptimumHouseModel", "write", "(Ljava/lang/String;)V"⟩, 105) := ⟨⟨by decide +kernel, by decide +kernel⟩, List.mem_of_getElem? (i := 1750) (by decide +kernel), List.mem_of_getElem? (i := 2343) (by decide +kernel), List.mem_of_getElem? (i := 2344) (by decide +kernel)⟩
theorem lw_p153 : lw_okq (⟨"OptimumHouseModel", "writeNumber", "([II)V"⟩, 105) := ⟨⟨by decide +kernel, by decide +kernel⟩, List.mem_of_getElem? (i := 1750) (by decide +kernel), List.mem_of_getElem? (i := 2347) (by decide +kernel), List.mem_of_getElem? (i := 2348) (by decide +kernel)⟩
theorem lw_p154 : lw_okq (⟨"OptimumHouseModel", "spell", "([II)V"⟩, 105) := ⟨⟨by decide +kernel, by decide +kernel⟩, List.mem_of_getElem? (i := 1750) (by decide +kernel), List.mem_of_getElem? (i := 2351) (by decide +kernel), List.mem_of_getElem? (i := 2352) (by decide +kernel)⟩
theorem lw_p155 : lw_okq (⟨"OptimumHouseModel", "letter", "(I)V"⟩, 105) := ⟨⟨by decide +kernel, by decide +kernel⟩, List.mem_of_getElem? (i := 1750) (by decide +kernel), List.mem_of_getElem? (i := 2355) (by decide +kernel), List.mem_of_getElem? (i := 2356) (by decide +kernel)⟩
theorem lw_p156 : lw_okq (⟨"OptimumHouseModel", "writeSmall", "(J)V"⟩, 105) := ⟨⟨by decide +kernel, by decide +kernel⟩, List.mem_of_getElem? (i := 1750) (by decide +kernel), List.mem_of_getElem? (i := 2360) (by decide +kernel), List.mem_of_getElem? (i := 2361) (by decide +kernel)⟩
theorem lw_p157 : lw_okq (⟨"OptimumHouseModel", "leafDone", "()V"⟩, 105) := ⟨⟨by decide +kernel, by decide +kernel⟩, List.mem_of_getElem? (i := 1750) (by decide +kernel), List.mem_of_getElem? (i := 2366) (by decide +kernel), List.mem_of_getElem? (i := 2367) (by decide +kernel)⟩
theorem lw_p158 : lw_okq (⟨"OptimumHouseModel", "finish", "()V"⟩, 105) := ⟨⟨by decide +kernel, by decide +kernel⟩, List.mem_of_getElem? (i := 1750) (by decide +kernel), List.mem_of_getElem? (i := 2370) (by decide +kernel), List.mem_of_getElem? (i := 2371) (by decide +kernel)⟩
theorem lw_p159 : lw_okq (⟨"OptimumHouseModel", "say", "(Ljava/lang/String;)V"⟩, 105) := ⟨⟨by decide +kernel, by decide +kernel⟩, List.mem_of_getElem? (i := 1750) (by decide +kernel), List.mem_of_getElem? (i := 2375) (by decide +kernel), List.mem_of_getElem? (i := 2376) (by decide +kernel)⟩
def lw_privs_10 : List (MethodName × Nat) := [(⟨"OptimumHouseModel", "cell", "(II)I"⟩, 105), (⟨"OptimumHouseModel", "goOn", "()V"⟩, 105), (⟨"OptimumHouseModel", "stepUp", "(I)I"⟩, 105), (⟨"OptimumHouseModel", "ratio", "(IIII)I"⟩, 105), (⟨"OptimumHouseModel", "leafFarkas", "(II)V"⟩, 105), (⟨"OptimumHouseModel", "multipliersOf", "(I)V"⟩, 105), (⟨"OptimumHouseModel", "clearMultipliers", "()V"⟩, 105), (⟨"OptimumHouseModel", "writePairs", "(Ljava/lang/String;)V"⟩, 105), (⟨"OptimumHouseModel", "write", "(Ljava/lang/String;)V"⟩, 105), (⟨"OptimumHouseModel", "writeNumber", "([II)V"⟩, 105), (⟨"OptimumHouseModel", "spell", "([II)V"⟩, 105), (⟨"OptimumHouseModel", "letter", "(I)V"⟩, 105), (⟨"OptimumHouseModel", "writeSmall", "(J)V"⟩, 105), (⟨"OptimumHouseModel", "leafDone", "()V"⟩, 105), (⟨"OptimumHouseModel", "finish", "()V"⟩, 105), (⟨"OptimumHouseModel", "say", "(Ljava/lang/String;)V"⟩, 105)]
theorem lw_r10 : ∀ q ∈ lw_privs_10, lw_okq q := List.forall_mem_cons.mpr ⟨lw_p144, List.forall_mem_cons.mpr ⟨lw_p145, List.forall_mem_cons.mpr ⟨lw_p146, List.forall_mem_cons.mpr ⟨lw_p147, List.forall_mem_cons.mpr ⟨lw_p148, List.forall_mem_cons.mpr ⟨lw_p149, List.forall_mem_cons.mpr ⟨lw_p150, List.forall_mem_cons.mpr ⟨lw_p151, List.forall_mem_cons.mpr ⟨lw_p152, List.forall_mem_cons.mpr ⟨lw_p153, List.forall_mem_cons.mpr ⟨lw_p154, List.forall_mem_cons.mpr ⟨lw_p155, List.forall_mem_cons.mpr ⟨lw_p156, List.forall_mem_cons.mpr ⟨lw_p157, List.forall_mem_cons.mpr ⟨lw_p158, List.forall_mem_cons.mpr ⟨lw_p159, fun _ h => absurd h List.not_mem_nil⟩⟩⟩⟩⟩⟩⟩⟩⟩⟩⟩⟩⟩⟩⟩⟩
theorem lw_p160 : lw_okq (⟨"OptimumHouseModel", "lower", "([II[II)V"⟩, 105) := ⟨⟨by decide +kernel, by decide +kernel⟩, List.mem_of_getElem? (i := 1750) (by decide +kernel), List.mem_of_getElem? (i := 2379) (by decide +kernel), List.mem_of_getElem? (i := 2380) (by decide +kernel)⟩
theorem lw_p161 : lw_okq (⟨"OptimumHouseModel", "common", "([II[II)V"⟩, 105) := ⟨⟨by decide +kernel, by decide +kernel⟩, List.mem_of_getElem? (i := 1750) (by decide +kernel), List.mem_of_getElem? (i := 2383) (by decide +kernel), List.mem_of_getElem? (i := 2384) (by decide +kernel)⟩
theorem lw_p162 : lw_okq (⟨"OptimumHouseModel", "divide", "([II[II[II[II)V"⟩, 105) := ⟨⟨by decide +kernel, by decide +kernel⟩, List.mem_of_getElem? (i := 1750) (by decide +kernel), List.mem_of_getElem? (i := 2387) (by decide +kernel), List.mem_of_getElem? (i := 2388) (by decide +kernel)⟩
theorem lw_p163 : lw_okq (⟨"OptimumHouseModel", "longDivide", "([II[IIII[II)V"⟩, 105) := ⟨⟨by decide +kernel, by decide +kernel⟩, List.mem_of_getElem? (i := 1750) (by decide +kernel), List.mem_of_getElem? (i := 2394) (by decide +kernel), List.mem_of_getElem? (i := 2395) (by decide +kernel)⟩
theorem lw_p164 : lw_okq (⟨"OptimumHouseModel", "sayLetters", "()V"⟩, 105) := ⟨⟨by decide +kernel, by decide +kernel⟩, List.mem_of_getElem? (i := 1750) (by decide +kernel), List.mem_of_getElem? (i := 2409) (by decide +kernel), List.mem_of_getElem? (i := 2410) (by decide +kernel)⟩
theorem lw_p165 : lw_okq (⟨"OptimumHouseModel", "sayPoint", "([II[II)V"⟩, 105) := ⟨⟨by decide +kernel, by decide +kernel⟩, List.mem_of_getElem? (i := 1750) (by decide +kernel), List.mem_of_getElem? (i := 2415) (by decide +kernel), List.mem_of_getElem? (i := 2416) (by decide +kernel)⟩
theorem lw_p166 : lw_okq (⟨"OptimumHouseModel", "mayBegin", "()Z"⟩, 105) := ⟨⟨by decide +kernel, by decide +kernel⟩, List.mem_of_getElem? (i := 1750) (by decide +kernel), List.mem_of_getElem? (i := 2420) (by decide +kernel), List.mem_of_getElem? (i := 2421) (by decide +kernel)⟩
theorem lw_p167 : lw_okq (⟨"OptimumHouseModel", "childRow", "(IZ)V"⟩, 105) := ⟨⟨by decide +kernel, by decide +kernel⟩, List.mem_of_getElem? (i := 1750) (by decide +kernel), List.mem_of_getElem? (i := 2424) (by decide +kernel), List.mem_of_getElem? (i := 2425) (by decide +kernel)⟩
theorem lw_p168 : lw_okq (⟨"OptimumHouseModel", "outOfBasis", "()Z"⟩, 105) := ⟨⟨by decide +kernel, by decide +kernel⟩, List.mem_of_getElem? (i := 1750) (by decide +kernel), List.mem_of_getElem? (i := 2428) (by decide +kernel), List.mem_of_getElem? (i := 2429) (by decide +kernel)⟩
theorem lw_p169 : lw_okq (⟨"OptimumHouseModel", "dropPlace", "()V"⟩, 105) := ⟨⟨by decide +kernel, by decide +kernel⟩, List.mem_of_getElem? (i := 1750) (by decide +kernel), List.mem_of_getElem? (i := 2432) (by decide +kernel), List.mem_of_getElem? (i := 2433) (by decide +kernel)⟩
theorem lw_p170 : lw_okq (⟨"OptimumHouseModel", "evaluate", "()V"⟩, 105) := ⟨⟨by decide +kernel, by decide +kernel⟩, List.mem_of_getElem? (i := 1750) (by decide +kernel), List.mem_of_getElem? (i := 2436) (by decide +kernel), List.mem_of_getElem? (i := 2437) (by decide +kernel)⟩
theorem lw_p171 : lw_okq (⟨"OptimumHouseModel", "isNoBetter", "()Z"⟩, 105) := ⟨⟨by decide +kernel, by decide +kernel⟩, List.mem_of_getElem? (i := 1750) (by decide +kernel), List.mem_of_getElem? (i := 2440) (by decide +kernel), List.mem_of_getElem? (i := 2441) (by decide +kernel)⟩
theorem lw_p172 : lw_okq (⟨"OptimumHouseModel", "isWholeGoal", "()Z"⟩, 105) := ⟨⟨by decide +kernel, by decide +kernel⟩, List.mem_of_getElem? (i := 1750) (by decide +kernel), List.mem_of_getElem? (i := 2444) (by decide +kernel), List.mem_of_getElem? (i := 2445) (by decide +kernel)⟩
theorem lw_p173 : lw_okq (⟨"OptimumHouseModel", "leafBound", "()V"⟩, 105) := ⟨⟨by decide +kernel, by decide +kernel⟩, List.mem_of_getElem? (i := 1750) (by decide +kernel), List.mem_of_getElem? (i := 2448) (by decide +kernel), List.mem_of_getElem? (i := 2449) (by decide +kernel)⟩
theorem lw_p174 : lw_okq (⟨"OptimumHouseModel", "takeBest", "()V"⟩, 105) := ⟨⟨by decide +kernel, by decide +kernel⟩, List.mem_of_getElem? (i := 1750) (by decide +kernel), List.mem_of_getElem? (i := 2453) (by decide +kernel), List.mem_of_getElem? (i := 2454) (by decide +kernel)⟩
theorem lw_p175 : lw_okq (⟨"OptimumHouseModel", "cut", "(I)V"⟩, 105) := ⟨⟨by decide +kernel, by decide +kernel⟩, List.mem_of_getElem? (i := 1750) (by decide +kernel), List.mem_of_getElem? (i := 2457) (by decide +kernel), List.mem_of_getElem? (i := 2458) (by decide +kernel)⟩
def lw_privs_11 : List (MethodName × Nat) := [(⟨"OptimumHouseModel", "lower", "([II[II)V"⟩, 105), (⟨"OptimumHouseModel", "common", "([II[II)V"⟩, 105), (⟨"OptimumHouseModel", "divide", "([II[II[II[II)V"⟩, 105), (⟨"OptimumHouseModel", "longDivide", "([II[IIII[II)V"⟩, 105), (⟨"OptimumHouseModel", "sayLetters", "()V"⟩, 105), (⟨"OptimumHouseModel", "sayPoint", "([II[II)V"⟩, 105), (⟨"OptimumHouseModel", "mayBegin", "()Z"⟩, 105), (⟨"OptimumHouseModel", "childRow", "(IZ)V"⟩, 105), (⟨"OptimumHouseModel", "outOfBasis", "()Z"⟩, 105), (⟨"OptimumHouseModel", "dropPlace", "()V"⟩, 105), (⟨"OptimumHouseModel", "evaluate", "()V"⟩, 105), (⟨"OptimumHouseModel", "isNoBetter", "()Z"⟩, 105), (⟨"OptimumHouseModel", "isWholeGoal", "()Z"⟩, 105), (⟨"OptimumHouseModel", "leafBound", "()V"⟩, 105), (⟨"OptimumHouseModel", "takeBest", "()V"⟩, 105), (⟨"OptimumHouseModel", "cut", "(I)V"⟩, 105)]
theorem lw_r11 : ∀ q ∈ lw_privs_11, lw_okq q := List.forall_mem_cons.mpr ⟨lw_p160, List.forall_mem_cons.mpr ⟨lw_p161, List.forall_mem_cons.mpr ⟨lw_p162, List.forall_mem_cons.mpr ⟨lw_p163, List.forall_mem_cons.mpr ⟨lw_p164, List.forall_mem_cons.mpr ⟨lw_p165, List.forall_mem_cons.mpr ⟨lw_p166, List.forall_mem_cons.mpr ⟨lw_p167, List.forall_mem_cons.mpr ⟨lw_p168, List.forall_mem_cons.mpr ⟨lw_p169, List.forall_mem_cons.mpr ⟨lw_p170, List.forall_mem_cons.mpr ⟨lw_p171, List.forall_mem_cons.mpr ⟨lw_p172, List.forall_mem_cons.mpr ⟨lw_p173, List.forall_mem_cons.mpr ⟨lw_p174, List.forall_mem_cons.mpr ⟨lw_p175, fun _ h => absurd h List.not_mem_nil⟩⟩⟩⟩⟩⟩⟩⟩⟩⟩⟩⟩⟩⟩⟩⟩
theorem lw_p176 : lw_okq (⟨"OptimumHouseModel", "branch", "(I)V"⟩, 105) := ⟨⟨by decide +kernel, by decide +kernel⟩, List.mem_of_getElem? (i := 1750) (by decide +kernel), List.mem_of_getElem? (i := 2462) (by decide +kernel), List.mem_of_getElem? (i := 2463) (by decide +kernel)⟩
theorem lw_p177 : lw_okq (⟨"OptimumHouseModel", "ray", "()V"⟩, 105) := ⟨⟨by decide +kernel, by decide +kernel⟩, List.mem_of_getElem? (i := 1750) (by decide +kernel), List.mem_of_getElem? (i := 2467) (by decide +kernel), List.mem_of_getElem? (i := 2468) (by decide +kernel)⟩
theorem lw_p178 : lw_okq (⟨"OptimumHouseModel", "stepDown", "()I"⟩, 105) := ⟨⟨by decide +kernel, by decide +kernel⟩, List.mem_of_getElem? (i := 1750) (by decide +kernel), List.mem_of_getElem? (i := 2474) (by decide +kernel), List.mem_of_getElem? (i := 2475) (by decide +kernel)⟩
theorem lw_p179 : lw_okq (⟨"OptimumHouseModel", "pivot", "(II)Z"⟩, 105) := ⟨⟨by decide +kernel, by decide +kernel⟩, List.mem_of_getElem? (i := 1750) (by decide +kernel), List.mem_of_getElem? (i := 2478) (by decide +kernel), List.mem_of_getElem? (i := 2479) (by decide +kernel)⟩
theorem lw_p180 : lw_okq (⟨"OptimumHouseModel", "across", "(IIIIIIZ)Z"⟩, 105) := ⟨⟨by decide +kernel, by decide +kernel⟩, List.mem_of_getElem? (i := 1750) (by decide +kernel), List.mem_of_getElem? (i := 2482) (by decide +kernel), List.mem_of_getElem? (i := 2483) (by decide +kernel)⟩
theorem lw_p181 : lw_okq (⟨"OptimumHouseModel", "letterAt", "(I)I"⟩, 105) := ⟨⟨by decide +kernel, by decide +kernel⟩, List.mem_of_getElem? (i := 1750) (by decide +kernel), List.mem_of_getElem? (i := 2498) (by decide +kernel), List.mem_of_getElem? (i := 2499) (by decide +kernel)⟩
theorem lw_p182 : lw_okq (⟨"OptimumHouseModel", "tokenizeProof", "()V"⟩, 105) := ⟨⟨by decide +kernel, by decide +kernel⟩, List.mem_of_getElem? (i := 1750) (by decide +kernel), List.mem_of_getElem? (i := 2514) (by decide +kernel), List.mem_of_getElem? (i := 2515) (by decide +kernel)⟩
theorem lw_p183 : lw_okq (⟨"OptimumHouseModel", "proofRead", "()V"⟩, 105) := ⟨⟨by decide +kernel, by decide +kernel⟩, List.mem_of_getElem? (i := 1750) (by decide +kernel), List.mem_of_getElem? (i := 2519) (by decide +kernel), List.mem_of_getElem? (i := 2520) (by decide +kernel)⟩
theorem lw_p184 : lw_okq (⟨"OptimumHouseModel", "wantAbove", "()V"⟩, 105) := ⟨⟨by decide +kernel, by decide +kernel⟩, List.mem_of_getElem? (i := 1750) (by decide +kernel), List.mem_of_getElem? (i := 2523) (by decide +kernel), List.mem_of_getElem? (i := 2524) (by decide +kernel)⟩
theorem lw_p185 : lw_okq (⟨"OptimumHouseModel", "pointRead", "()V"⟩, 105) := ⟨⟨by decide +kernel, by decide +kernel⟩, List.mem_of_getElem? (i := 1750) (by decide +kernel), List.mem_of_getElem? (i := 2527) (by decide +kernel), List.mem_of_getElem? (i := 2528) (by decide +kernel)⟩
theorem lw_p186 : lw_okq (⟨"OptimumHouseModel", "treesRead", "()V"⟩, 105) := ⟨⟨by decide +kernel, by decide +kernel⟩, List.mem_of_getElem? (i := 1750) (by decide +kernel), List.mem_of_getElem? (i := 2531) (by decide +kernel), List.mem_of_getElem? (i := 2532) (by decide +kernel)⟩
theorem lw_p187 : lw_okq (⟨"OptimumHouseModel", "holds", "()V"⟩, 105) := ⟨⟨by decide +kernel, by decide +kernel⟩, List.mem_of_getElem? (i := 1750) (by decide +kernel), List.mem_of_getElem? (i := 2535) (by decide +kernel), List.mem_of_getElem? (i := 2536) (by decide +kernel)⟩
theorem lw_p188 : lw_okq (⟨"OptimumHouseModel", "numberAt", "(I[II)V"⟩, 105) := ⟨⟨by decide +kernel, by decide +kernel⟩, List.mem_of_getElem? (i := 1750) (by decide +kernel), List.mem_of_getElem? (i := 2539) (by decide +kernel), List.mem_of_getElem? (i := 2540) (by decide +kernel)⟩
theorem lw_p189 : lw_okq (⟨"OptimumHouseModel", "pointHere", "()V"⟩, 105) := ⟨⟨by decide +kernel, by decide +kernel⟩, List.mem_of_getElem? (i := 1750) (by decide +kernel), List.mem_of_getElem? (i := 2544) (by decide +kernel), List.mem_of_getElem? (i := 2545) (by decide +kernel)⟩
theorem lw_p190 : lw_okq (⟨"OptimumHouseModel", "isValue", "()Z"⟩, 105) := ⟨⟨by decide +kernel, by decide +kernel⟩, List.mem_of_getElem? (i := 1750) (by decide +kernel), List.mem_of_getElem? (i := 2548) (by decide +kernel), List.mem_of_getElem? (i := 2549) (by decide +kernel)⟩
theorem lw_p191 : lw_okq (⟨"OptimumHouseModel", "along", "(I)V"⟩, 105) := ⟨⟨by decide +kernel, by decide +kernel⟩, List.mem_of_getElem? (i := 1750) (by decide +kernel), List.mem_of_getElem? (i := 2552) (by decide +kernel), List.mem_of_getElem? (i := 2553) (by decide +kernel)⟩
def lw_privs_12 : List (MethodName × Nat) := [(⟨"OptimumHouseModel", "branch", "(I)V"⟩, 105), (⟨"OptimumHouseModel", "ray", "()V"⟩, 105), (⟨"OptimumHouseModel", "stepDown", "()I"⟩, 105), (⟨"OptimumHouseModel", "pivot", "(II)Z"⟩, 105), (⟨"OptimumHouseModel", "across", "(IIIIIIZ)Z"⟩, 105), (⟨"OptimumHouseModel", "letterAt", "(I)I"⟩, 105), (⟨"OptimumHouseModel", "tokenizeProof", "()V"⟩, 105), (⟨"OptimumHouseModel", "proofRead", "()V"⟩, 105), (⟨"OptimumHouseModel", "wantAbove", "()V"⟩, 105), (⟨"OptimumHouseModel", "pointRead", "()V"⟩, 105), (⟨"OptimumHouseModel", "treesRead", "()V"⟩, 105), (⟨"OptimumHouseModel", "holds", "()V"⟩, 105), (⟨"OptimumHouseModel", "numberAt", "(I[II)V"⟩, 105), (⟨"OptimumHouseModel", "pointHere", "()V"⟩, 105), (⟨"OptimumHouseModel", "isValue", "()Z"⟩, 105), (⟨"OptimumHouseModel", "along", "(I)V"⟩, 105)]
theorem lw_r12 : ∀ q ∈ lw_privs_12, lw_okq q := List.forall_mem_cons.mpr ⟨lw_p176, List.forall_mem_cons.mpr ⟨lw_p177, List.forall_mem_cons.mpr ⟨lw_p178, List.forall_mem_cons.mpr ⟨lw_p179, List.forall_mem_cons.mpr ⟨lw_p180, List.forall_mem_cons.mpr ⟨lw_p181, List.forall_mem_cons.mpr ⟨lw_p182, List.forall_mem_cons.mpr ⟨lw_p183, List.forall_mem_cons.mpr ⟨lw_p184, List.forall_mem_cons.mpr ⟨lw_p185, List.forall_mem_cons.mpr ⟨lw_p186, List.forall_mem_cons.mpr ⟨lw_p187, List.forall_mem_cons.mpr ⟨lw_p188, List.forall_mem_cons.mpr ⟨lw_p189, List.forall_mem_cons.mpr ⟨lw_p190, List.forall_mem_cons.mpr ⟨lw_p191, fun _ h => absurd h List.not_mem_nil⟩⟩⟩⟩⟩⟩⟩⟩⟩⟩⟩⟩⟩⟩⟩⟩
theorem lw_p192 : lw_okq (⟨"OptimumHouseModel", "isPoint", "(Z)Z"⟩, 105) := ⟨⟨by decide +kernel, by decide +kernel⟩, List.mem_of_getElem? (i := 1750) (by decide +kernel), List.mem_of_getElem? (i := 2556) (by decide +kernel), List.mem_of_getElem? (i := 2557) (by decide +kernel)⟩
theorem lw_p193 : lw_okq (⟨"OptimumHouseModel", "isAlong", "()Z"⟩, 105) := ⟨⟨by decide +kernel, by decide +kernel⟩, List.mem_of_getElem? (i := 1750) (by decide +kernel), List.mem_of_getElem? (i := 2560) (by decide +kernel), List.mem_of_getElem? (i := 2561) (by decide +kernel)⟩
theorem lw_p194 : lw_okq (⟨"OptimumHouseModel", "trees", "(Z)V"⟩, 105) := ⟨⟨by decide +kernel, by decide +kernel⟩, List.mem_of_getElem? (i := 1750) (by decide +kernel), List.mem_of_getElem? (i := 2564) (by decide +kernel), List.mem_of_getElem? (i := 2565) (by decide +kernel)⟩
theorem lw_p195 : lw_okq (⟨"OptimumHouseModel", "heldCell", "(II)I"⟩, 105) := ⟨⟨by decide +kernel, by decide +kernel⟩, List.mem_of_getElem? (i := 1750) (by decide +kernel), List.mem_of_getElem? (i := 2568) (by decide +kernel), List.mem_of_getElem? (i := 2569) (by decide +kernel)⟩
theorem lw_p196 : lw_okq (⟨"OptimumHouseModel", "variableAt", "(I)I"⟩, 105) := ⟨⟨by decide +kernel, by decide +kernel⟩, List.mem_of_getElem? (i := 1750) (by decide +kernel), List.mem_of_getElem? (i := 2572) (by decide +kernel), List.mem_of_getElem? (i := 2573) (by decide +kernel)⟩
theorem lw_p197 : lw_okq (⟨"OptimumHouseModel", "branchRow", "(IIZ)V"⟩, 105) := ⟨⟨by decide +kernel, by decide +kernel⟩, List.mem_of_getElem? (i := 1750) (by decide +kernel), List.mem_of_getElem? (i := 2576) (by decide +kernel), List.mem_of_getElem? (i := 2577) (by decide +kernel)⟩
theorem lw_p198 : lw_okq (⟨"OptimumHouseModel", "pairs", "()Z"⟩, 105) := ⟨⟨by decide +kernel, by decide +kernel⟩, List.mem_of_getElem? (i := 1750) (by decide +kernel), List.mem_of_getElem? (i := 2580) (by decide +kernel), List.mem_of_getElem? (i := 2581) (by decide +kernel)⟩
theorem lw_p199 : lw_okq (⟨"OptimumHouseModel", "cutRow", "()Z"⟩, 105) := ⟨⟨by decide +kernel, by decide +kernel⟩, List.mem_of_getElem? (i := 1750) (by decide +kernel), List.mem_of_getElem? (i := 2584) (by decide +kernel), List.mem_of_getElem? (i := 2585) (by decide +kernel)⟩
theorem lw_p200 : lw_okq (⟨"OptimumHouseModel", "isLong", "([II)Z"⟩, 105) := ⟨⟨by decide +kernel, by decide +kernel⟩, List.mem_of_getElem? (i := 1750) (by decide +kernel), List.mem_of_getElem? (i := 2588) (by decide +kernel), List.mem_of_getElem? (i := 2589) (by decide +kernel)⟩
theorem lw_p201 : lw_okq (⟨"OptimumHouseModel", "isBound", "()Z"⟩, 105) := ⟨⟨by decide +kernel, by decide +kernel⟩, List.mem_of_getElem? (i := 1750) (by decide +kernel), List.mem_of_getElem? (i := 2593) (by decide +kernel), List.mem_of_getElem? (i := 2594) (by decide +kernel)⟩
theorem lw_p202 : lw_okq (⟨"OptimumHouseModel", "isFarkas", "()Z"⟩, 105) := ⟨⟨by decide +kernel, by decide +kernel⟩, List.mem_of_getElem? (i := 1750) (by decide +kernel), List.mem_of_getElem? (i := 2597) (by decide +kernel), List.mem_of_getElem? (i := 2598) (by decide +kernel)⟩
def lw_privs_13 : List (MethodName × Nat) := [(⟨"OptimumHouseModel", "isPoint", "(Z)Z"⟩, 105), (⟨"OptimumHouseModel", "isAlong", "()Z"⟩, 105), (⟨"OptimumHouseModel", "trees", "(Z)V"⟩, 105), (⟨"OptimumHouseModel", "heldCell", "(II)I"⟩, 105), (⟨"OptimumHouseModel", "variableAt", "(I)I"⟩, 105), (⟨"OptimumHouseModel", "branchRow", "(IIZ)V"⟩, 105), (⟨"OptimumHouseModel", "pairs", "()Z"⟩, 105), (⟨"OptimumHouseModel", "cutRow", "()Z"⟩, 105), (⟨"OptimumHouseModel", "isLong", "([II)Z"⟩, 105), (⟨"OptimumHouseModel", "isBound", "()Z"⟩, 105), (⟨"OptimumHouseModel", "isFarkas", "()Z"⟩, 105)]
theorem lw_r13 : ∀ q ∈ lw_privs_13, lw_okq q := List.forall_mem_cons.mpr ⟨lw_p192, List.forall_mem_cons.mpr ⟨lw_p193, List.forall_mem_cons.mpr ⟨lw_p194, List.forall_mem_cons.mpr ⟨lw_p195, List.forall_mem_cons.mpr ⟨lw_p196, List.forall_mem_cons.mpr ⟨lw_p197, List.forall_mem_cons.mpr ⟨lw_p198, List.forall_mem_cons.mpr ⟨lw_p199, List.forall_mem_cons.mpr ⟨lw_p200, List.forall_mem_cons.mpr ⟨lw_p201, List.forall_mem_cons.mpr ⟨lw_p202, fun _ h => absurd h List.not_mem_nil⟩⟩⟩⟩⟩⟩⟩⟩⟩⟩⟩
def lw_privs : List (MethodName × Nat) := lw_privs_1 ++ (lw_privs_2 ++ (lw_privs_3 ++ (lw_privs_4 ++ (lw_privs_5 ++ (lw_privs_6 ++ (lw_privs_7 ++ (lw_privs_8 ++ (lw_privs_9 ++ (lw_privs_10 ++ (lw_privs_11 ++ (lw_privs_12 ++ (lw_privs_13))))))))))))
def lw_tbl : List Cond := k2_sels lw_privs ++ tables_1
theorem lw_privs_ok : ∀ q ∈ lw_privs, lw_okq q := by
  show ∀ q ∈ lw_privs_1 ++ (lw_privs_2 ++ (lw_privs_3 ++ (lw_privs_4 ++ (lw_privs_5 ++ (lw_privs_6 ++ (lw_privs_7 ++ (lw_privs_8 ++ (lw_privs_9 ++ (lw_privs_10 ++ (lw_privs_11 ++ (lw_privs_12 ++ (lw_privs_13)))))))))))), lw_okq q
  exact List.forall_mem_append.mpr ⟨lw_r1, List.forall_mem_append.mpr ⟨lw_r2, List.forall_mem_append.mpr ⟨lw_r3, List.forall_mem_append.mpr ⟨lw_r4, List.forall_mem_append.mpr ⟨lw_r5, List.forall_mem_append.mpr ⟨lw_r6, List.forall_mem_append.mpr ⟨lw_r7, List.forall_mem_append.mpr ⟨lw_r8, List.forall_mem_append.mpr ⟨lw_r9, List.forall_mem_append.mpr ⟨lw_r10, List.forall_mem_append.mpr ⟨lw_r11, List.forall_mem_append.mpr ⟨lw_r12, lw_r13⟩⟩⟩⟩⟩⟩⟩⟩⟩⟩⟩⟩
end
section
def RX0 : String := "OptimumHouse$Big"
def TX0 : u_T := fun k => match k with
  | 0 => ("OptimumHouse$Big", "limbs", "[I", true)
  | 1 => ("OptimumHouse$Big", "count", "I", false)
  | _ => ("OptimumHouse$Big", "sign", "I", false)
def tyX0 : Nat → FieldType := fun k => match k with
  | 0 => .array .int
  | 1 => .int
  | _ => .int
abbrev wsX00 : List Cond := u_ws RX0 TX0 3
theorem nmX0 : ∀ a, a < 3 → ∀ b, b < 3 → a ≠ b → (TX0 a).2.1 ≠ (TX0 b).2.1 := by decide +kernel
theorem tyX0_ok : ∀ k, k < 3 → parseFieldDescriptor (TX0 k).2.2.1 = some (tyX0 k) := by decide +kernel
abbrev cX0_init : ByteArray := prog_2_method_1_code
def yX0_init : MethodName := ⟨RX0, "<init>", "()V"⟩
abbrev cX0_store : ByteArray := prog_2_method_2_code
def yX0_store : MethodName := ⟨RX0, "store", "([IIJ)V"⟩
abbrev cX0_move : ByteArray := prog_2_method_3_code
def yX0_move : MethodName := ⟨RX0, "move", "([I[III)V"⟩
abbrev cX0_put : ByteArray := prog_2_method_4_code
def yX0_put : MethodName := ⟨RX0, "put", "(J)V"⟩
abbrev cX0_copy : ByteArray := prog_2_method_5_code
def yX0_copy : MethodName := ⟨RX0, "copy", "(LOptimumHouse$Big;)V"⟩
abbrev cX0_load : ByteArray := prog_2_method_6_code
def yX0_load : MethodName := ⟨RX0, "load", "([II)V"⟩
abbrev cX0_save : ByteArray := prog_2_method_7_code
def yX0_save : MethodName := ⟨RX0, "save", "([II)V"⟩
abbrev cX0_turn : ByteArray := prog_2_method_8_code
def yX0_turn : MethodName := ⟨RX0, "turn", "()V"⟩
abbrev cX0_read : ByteArray := prog_2_method_9_code
def yX0_read : MethodName := ⟨RX0, "read", "(LOptimumHouse$Text;II)V"⟩
abbrev cX0_digitCount : ByteArray := prog_2_method_10_code
def yX0_digitCount : MethodName := ⟨RX0, "digitCount", "()I"⟩
abbrev cX0_lowBits : ByteArray := prog_2_method_11_code
def yX0_lowBits : MethodName := ⟨RX0, "lowBits", "()J"⟩
abbrev cX0_trim : ByteArray := prog_2_method_12_code
def yX0_trim : MethodName := ⟨RX0, "trim", "()V"⟩
abbrev cX0_product : ByteArray := prog_2_method_13_code
def yX0_product : MethodName := ⟨RX0, "product", "(LOptimumHouse$Big;LOptimumHouse$Big;)V"⟩
abbrev cX0_add : ByteArray := prog_2_method_14_code
def yX0_add : MethodName := ⟨RX0, "add", "(LOptimumHouse$Big;I)V"⟩
abbrev cX0_addSize : ByteArray := prog_2_method_15_code
def yX0_addSize : MethodName := ⟨RX0, "addSize", "(LOptimumHouse$Big;)V"⟩
abbrev cX0_takeSize : ByteArray := prog_2_method_16_code
def yX0_takeSize : MethodName := ⟨RX0, "takeSize", "(LOptimumHouse$Big;LOptimumHouse$Big;)V"⟩
abbrev cX0_compareSize : ByteArray := prog_2_method_17_code
def yX0_compareSize : MethodName := ⟨RX0, "compareSize", "(LOptimumHouse$Big;)I"⟩
abbrev cX0_compareWith : ByteArray := prog_2_method_18_code
def yX0_compareWith : MethodName := ⟨RX0, "compareWith", "(LOptimumHouse$Big;)I"⟩
abbrev cX0_divide : ByteArray := prog_2_method_19_code
def yX0_divide : MethodName := ⟨RX0, "divide", "(LOptimumHouse$Big;LOptimumHouse$Big;LOptimumHouse$Big;)V"⟩
abbrev cX0_reduce : ByteArray := prog_2_method_20_code
def yX0_reduce : MethodName := ⟨RX0, "reduce", "(I)I"⟩
abbrev cX0_scale : ByteArray := prog_2_method_21_code
def yX0_scale : MethodName := ⟨RX0, "scale", "(I)V"⟩
abbrev cX0_divideLong : ByteArray := prog_2_method_22_code
def yX0_divideLong : MethodName := ⟨RX0, "divideLong", "(LOptimumHouse$Big;LOptimumHouse$Big;LOptimumHouse$Big;)V"⟩
abbrev cX0_digitAt : ByteArray := prog_2_method_23_code
def yX0_digitAt : MethodName := ⟨RX0, "digitAt", "(ILOptimumHouse$Big;I)I"⟩
def RX1 : String := "OptimumHouse$Checker"
def TX1 : u_T := fun k => match k with
  | 0 => ("OptimumHouse$Checker", "reader", "LOptimumHouse$ProofReader;", true)
  | 1 => ("OptimumHouse$Checker", "rows", "LOptimumHouse$Rows;", true)
  | 2 => ("OptimumHouse$Checker", "point", "[I", true)
  | 3 => ("OptimumHouse$Checker", "valueTop", "LOptimumHouse$Big;", true)
  | 4 => ("OptimumHouse$Checker", "valueBottom", "LOptimumHouse$Big;", true)
  | 5 => ("OptimumHouse$Checker", "q", "LOptimumHouse$Big;", true)
  | 6 => ("OptimumHouse$Checker", "sum", "LOptimumHouse$Big;", true)
  | 7 => ("OptimumHouse$Checker", "part", "LOptimumHouse$Big;", true)
  | 8 => ("OptimumHouse$Checker", "number", "LOptimumHouse$Big;", true)
  | 9 => ("OptimumHouse$Checker", "product", "LOptimumHouse$Big;", true)
  | 10 => ("OptimumHouse$Checker", "help", "LOptimumHouse$Big;", true)
  | 11 => ("OptimumHouse$Checker", "waitingRows", "[I", true)
  | 12 => ("OptimumHouse$Checker", "waitingVariable", "[I", true)
  | 13 => ("OptimumHouse$Checker", "waitingBound", "[I", true)
  | 14 => ("OptimumHouse$Checker", "waiting", "I", false)
  | 15 => ("OptimumHouse$Checker", "model", "LOptimumHouse$Model;", false)
  | 16 => ("OptimumHouse$Checker", "faultKind", "I", false)
  | _ => ("OptimumHouse$Checker", "faultAt", "I", false)
def tyX1 : Nat → FieldType := fun k => match k with
  | 0 => .object "OptimumHouse$ProofReader"
  | 1 => .object "OptimumHouse$Rows"
  | 2 => .array .int
  | 3 => .object "OptimumHouse$Big"
  | 4 => .object "OptimumHouse$Big"
  | 5 => .object "OptimumHouse$Big"
  | 6 => .object "OptimumHouse$Big"
  | 7 => .object "OptimumHouse$Big"
  | 8 => .object "OptimumHouse$Big"
  | 9 => .object "OptimumHouse$Big"
  | 10 => .object "OptimumHouse$Big"
  | 11 => .array .int
  | 12 => .array .int
  | 13 => .array .int
  | 14 => .int
  | 15 => .object "OptimumHouse$Model"
  | 16 => .int
  | _ => .int
abbrev wsX10 : List Cond := u_ws RX1 TX1 18
theorem nmX1 : ∀ a, a < 18 → ∀ b, b < 18 → a ≠ b → (TX1 a).2.1 ≠ (TX1 b).2.1 := by decide +kernel
theorem tyX1_ok : ∀ k, k < 18 → parseFieldDescriptor (TX1 k).2.2.1 = some (tyX1 k) := by decide +kernel
abbrev cX1_init : ByteArray := prog_3_method_1_code
def yX1_init : MethodName := ⟨RX1, "<init>", "()V"⟩
abbrev cX1_faultPlace : ByteArray := prog_3_method_2_code
def yX1_faultPlace : MethodName := ⟨RX1, "faultPlace", "()I"⟩
abbrev cX1_hold : ByteArray := prog_3_method_3_code
def yX1_hold : MethodName := ⟨RX1, "hold", "(LOptimumHouse$Text;LOptimumHouse$Model;)I"⟩
abbrev cX1_fail : ByteArray := prog_3_method_4_code
def yX1_fail : MethodName := ⟨RX1, "fail", "(II)Z"⟩
abbrev cX1_holdOptimal : ByteArray := prog_3_method_5_code
def yX1_holdOptimal : MethodName := ⟨RX1, "holdOptimal", "()Z"⟩
abbrev cX1_holdUnbounded : ByteArray := prog_3_method_6_code
def yX1_holdUnbounded : MethodName := ⟨RX1, "holdUnbounded", "()Z"⟩
abbrev cX1_takePoint : ByteArray := prog_3_method_7_code
def yX1_takePoint : MethodName := ⟨RX1, "takePoint", "()V"⟩
abbrev cX1_sumAt : ByteArray := prog_3_method_8_code
def yX1_sumAt : MethodName := ⟨RX1, "sumAt", "(I)V"⟩
abbrev cX1_scaleBound : ByteArray := prog_3_method_9_code
def yX1_scaleBound : MethodName := ⟨RX1, "scaleBound", "(I)V"⟩
abbrev cX1_isValue : ByteArray := prog_3_method_10_code
def yX1_isValue : MethodName := ⟨RX1, "isValue", "()Z"⟩
abbrev cX1_isPoint : ByteArray := prog_3_method_11_code
def yX1_isPoint : MethodName := ⟨RX1, "isPoint", "(Z)Z"⟩
abbrev cX1_isAlong : ByteArray := prog_3_method_12_code
def yX1_isAlong : MethodName := ⟨RX1, "isAlong", "()Z"⟩
abbrev cX1_holdTrees : ByteArray := prog_3_method_13_code
def yX1_holdTrees : MethodName := ⟨RX1, "holdTrees", "(Z)Z"⟩
abbrev cX1_branch : ByteArray := prog_3_method_14_code
def yX1_branch : MethodName := ⟨RX1, "branch", "()I"⟩
abbrev cX1_beginSecondTree : ByteArray := prog_3_method_15_code
def yX1_beginSecondTree : MethodName := ⟨RX1, "beginSecondTree", "()V"⟩
abbrev cX1_pairTree : ByteArray := prog_3_method_16_code
def yX1_pairTree : MethodName := ⟨RX1, "pairTree", "(IZ)I"⟩
abbrev cX1_takePairs : ByteArray := prog_3_method_17_code
def yX1_takePairs : MethodName := ⟨RX1, "takePairs", "()Z"⟩
abbrev cX1_isFarkas : ByteArray := prog_3_method_18_code
def yX1_isFarkas : MethodName := ⟨RX1, "isFarkas", "()Z"⟩
abbrev cX1_isBound : ByteArray := prog_3_method_19_code
def yX1_isBound : MethodName := ⟨RX1, "isBound", "()Z"⟩
def RX2 : String := "OptimumHouse$Dictionary"
def TX2 : u_T := fun k => match k with
  | 0 => ("OptimumHouse$Dictionary", "cells", "[I", false)
  | 1 => ("OptimumHouse$Dictionary", "other", "[I", false)
  | 2 => ("OptimumHouse$Dictionary", "basic", "[I", true)
  | 3 => ("OptimumHouse$Dictionary", "free", "[I", true)
  | 4 => ("OptimumHouse$Dictionary", "kept", "[I", true)
  | 5 => ("OptimumHouse$Dictionary", "lead", "LOptimumHouse$Big;", true)
  | 6 => ("OptimumHouse$Dictionary", "denominator", "LOptimumHouse$Big;", true)
  | 7 => ("OptimumHouse$Dictionary", "x", "LOptimumHouse$Big;", true)
  | 8 => ("OptimumHouse$Dictionary", "y", "LOptimumHouse$Big;", true)
  | 9 => ("OptimumHouse$Dictionary", "left", "LOptimumHouse$Big;", true)
  | 10 => ("OptimumHouse$Dictionary", "right", "LOptimumHouse$Big;", true)
  | 11 => ("OptimumHouse$Dictionary", "quotient", "LOptimumHouse$Big;", true)
  | 12 => ("OptimumHouse$Dictionary", "help", "LOptimumHouse$Big;", true)
  | 13 => ("OptimumHouse$Dictionary", "variables", "I", false)
  | 14 => ("OptimumHouse$Dictionary", "rows", "I", false)
  | 15 => ("OptimumHouse$Dictionary", "places", "I", false)
  | 16 => ("OptimumHouse$Dictionary", "hasHelper", "Z", false)
  | 17 => ("OptimumHouse$Dictionary", "row", "I", false)
  | 18 => ("OptimumHouse$Dictionary", "column", "I", false)
  | _ => ("OptimumHouse$Dictionary", "keptEnd", "I", false)
def tyX2 : Nat → FieldType := fun k => match k with
  | 0 => .array .int
  | 1 => .array .int
  | 2 => .array .int
  | 3 => .array .int
  | 4 => .array .int
  | 5 => .object "OptimumHouse$Big"
  | 6 => .object "OptimumHouse$Big"
  | 7 => .object "OptimumHouse$Big"
  | 8 => .object "OptimumHouse$Big"
  | 9 => .object "OptimumHouse$Big"
  | 10 => .object "OptimumHouse$Big"
  | 11 => .object "OptimumHouse$Big"
  | 12 => .object "OptimumHouse$Big"
  | 13 => .int
  | 14 => .int
  | 15 => .int
  | 16 => .boolean
  | 17 => .int
  | 18 => .int
  | _ => .int
abbrev wsX20 : List Cond := u_ws RX2 TX2 20
theorem nmX2 : ∀ a, a < 20 → ∀ b, b < 20 → a ≠ b → (TX2 a).2.1 ≠ (TX2 b).2.1 := by decide +kernel
theorem tyX2_ok : ∀ k, k < 20 → parseFieldDescriptor (TX2 k).2.2.1 = some (tyX2 k) := by decide +kernel
abbrev cX2_init : ByteArray := prog_4_method_1_code
def yX2_init : MethodName := ⟨RX2, "<init>", "()V"⟩
abbrev cX2_at : ByteArray := prog_4_method_2_code
def yX2_at : MethodName := ⟨RX2, "at", "(II)I"⟩
abbrev cX2_start : ByteArray := prog_4_method_3_code
def yX2_start : MethodName := ⟨RX2, "start", "(LOptimumHouse$Model;)V"⟩
abbrev cX2_needsHelper : ByteArray := prog_4_method_4_code
def yX2_needsHelper : MethodName := ⟨RX2, "needsHelper", "()Z"⟩
abbrev cX2_addHelper : ByteArray := prog_4_method_5_code
def yX2_addHelper : MethodName := ⟨RX2, "addHelper", "()V"⟩
abbrev cX2_hasHelper : ByteArray := prog_4_method_6_code
def yX2_hasHelper : MethodName := ⟨RX2, "hasHelper", "()Z"⟩
abbrev cX2_rowCount : ByteArray := prog_4_method_7_code
def yX2_rowCount : MethodName := ⟨RX2, "rowCount", "()I"⟩
abbrev cX2_sign : ByteArray := prog_4_method_8_code
def yX2_sign : MethodName := ⟨RX2, "sign", "(II)I"⟩
abbrev cX2_numberAt : ByteArray := prog_4_method_9_code
def yX2_numberAt : MethodName := ⟨RX2, "numberAt", "(I)I"⟩
abbrev cX2_number : ByteArray := prog_4_method_10_code
def yX2_number : MethodName := ⟨RX2, "number", "(IILOptimumHouse$Big;)V"⟩
abbrev cX2_denominator : ByteArray := prog_4_method_11_code
def yX2_denominator : MethodName := ⟨RX2, "denominator", "(LOptimumHouse$Big;)V"⟩
abbrev cX2_write : ByteArray := prog_4_method_12_code
def yX2_write : MethodName := ⟨RX2, "write", "(IILOptimumHouse$Text;)Z"⟩
abbrev cX2_rowOf : ByteArray := prog_4_method_13_code
def yX2_rowOf : MethodName := ⟨RX2, "rowOf", "(I)I"⟩
abbrev cX2_placeOf : ByteArray := prog_4_method_14_code
def yX2_placeOf : MethodName := ⟨RX2, "placeOf", "(I)I"⟩
abbrev cX2_multiplier : ByteArray := prog_4_method_15_code
def yX2_multiplier : MethodName := ⟨RX2, "multiplier", "(IILOptimumHouse$Big;)V"⟩
abbrev cX2_pointNumber : ByteArray := prog_4_method_16_code
def yX2_pointNumber : MethodName := ⟨RX2, "pointNumber", "(ILOptimumHouse$Big;)V"⟩
abbrev cX2_rayNumber : ByteArray := prog_4_method_17_code
def yX2_rayNumber : MethodName := ⟨RX2, "rayNumber", "(ILOptimumHouse$Big;)V"⟩
abbrev cX2_brokenRow : ByteArray := prog_4_method_18_code
def yX2_brokenRow : MethodName := ⟨RX2, "brokenRow", "(LOptimumHouse$Model;)I"⟩
abbrev cX2_floor : ByteArray := prog_4_method_19_code
def yX2_floor : MethodName := ⟨RX2, "floor", "(ILOptimumHouse$Big;)V"⟩
abbrev cX2_remainder : ByteArray := prog_4_method_20_code
def yX2_remainder : MethodName := ⟨RX2, "remainder", "(LOptimumHouse$Big;)V"⟩
abbrev cX2_stuckRow : ByteArray := prog_4_method_21_code
def yX2_stuckRow : MethodName := ⟨RX2, "stuckRow", "()I"⟩
abbrev cX2_chooseFirst : ByteArray := prog_4_method_22_code
def yX2_chooseFirst : MethodName := ⟨RX2, "chooseFirst", "()I"⟩
abbrev cX2_helperIsBasic : ByteArray := prog_4_method_23_code
def yX2_helperIsBasic : MethodName := ⟨RX2, "helperIsBasic", "()Z"⟩
abbrev cX2_chooseHelperOut : ByteArray := prog_4_method_24_code
def yX2_chooseHelperOut : MethodName := ⟨RX2, "chooseHelperOut", "()I"⟩
abbrev cX2_dropHelper : ByteArray := prog_4_method_25_code
def yX2_dropHelper : MethodName := ⟨RX2, "dropHelper", "()V"⟩
abbrev cX2_chooseUp : ByteArray := prog_4_method_26_code
def yX2_chooseUp : MethodName := ⟨RX2, "chooseUp", "(I)I"⟩
abbrev cX2_leavesAhead : ByteArray := prog_4_method_27_code
def yX2_leavesAhead : MethodName := ⟨RX2, "leavesAhead", "(I)Z"⟩
abbrev cX2_chooseDown : ByteArray := prog_4_method_28_code
def yX2_chooseDown : MethodName := ⟨RX2, "chooseDown", "()I"⟩
abbrev cX2_entersAhead : ByteArray := prog_4_method_29_code
def yX2_entersAhead : MethodName := ⟨RX2, "entersAhead", "(I)Z"⟩
abbrev cX2_isSmall : ByteArray := prog_4_method_30_code
def yX2_isSmall : MethodName := ⟨RX2, "isSmall", "(I)Z"⟩
abbrev cX2_small : ByteArray := prog_4_method_31_code
def yX2_small : MethodName := ⟨RX2, "small", "(I)J"⟩
abbrev cX2_compareProducts : ByteArray := prog_4_method_32_code
def yX2_compareProducts : MethodName := ⟨RX2, "compareProducts", "(IIII)I"⟩
abbrev cX2_pivot : ByteArray := prog_4_method_33_code
def yX2_pivot : MethodName := ⟨RX2, "pivot", "()Z"⟩
abbrev cX2_pivotRow : ByteArray := prog_4_method_34_code
def yX2_pivotRow : MethodName := ⟨RX2, "pivotRow", "(II)Z"⟩
abbrev cX2_pivotGreat : ByteArray := prog_4_method_35_code
def yX2_pivotGreat : MethodName := ⟨RX2, "pivotGreat", "(IIII)Z"⟩
abbrev cX2_addCut : ByteArray := prog_4_method_36_code
def yX2_addCut : MethodName := ⟨RX2, "addCut", "(I)V"⟩
abbrev cX2_addLimit : ByteArray := prog_4_method_37_code
def yX2_addLimit : MethodName := ⟨RX2, "addLimit", "(IZ)V"⟩
abbrev cX2_addRow : ByteArray := prog_4_method_38_code
def yX2_addRow : MethodName := ⟨RX2, "addRow", "()V"⟩
abbrev cX2_hasKept : ByteArray := prog_4_method_39_code
def yX2_hasKept : MethodName := ⟨RX2, "hasKept", "()Z"⟩
abbrev cX2_keep : ByteArray := prog_4_method_40_code
def yX2_keep : MethodName := ⟨RX2, "keep", "(I)V"⟩
abbrev cX2_restore : ByteArray := prog_4_method_41_code
def yX2_restore : MethodName := ⟨RX2, "restore", "()I"⟩
def RX3 : String := "OptimumHouse$Model"
def TX3 : u_T := fun k => match k with
  | 0 => ("OptimumHouse$Model", "numbers", "[I", true)
  | 1 => ("OptimumHouse$Model", "whole", "[Z", true)
  | 2 => ("OptimumHouse$Model", "variables", "I", false)
  | 3 => ("OptimumHouse$Model", "rows", "I", false)
  | _ => ("OptimumHouse$Model", "max", "Z", false)
def tyX3 : Nat → FieldType := fun k => match k with
  | 0 => .array .int
  | 1 => .array .boolean
  | 2 => .int
  | 3 => .int
  | _ => .boolean
abbrev wsX30 : List Cond := u_ws RX3 TX3 5
theorem nmX3 : ∀ a, a < 5 → ∀ b, b < 5 → a ≠ b → (TX3 a).2.1 ≠ (TX3 b).2.1 := by decide +kernel
theorem tyX3_ok : ∀ k, k < 5 → parseFieldDescriptor (TX3 k).2.2.1 = some (tyX3 k) := by decide +kernel
abbrev cX3_init : ByteArray := prog_5_method_1_code
def yX3_init : MethodName := ⟨RX3, "<init>", "()V"⟩
abbrev cX3_clear : ByteArray := prog_5_method_2_code
def yX3_clear : MethodName := ⟨RX3, "clear", "()V"⟩
abbrev cX3_number : ByteArray := prog_5_method_3_code
def yX3_number : MethodName := ⟨RX3, "number", "(II)I"⟩
abbrev cX3_setNumber : ByteArray := prog_5_method_4_code
def yX3_setNumber : MethodName := ⟨RX3, "setNumber", "(IIJ)V"⟩
abbrev cX3_addVariables : ByteArray := prog_5_method_5_code
def yX3_addVariables : MethodName := ⟨RX3, "addVariables", "(IZ)V"⟩
abbrev cX3_addRow : ByteArray := prog_5_method_6_code
def yX3_addRow : MethodName := ⟨RX3, "addRow", "([JI)V"⟩
abbrev cX3_setGoal : ByteArray := prog_5_method_7_code
def yX3_setGoal : MethodName := ⟨RX3, "setGoal", "([JZ)V"⟩
abbrev cX3_wholes : ByteArray := prog_5_method_8_code
def yX3_wholes : MethodName := ⟨RX3, "wholes", "()I"⟩
abbrev cX3_isWhole : ByteArray := prog_5_method_9_code
def yX3_isWhole : MethodName := ⟨RX3, "isWhole", "(I)Z"⟩
abbrev cX3_isAllWhole : ByteArray := prog_5_method_10_code
def yX3_isAllWhole : MethodName := ⟨RX3, "isAllWhole", "()Z"⟩
abbrev cX3_isGoalWhole : ByteArray := prog_5_method_11_code
def yX3_isGoalWhole : MethodName := ⟨RX3, "isGoalWhole", "()Z"⟩
def RX4 : String := "OptimumHouse$ProofReader"
def TX4 : u_T := fun k => match k with
  | 0 => ("OptimumHouse$ProofReader", "text", "LOptimumHouse$Text;", false)
  | 1 => ("OptimumHouse$ProofReader", "marks", "[I", true)
  | 2 => ("OptimumHouse$ProofReader", "tokens", "I", false)
  | _ => ("OptimumHouse$ProofReader", "at", "I", false)
def tyX4 : Nat → FieldType := fun k => match k with
  | 0 => .object "OptimumHouse$Text"
  | 1 => .array .int
  | 2 => .int
  | _ => .int
abbrev wsX40 : List Cond := u_ws RX4 TX4 4
theorem nmX4 : ∀ a, a < 4 → ∀ b, b < 4 → a ≠ b → (TX4 a).2.1 ≠ (TX4 b).2.1 := by decide +kernel
theorem tyX4_ok : ∀ k, k < 4 → parseFieldDescriptor (TX4 k).2.2.1 = some (tyX4 k) := by decide +kernel
abbrev cX4_init : ByteArray := prog_6_method_1_code
def yX4_init : MethodName := ⟨RX4, "<init>", "()V"⟩
abbrev cX4_open : ByteArray := prog_6_method_2_code
def yX4_open : MethodName := ⟨RX4, "open", "(LOptimumHouse$Text;)V"⟩
abbrev cX4_rewind : ByteArray := prog_6_method_3_code
def yX4_rewind : MethodName := ⟨RX4, "rewind", "()V"⟩
abbrev cX4_kind : ByteArray := prog_6_method_4_code
def yX4_kind : MethodName := ⟨RX4, "kind", "()I"⟩
abbrev cX4_start : ByteArray := prog_6_method_5_code
def yX4_start : MethodName := ⟨RX4, "start", "()I"⟩
abbrev cX4_advance : ByteArray := prog_6_method_6_code
def yX4_advance : MethodName := ⟨RX4, "advance", "()V"⟩
abbrev cX4_mark : ByteArray := prog_6_method_7_code
def yX4_mark : MethodName := ⟨RX4, "mark", "(II)V"⟩
abbrev cX4_scanOne : ByteArray := prog_6_method_8_code
def yX4_scanOne : MethodName := ⟨RX4, "scanOne", "(II)I"⟩
abbrev cX4_scanWord : ByteArray := prog_6_method_9_code
def yX4_scanWord : MethodName := ⟨RX4, "scanWord", "(II)I"⟩
abbrev cX4_word : ByteArray := prog_6_method_10_code
def yX4_word : MethodName := ⟨RX4, "word", "(I)Ljava/lang/String;"⟩
abbrev cX4_isWord : ByteArray := prog_6_method_11_code
def yX4_isWord : MethodName := ⟨RX4, "isWord", "(IILjava/lang/String;)Z"⟩
abbrev cX4_scanNumber : ByteArray := prog_6_method_12_code
def yX4_scanNumber : MethodName := ⟨RX4, "scanNumber", "(II)I"⟩
abbrev cX4_behindDigits : ByteArray := prog_6_method_13_code
def yX4_behindDigits : MethodName := ⟨RX4, "behindDigits", "(II)I"⟩
abbrev cX4_hasMoreThanNoughts : ByteArray := prog_6_method_14_code
def yX4_hasMoreThanNoughts : MethodName := ⟨RX4, "hasMoreThanNoughts", "(II)Z"⟩
abbrev cX4_takeNumber : ByteArray := prog_6_method_15_code
def yX4_takeNumber : MethodName := ⟨RX4, "takeNumber", "(LOptimumHouse$Big;)V"⟩
abbrev cX4_takeCount : ByteArray := prog_6_method_16_code
def yX4_takeCount : MethodName := ⟨RX4, "takeCount", "()I"⟩
abbrev cX4_pass : ByteArray := prog_6_method_17_code
def yX4_pass : MethodName := ⟨RX4, "pass", "(I)Z"⟩
abbrev cX4_passAbove : ByteArray := prog_6_method_18_code
def yX4_passAbove : MethodName := ⟨RX4, "passAbove", "()Z"⟩
abbrev cX4_isProof : ByteArray := prog_6_method_19_code
def yX4_isProof : MethodName := ⟨RX4, "isProof", "(I)Z"⟩
abbrev cX4_passPoint : ByteArray := prog_6_method_20_code
def yX4_passPoint : MethodName := ⟨RX4, "passPoint", "(I)Z"⟩
abbrev cX4_passTree : ByteArray := prog_6_method_21_code
def yX4_passTree : MethodName := ⟨RX4, "passTree", "()Z"⟩
abbrev cX4_passPairs : ByteArray := prog_6_method_22_code
def yX4_passPairs : MethodName := ⟨RX4, "passPairs", "()Z"⟩
def RX5 : String := "OptimumHouse$Prover"
def TX5 : u_T := fun k => match k with
  | 0 => ("OptimumHouse$Prover", "head", "LOptimumHouse$Text;", true)
  | 1 => ("OptimumHouse$Prover", "trees", "LOptimumHouse$Text;", true)
  | 2 => ("OptimumHouse$Prover", "point", "[I", true)
  | 3 => ("OptimumHouse$Prover", "upper", "LOptimumHouse$Big;", true)
  | 4 => ("OptimumHouse$Prover", "lower", "LOptimumHouse$Big;", true)
  | 5 => ("OptimumHouse$Prover", "divisor", "LOptimumHouse$Big;", true)
  | 6 => ("OptimumHouse$Prover", "first", "LOptimumHouse$Big;", true)
  | 7 => ("OptimumHouse$Prover", "second", "LOptimumHouse$Big;", true)
  | 8 => ("OptimumHouse$Prover", "quotient", "LOptimumHouse$Big;", true)
  | _ => ("OptimumHouse$Prover", "help", "LOptimumHouse$Big;", true)
def tyX5 : Nat → FieldType := fun k => match k with
  | 0 => .object "OptimumHouse$Text"
  | 1 => .object "OptimumHouse$Text"
  | 2 => .array .int
  | 3 => .object "OptimumHouse$Big"
  | 4 => .object "OptimumHouse$Big"
  | 5 => .object "OptimumHouse$Big"
  | 6 => .object "OptimumHouse$Big"
  | 7 => .object "OptimumHouse$Big"
  | 8 => .object "OptimumHouse$Big"
  | _ => .object "OptimumHouse$Big"
abbrev wsX50 : List Cond := u_ws RX5 TX5 10
theorem nmX5 : ∀ a, a < 10 → ∀ b, b < 10 → a ≠ b → (TX5 a).2.1 ≠ (TX5 b).2.1 := by decide +kernel
theorem tyX5_ok : ∀ k, k < 10 → parseFieldDescriptor (TX5 k).2.2.1 = some (tyX5 k) := by decide +kernel
abbrev cX5_init : ByteArray := prog_7_method_1_code
def yX5_init : MethodName := ⟨RX5, "<init>", "()V"⟩
abbrev cX5_clear : ByteArray := prog_7_method_2_code
def yX5_clear : MethodName := ⟨RX5, "clear", "()V"⟩
abbrev cX5_isTreeOver : ByteArray := prog_7_method_3_code
def yX5_isTreeOver : MethodName := ⟨RX5, "isTreeOver", "()Z"⟩
abbrev cX5_isMade : ByteArray := prog_7_method_4_code
def yX5_isMade : MethodName := ⟨RX5, "isMade", "()Z"⟩
abbrev cX5_isOver : ByteArray := prog_7_method_5_code
def yX5_isOver : MethodName := ⟨RX5, "isOver", "()Z"⟩
abbrev cX5_proofLength : ByteArray := prog_7_method_6_code
def yX5_proofLength : MethodName := ⟨RX5, "proofLength", "()I"⟩
abbrev cX5_proofByte : ByteArray := prog_7_method_7_code
def yX5_proofByte : MethodName := ⟨RX5, "proofByte", "(I)I"⟩
abbrev cX5_takePoint : ByteArray := prog_7_method_8_code
def yX5_takePoint : MethodName := ⟨RX5, "takePoint", "(LOptimumHouse$Dictionary;I)V"⟩
abbrev cX5_pointNumber : ByteArray := prog_7_method_9_code
def yX5_pointNumber : MethodName := ⟨RX5, "pointNumber", "(ILOptimumHouse$Big;)V"⟩
abbrev cX5_pointDenominator : ByteArray := prog_7_method_10_code
def yX5_pointDenominator : MethodName := ⟨RX5, "pointDenominator", "(LOptimumHouse$Big;)V"⟩
abbrev cX5_writeLeaf : ByteArray := prog_7_method_11_code
def yX5_writeLeaf : MethodName := ⟨RX5, "writeLeaf", "(LOptimumHouse$Dictionary;II)V"⟩
abbrev cX5_writeCut : ByteArray := prog_7_method_12_code
def yX5_writeCut : MethodName := ⟨RX5, "writeCut", "(LOptimumHouse$Dictionary;IILOptimumHouse$Rows;)V"⟩
abbrev cX5_writePair : ByteArray := prog_7_method_13_code
def yX5_writePair : MethodName := ⟨RX5, "writePair", "(ILOptimumHouse$Big;)V"⟩
abbrev cX5_writeBranch : ByteArray := prog_7_method_14_code
def yX5_writeBranch : MethodName := ⟨RX5, "writeBranch", "(ILOptimumHouse$Big;)V"⟩
abbrev cX5_common : ByteArray := prog_7_method_15_code
def yX5_common : MethodName := ⟨RX5, "common", "(LOptimumHouse$Big;LOptimumHouse$Big;)LOptimumHouse$Big;"⟩
abbrev cX5_reduce : ByteArray := prog_7_method_16_code
def yX5_reduce : MethodName := ⟨RX5, "reduce", "(LOptimumHouse$Big;LOptimumHouse$Big;Z)V"⟩
abbrev cX5_writeFraction : ByteArray := prog_7_method_17_code
def yX5_writeFraction : MethodName := ⟨RX5, "writeFraction", "(LOptimumHouse$Big;LOptimumHouse$Big;ZLOptimumHouse$Text;)V"⟩
abbrev cX5_writePoint : ByteArray := prog_7_method_18_code
def yX5_writePoint : MethodName := ⟨RX5, "writePoint", "(I)V"⟩
abbrev cX5_proveOptimal : ByteArray := prog_7_method_19_code
def yX5_proveOptimal : MethodName := ⟨RX5, "proveOptimal", "(LOptimumHouse$Model;)V"⟩
abbrev cX5_proveInfeasible : ByteArray := prog_7_method_20_code
def yX5_proveInfeasible : MethodName := ⟨RX5, "proveInfeasible", "()V"⟩
abbrev cX5_proveUnbounded : ByteArray := prog_7_method_21_code
def yX5_proveUnbounded : MethodName := ⟨RX5, "proveUnbounded", "(LOptimumHouse$Model;LOptimumHouse$Dictionary;)V"⟩
def RX6 : String := "OptimumHouse$Rows"
def TX6 : u_T := fun k => match k with
  | 0 => ("OptimumHouse$Rows", "cells", "[I", true)
  | 1 => ("OptimumHouse$Rows", "factors", "[I", true)
  | 2 => ("OptimumHouse$Rows", "left", "LOptimumHouse$Big;", true)
  | 3 => ("OptimumHouse$Rows", "right", "LOptimumHouse$Big;", true)
  | 4 => ("OptimumHouse$Rows", "product", "LOptimumHouse$Big;", true)
  | 5 => ("OptimumHouse$Rows", "sum", "LOptimumHouse$Big;", true)
  | 6 => ("OptimumHouse$Rows", "quotient", "LOptimumHouse$Big;", true)
  | 7 => ("OptimumHouse$Rows", "help", "LOptimumHouse$Big;", true)
  | 8 => ("OptimumHouse$Rows", "variables", "I", false)
  | _ => ("OptimumHouse$Rows", "count", "I", false)
def tyX6 : Nat → FieldType := fun k => match k with
  | 0 => .array .int
  | 1 => .array .int
  | 2 => .object "OptimumHouse$Big"
  | 3 => .object "OptimumHouse$Big"
  | 4 => .object "OptimumHouse$Big"
  | 5 => .object "OptimumHouse$Big"
  | 6 => .object "OptimumHouse$Big"
  | 7 => .object "OptimumHouse$Big"
  | 8 => .int
  | _ => .int
abbrev wsX60 : List Cond := u_ws RX6 TX6 10
theorem nmX6 : ∀ a, a < 10 → ∀ b, b < 10 → a ≠ b → (TX6 a).2.1 ≠ (TX6 b).2.1 := by decide +kernel
theorem tyX6_ok : ∀ k, k < 10 → parseFieldDescriptor (TX6 k).2.2.1 = some (tyX6 k) := by decide +kernel
abbrev cX6_init : ByteArray := prog_8_method_1_code
def yX6_init : MethodName := ⟨RX6, "<init>", "()V"⟩
abbrev cX6_take : ByteArray := prog_8_method_2_code
def yX6_take : MethodName := ⟨RX6, "take", "(LOptimumHouse$Model;)V"⟩
abbrev cX6_at : ByteArray := prog_8_method_3_code
def yX6_at : MethodName := ⟨RX6, "at", "(II)I"⟩
abbrev cX6_count : ByteArray := prog_8_method_4_code
def yX6_count : MethodName := ⟨RX6, "count", "()I"⟩
abbrev cX6_isFull : ByteArray := prog_8_method_5_code
def yX6_isFull : MethodName := ⟨RX6, "isFull", "()Z"⟩
abbrev cX6_keep : ByteArray := prog_8_method_6_code
def yX6_keep : MethodName := ⟨RX6, "keep", "(I)V"⟩
abbrev cX6_number : ByteArray := prog_8_method_7_code
def yX6_number : MethodName := ⟨RX6, "number", "(IILOptimumHouse$Big;)V"⟩
abbrev cX6_lowBits : ByteArray := prog_8_method_8_code
def yX6_lowBits : MethodName := ⟨RX6, "lowBits", "(II)J"⟩
abbrev cX6_clearFactors : ByteArray := prog_8_method_9_code
def yX6_clearFactors : MethodName := ⟨RX6, "clearFactors", "()V"⟩
abbrev cX6_setFactor : ByteArray := prog_8_method_10_code
def yX6_setFactor : MethodName := ⟨RX6, "setFactor", "(ILOptimumHouse$Big;)V"⟩
abbrev cX6_combine : ByteArray := prog_8_method_11_code
def yX6_combine : MethodName := ⟨RX6, "combine", "(ILOptimumHouse$Big;)V"⟩
abbrev cX6_addCut : ByteArray := prog_8_method_12_code
def yX6_addCut : MethodName := ⟨RX6, "addCut", "(LOptimumHouse$Big;)Z"⟩
abbrev cX6_addLimit : ByteArray := prog_8_method_13_code
def yX6_addLimit : MethodName := ⟨RX6, "addLimit", "(ILOptimumHouse$Big;Z)V"⟩
def RX7 : String := "OptimumHouse$Search"
def TX7 : u_T := fun k => match k with
  | 0 => ("OptimumHouse$Search", "rows", "LOptimumHouse$Rows;", true)
  | 1 => ("OptimumHouse$Search", "dictionary", "LOptimumHouse$Dictionary;", true)
  | 2 => ("OptimumHouse$Search", "prover", "LOptimumHouse$Prover;", true)
  | 3 => ("OptimumHouse$Search", "left", "LOptimumHouse$Big;", true)
  | 4 => ("OptimumHouse$Search", "right", "LOptimumHouse$Big;", true)
  | 5 => ("OptimumHouse$Search", "top", "LOptimumHouse$Big;", true)
  | 6 => ("OptimumHouse$Search", "bottom", "LOptimumHouse$Big;", true)
  | 7 => ("OptimumHouse$Search", "model", "LOptimumHouse$Model;", false)
  | 8 => ("OptimumHouse$Search", "allowed", "I", false)
  | 9 => ("OptimumHouse$Search", "status", "I", false)
  | 10 => ("OptimumHouse$Search", "pivots", "I", false)
  | 11 => ("OptimumHouse$Search", "nodes", "I", false)
  | 12 => ("OptimumHouse$Search", "bests", "I", false)
  | 13 => ("OptimumHouse$Search", "cuts", "I", false)
  | 14 => ("OptimumHouse$Search", "phase", "I", false)
  | 15 => ("OptimumHouse$Search", "next", "I", false)
  | _ => ("OptimumHouse$Search", "source", "I", false)
def tyX7 : Nat → FieldType := fun k => match k with
  | 0 => .object "OptimumHouse$Rows"
  | 1 => .object "OptimumHouse$Dictionary"
  | 2 => .object "OptimumHouse$Prover"
  | 3 => .object "OptimumHouse$Big"
  | 4 => .object "OptimumHouse$Big"
  | 5 => .object "OptimumHouse$Big"
  | 6 => .object "OptimumHouse$Big"
  | 7 => .object "OptimumHouse$Model"
  | 8 => .int
  | 9 => .int
  | 10 => .int
  | 11 => .int
  | 12 => .int
  | 13 => .int
  | 14 => .int
  | 15 => .int
  | _ => .int
abbrev wsX70 : List Cond := u_ws RX7 TX7 17
theorem nmX7 : ∀ a, a < 17 → ∀ b, b < 17 → a ≠ b → (TX7 a).2.1 ≠ (TX7 b).2.1 := by decide +kernel
theorem tyX7_ok : ∀ k, k < 17 → parseFieldDescriptor (TX7 k).2.2.1 = some (tyX7 k) := by decide +kernel
abbrev cX7_init : ByteArray := prog_9_method_1_code
def yX7_init : MethodName := ⟨RX7, "<init>", "()V"⟩
abbrev cX7_start : ByteArray := prog_9_method_2_code
def yX7_start : MethodName := ⟨RX7, "start", "(LOptimumHouse$Model;I)V"⟩
abbrev cX7_rowNumber : ByteArray := prog_9_method_3_code
def yX7_rowNumber : MethodName := ⟨RX7, "rowNumber", "(II)J"⟩
abbrev cX7_isProved : ByteArray := prog_9_method_4_code
def yX7_isProved : MethodName := ⟨RX7, "isProved", "()Z"⟩
abbrev cX7_state : ByteArray := prog_9_method_5_code
def yX7_state : MethodName := ⟨RX7, "state", "(I)I"⟩
abbrev cX7_writeFraction : ByteArray := prog_9_method_6_code
def yX7_writeFraction : MethodName := ⟨RX7, "writeFraction", "(ILOptimumHouse$Text;)Z"⟩
abbrev cX7_run : ByteArray := prog_9_method_7_code
def yX7_run : MethodName := ⟨RX7, "run", "(I)I"⟩
abbrev cX7_prove : ByteArray := prog_9_method_8_code
def yX7_prove : MethodName := ⟨RX7, "prove", "()V"⟩
abbrev cX7_choose : ByteArray := prog_9_method_9_code
def yX7_choose : MethodName := ⟨RX7, "choose", "()V"⟩
abbrev cX7_endPhaseOne : ByteArray := prog_9_method_10_code
def yX7_endPhaseOne : MethodName := ⟨RX7, "endPhaseOne", "()V"⟩
abbrev cX7_judge : ByteArray := prog_9_method_11_code
def yX7_judge : MethodName := ⟨RX7, "judge", "()V"⟩
abbrev cX7_isAboveBest : ByteArray := prog_9_method_12_code
def yX7_isAboveBest : MethodName := ⟨RX7, "isAboveBest", "()Z"⟩
abbrev cX7_leaf : ByteArray := prog_9_method_13_code
def yX7_leaf : MethodName := ⟨RX7, "leaf", "()V"⟩
abbrev cX7_countChild : ByteArray := prog_9_method_14_code
def yX7_countChild : MethodName := ⟨RX7, "countChild", "(Z)Z"⟩
abbrev cX7_cut : ByteArray := prog_9_method_15_code
def yX7_cut : MethodName := ⟨RX7, "cut", "()V"⟩
abbrev cX7_branch : ByteArray := prog_9_method_16_code
def yX7_branch : MethodName := ⟨RX7, "branch", "()V"⟩
abbrev cX7_beginSecondChild : ByteArray := prog_9_method_17_code
def yX7_beginSecondChild : MethodName := ⟨RX7, "beginSecondChild", "()V"⟩
def RX8 : String := "OptimumHouse$Syntax"
def TX8 : u_T := fun k => match k with
  | 0 => ("OptimumHouse$Syntax", "kinds", "[I", true)
  | 1 => ("OptimumHouse$Syntax", "starts", "[I", true)
  | 2 => ("OptimumHouse$Syntax", "values", "[J", true)
  | 3 => ("OptimumHouse$Syntax", "tokens", "I", false)
  | _ => ("OptimumHouse$Syntax", "at", "I", false)
def tyX8 : Nat → FieldType := fun k => match k with
  | 0 => .array .int
  | 1 => .array .int
  | 2 => .array .long
  | 3 => .int
  | _ => .int
abbrev wsX80 : List Cond := u_ws RX8 TX8 5
theorem nmX8 : ∀ a, a < 5 → ∀ b, b < 5 → a ≠ b → (TX8 a).2.1 ≠ (TX8 b).2.1 := by decide +kernel
theorem tyX8_ok : ∀ k, k < 5 → parseFieldDescriptor (TX8 k).2.2.1 = some (tyX8 k) := by decide +kernel
abbrev cX8_init : ByteArray := prog_10_method_1_code
def yX8_init : MethodName := ⟨RX8, "<init>", "()V"⟩
abbrev cX8_kind : ByteArray := prog_10_method_2_code
def yX8_kind : MethodName := ⟨RX8, "kind", "(I)I"⟩
abbrev cX8_start : ByteArray := prog_10_method_3_code
def yX8_start : MethodName := ⟨RX8, "start", "(I)I"⟩
abbrev cX8_value : ByteArray := prog_10_method_4_code
def yX8_value : MethodName := ⟨RX8, "value", "(I)J"⟩
abbrev cX8_stopPlace : ByteArray := prog_10_method_5_code
def yX8_stopPlace : MethodName := ⟨RX8, "stopPlace", "()I"⟩
abbrev cX8_tokenCount : ByteArray := prog_10_method_6_code
def yX8_tokenCount : MethodName := ⟨RX8, "tokenCount", "()I"⟩
abbrev cX8_scan : ByteArray := prog_10_method_7_code
def yX8_scan : MethodName := ⟨RX8, "scan", "(LOptimumHouse$Text;)V"⟩
abbrev cX8_token : ByteArray := prog_10_method_8_code
def yX8_token : MethodName := ⟨RX8, "token", "(IIJ)V"⟩
abbrev cX8_scanOne : ByteArray := prog_10_method_9_code
def yX8_scanOne : MethodName := ⟨RX8, "scanOne", "(LOptimumHouse$Text;I)I"⟩
abbrev cX8_scanName : ByteArray := prog_10_method_10_code
def yX8_scanName : MethodName := ⟨RX8, "scanName", "(LOptimumHouse$Text;I)I"⟩
abbrev cX8_scanNumber : ByteArray := prog_10_method_11_code
def yX8_scanNumber : MethodName := ⟨RX8, "scanNumber", "(LOptimumHouse$Text;I)I"⟩
abbrev cX8_isNamePart : ByteArray := prog_10_method_12_code
def yX8_isNamePart : MethodName := ⟨RX8, "isNamePart", "(I)Z"⟩
abbrev cX8_isLetter : ByteArray := prog_10_method_13_code
def yX8_isLetter : MethodName := ⟨RX8, "isLetter", "(I)Z"⟩
abbrev cX8_isDigit : ByteArray := prog_10_method_14_code
def yX8_isDigit : MethodName := ⟨RX8, "isDigit", "(I)Z"⟩
abbrev cX8_is : ByteArray := prog_10_method_15_code
def yX8_is : MethodName := ⟨RX8, "is", "(I)Z"⟩
abbrev cX8_pass : ByteArray := prog_10_method_16_code
def yX8_pass : MethodName := ⟨RX8, "pass", "(I)Z"⟩
abbrev cX8_isProgram : ByteArray := prog_10_method_17_code
def yX8_isProgram : MethodName := ⟨RX8, "isProgram", "()Z"⟩
abbrev cX8_declaration : ByteArray := prog_10_method_18_code
def yX8_declaration : MethodName := ⟨RX8, "declaration", "()Z"⟩
abbrev cX8_indexes : ByteArray := prog_10_method_19_code
def yX8_indexes : MethodName := ⟨RX8, "indexes", "()Z"⟩
abbrev cX8_valueList : ByteArray := prog_10_method_20_code
def yX8_valueList : MethodName := ⟨RX8, "valueList", "()Z"⟩
abbrev cX8_row : ByteArray := prog_10_method_21_code
def yX8_row : MethodName := ⟨RX8, "row", "()Z"⟩
abbrev cX8_expression : ByteArray := prog_10_method_22_code
def yX8_expression : MethodName := ⟨RX8, "expression", "(I)Z"⟩
abbrev cX8_term : ByteArray := prog_10_method_23_code
def yX8_term : MethodName := ⟨RX8, "term", "(I)Z"⟩
abbrev cX8_factor : ByteArray := prog_10_method_24_code
def yX8_factor : MethodName := ⟨RX8, "factor", "(I)Z"⟩
abbrev cX8_items : ByteArray := prog_10_method_25_code
def yX8_items : MethodName := ⟨RX8, "items", "()Z"⟩
abbrev cX8_item : ByteArray := prog_10_method_26_code
def yX8_item : MethodName := ⟨RX8, "item", "()Z"⟩
def RX9 : String := "OptimumHouse$Teller"
def TX9 : u_T := fun k => match k with
  | 0 => ("OptimumHouse$Teller", "syntax", "LOptimumHouse$Syntax;", true)
  | 1 => ("OptimumHouse$Teller", "names", "[J", true)
  | 2 => ("OptimumHouse$Teller", "table", "[I", true)
  | 3 => ("OptimumHouse$Teller", "values", "[I", true)
  | 4 => ("OptimumHouse$Teller", "sums", "[[J", true)
  | 5 => ("OptimumHouse$Teller", "products", "[[J", true)
  | 6 => ("OptimumHouse$Teller", "factors", "[[J", true)
  | 7 => ("OptimumHouse$Teller", "leftSide", "[J", true)
  | 8 => ("OptimumHouse$Teller", "model", "LOptimumHouse$Model;", false)
  | 9 => ("OptimumHouse$Teller", "known", "I", false)
  | 10 => ("OptimumHouse$Teller", "sets", "I", false)
  | 11 => ("OptimumHouse$Teller", "pars", "I", false)
  | 12 => ("OptimumHouse$Teller", "looked", "I", false)
  | 13 => ("OptimumHouse$Teller", "at", "I", false)
  | 14 => ("OptimumHouse$Teller", "faultKind", "I", false)
  | 15 => ("OptimumHouse$Teller", "faultToken", "I", false)
  | _ => ("OptimumHouse$Teller", "faultAt", "I", false)
def tyX9 : Nat → FieldType := fun k => match k with
  | 0 => .object "OptimumHouse$Syntax"
  | 1 => .array .long
  | 2 => .array .int
  | 3 => .array .int
  | 4 => .array (.array .long)
  | 5 => .array (.array .long)
  | 6 => .array (.array .long)
  | 7 => .array .long
  | 8 => .object "OptimumHouse$Model"
  | 9 => .int
  | 10 => .int
  | 11 => .int
  | 12 => .int
  | 13 => .int
  | 14 => .int
  | 15 => .int
  | _ => .int
abbrev wsX90 : List Cond := u_ws RX9 TX9 17
theorem nmX9 : ∀ a, a < 17 → ∀ b, b < 17 → a ≠ b → (TX9 a).2.1 ≠ (TX9 b).2.1 := by decide +kernel
theorem tyX9_ok : ∀ k, k < 17 → parseFieldDescriptor (TX9 k).2.2.1 = some (tyX9 k) := by decide +kernel
abbrev cX9_init : ByteArray := prog_11_method_1_code
def yX9_init : MethodName := ⟨RX9, "<init>", "()V"⟩
abbrev cX9_faultPlace : ByteArray := prog_11_method_2_code
def yX9_faultPlace : MethodName := ⟨RX9, "faultPlace", "()I"⟩
abbrev cX9_read : ByteArray := prog_11_method_3_code
def yX9_read : MethodName := ⟨RX9, "read", "(LOptimumHouse$Text;LOptimumHouse$Model;)I"⟩
abbrev cX9_fail : ByteArray := prog_11_method_4_code
def yX9_fail : MethodName := ⟨RX9, "fail", "(II)Z"⟩
abbrev cX9_find : ByteArray := prog_11_method_5_code
def yX9_find : MethodName := ⟨RX9, "find", "(J)I"⟩
abbrev cX9_fact : ByteArray := prog_11_method_6_code
def yX9_fact : MethodName := ⟨RX9, "fact", "(II)I"⟩
abbrev cX9_setFact : ByteArray := prog_11_method_7_code
def yX9_setFact : MethodName := ⟨RX9, "setFact", "(III)V"⟩
abbrev cX9_isSort : ByteArray := prog_11_method_8_code
def yX9_isSort : MethodName := ⟨RX9, "isSort", "(II)Z"⟩
abbrev cX9_learn : ByteArray := prog_11_method_9_code
def yX9_learn : MethodName := ⟨RX9, "learn", "(II)I"⟩
abbrev cX9_forgetLast : ByteArray := prog_11_method_10_code
def yX9_forgetLast : MethodName := ⟨RX9, "forgetLast", "()V"⟩
abbrev cX9_number : ByteArray := prog_11_method_11_code
def yX9_number : MethodName := ⟨RX9, "number", "(I)I"⟩
abbrev cX9_tellSet : ByteArray := prog_11_method_12_code
def yX9_tellSet : MethodName := ⟨RX9, "tellSet", "()Z"⟩
abbrev cX9_tellIndexes : ByteArray := prog_11_method_13_code
def yX9_tellIndexes : MethodName := ⟨RX9, "tellIndexes", "(I)Z"⟩
abbrev cX9_setSize : ByteArray := prog_11_method_14_code
def yX9_setSize : MethodName := ⟨RX9, "setSize", "(I)I"⟩
abbrev cX9_asked : ByteArray := prog_11_method_15_code
def yX9_asked : MethodName := ⟨RX9, "asked", "(I)I"⟩
abbrev cX9_tellPar : ByteArray := prog_11_method_16_code
def yX9_tellPar : MethodName := ⟨RX9, "tellPar", "()Z"⟩
abbrev cX9_tellVar : ByteArray := prog_11_method_17_code
def yX9_tellVar : MethodName := ⟨RX9, "tellVar", "()Z"⟩
abbrev cX9_tellGoal : ByteArray := prog_11_method_18_code
def yX9_tellGoal : MethodName := ⟨RX9, "tellGoal", "()Z"⟩
abbrev cX9_tellRow : ByteArray := prog_11_method_19_code
def yX9_tellRow : MethodName := ⟨RX9, "tellRow", "()Z"⟩
abbrev cX9_tellOneRow : ByteArray := prog_11_method_20_code
def yX9_tellOneRow : MethodName := ⟨RX9, "tellOneRow", "(I)Z"⟩
abbrev cX9_addTo : ByteArray := prog_11_method_21_code
def yX9_addTo : MethodName := ⟨RX9, "addTo", "([J[JI)V"⟩
abbrev cX9_isGreat : ByteArray := prog_11_method_22_code
def yX9_isGreat : MethodName := ⟨RX9, "isGreat", "([J)Z"⟩
abbrev cX9_hasCoefficient : ByteArray := prog_11_method_23_code
def yX9_hasCoefficient : MethodName := ⟨RX9, "hasCoefficient", "([J)Z"⟩
abbrev cX9_expression : ByteArray := prog_11_method_24_code
def yX9_expression : MethodName := ⟨RX9, "expression", "(I)Z"⟩
abbrev cX9_term : ByteArray := prog_11_method_25_code
def yX9_term : MethodName := ⟨RX9, "term", "(I)Z"⟩
abbrev cX9_multiply : ByteArray := prog_11_method_26_code
def yX9_multiply : MethodName := ⟨RX9, "multiply", "([J[J)V"⟩
abbrev cX9_factor : ByteArray := prog_11_method_27_code
def yX9_factor : MethodName := ⟨RX9, "factor", "(I)Z"⟩
abbrev cX9_canBeFactor : ByteArray := prog_11_method_28_code
def yX9_canBeFactor : MethodName := ⟨RX9, "canBeFactor", "(I)Z"⟩
abbrev cX9_negated : ByteArray := prog_11_method_29_code
def yX9_negated : MethodName := ⟨RX9, "negated", "(I)Z"⟩
abbrev cX9_inner : ByteArray := prog_11_method_30_code
def yX9_inner : MethodName := ⟨RX9, "inner", "(I)Z"⟩
abbrev cX9_summed : ByteArray := prog_11_method_31_code
def yX9_summed : MethodName := ⟨RX9, "summed", "(I)Z"⟩
abbrev cX9_named : ByteArray := prog_11_method_32_code
def yX9_named : MethodName := ⟨RX9, "named", "(II)Z"⟩
abbrev cX9_putNamed : ByteArray := prog_11_method_33_code
def yX9_putNamed : MethodName := ⟨RX9, "putNamed", "([JII)V"⟩
abbrev cX9_item : ByteArray := prog_11_method_34_code
def yX9_item : MethodName := ⟨RX9, "item", "()I"⟩
def RX10 : String := "OptimumHouse$Text"
def TX10 : u_T := fun k => match k with
  | 0 => ("OptimumHouse$Text", "bytes", "[B", true)
  | 1 => ("OptimumHouse$Text", "length", "I", false)
  | _ => ("OptimumHouse$Text", "over", "Z", false)
def tyX10 : Nat → FieldType := fun k => match k with
  | 0 => .array .byte
  | 1 => .int
  | _ => .boolean
abbrev wsX100 : List Cond := u_ws RX10 TX10 3
theorem nmX10 : ∀ a, a < 3 → ∀ b, b < 3 → a ≠ b → (TX10 a).2.1 ≠ (TX10 b).2.1 := by decide +kernel
theorem tyX10_ok : ∀ k, k < 3 → parseFieldDescriptor (TX10 k).2.2.1 = some (tyX10 k) := by decide +kernel
abbrev cX10_init : ByteArray := prog_12_method_1_code
def yX10_init : MethodName := ⟨RX10, "<init>", "(I)V"⟩
abbrev cX10_length : ByteArray := prog_12_method_2_code
def yX10_length : MethodName := ⟨RX10, "length", "()I"⟩
abbrev cX10_isOver : ByteArray := prog_12_method_3_code
def yX10_isOver : MethodName := ⟨RX10, "isOver", "()Z"⟩
abbrev cX10_clear : ByteArray := prog_12_method_4_code
def yX10_clear : MethodName := ⟨RX10, "clear", "()V"⟩
abbrev cX10_byteAt : ByteArray := prog_12_method_5_code
def yX10_byteAt : MethodName := ⟨RX10, "byteAt", "(I)I"⟩
abbrev cX10_shorten : ByteArray := prog_12_method_6_code
def yX10_shorten : MethodName := ⟨RX10, "shorten", "(I)Z"⟩
abbrev cX10_put : ByteArray := prog_12_method_7_code
def yX10_put : MethodName := ⟨RX10, "put", "(I)V"⟩
abbrev cX10_putFour : ByteArray := prog_12_method_8_code
def yX10_putFour : MethodName := ⟨RX10, "putFour", "(I)V"⟩
abbrev cX10_word : ByteArray := prog_12_method_9_code
def yX10_word : MethodName := ⟨RX10, "word", "(Ljava/lang/String;)V"⟩
abbrev cX10_count : ByteArray := prog_12_method_10_code
def yX10_count : MethodName := ⟨RX10, "count", "(I)V"⟩
abbrev cX10_number : ByteArray := prog_12_method_11_code
def yX10_number : MethodName := ⟨RX10, "number", "(LOptimumHouse$Big;Z)V"⟩
def RX11 : String := "OptimumHouse"
def TX11 : u_T := fun k => match k with
  | 0 => ("OptimumHouse", "tape", "LOptimumHouse$Text;", true)
  | 1 => ("OptimumHouse", "line", "LOptimumHouse$Text;", true)
  | 2 => ("OptimumHouse", "teller", "LOptimumHouse$Teller;", true)
  | 3 => ("OptimumHouse", "search", "LOptimumHouse$Search;", true)
  | 4 => ("OptimumHouse", "checker", "LOptimumHouse$Checker;", true)
  | 5 => ("OptimumHouse", "model", "LOptimumHouse$Model;", false)
  | 6 => ("OptimumHouse", "spare", "LOptimumHouse$Model;", false)
  | 7 => ("OptimumHouse", "hasModel", "Z", false)
  | 8 => ("OptimumHouse", "begun", "Z", false)
  | 9 => ("OptimumHouse", "faultKind", "I", false)
  | _ => ("OptimumHouse", "faultPlace", "I", false)
def tyX11 : Nat → FieldType := fun k => match k with
  | 0 => .object "OptimumHouse$Text"
  | 1 => .object "OptimumHouse$Text"
  | 2 => .object "OptimumHouse$Teller"
  | 3 => .object "OptimumHouse$Search"
  | 4 => .object "OptimumHouse$Checker"
  | 5 => .object "OptimumHouse$Model"
  | 6 => .object "OptimumHouse$Model"
  | 7 => .boolean
  | 8 => .boolean
  | 9 => .int
  | _ => .int
abbrev wsX110 : List Cond := u_ws RX11 TX11 11
theorem nmX11 : ∀ a, a < 11 → ∀ b, b < 11 → a ≠ b → (TX11 a).2.1 ≠ (TX11 b).2.1 := by decide +kernel
theorem tyX11_ok : ∀ k, k < 11 → parseFieldDescriptor (TX11 k).2.2.1 = some (tyX11 k) := by decide +kernel
abbrev cX11_init : ByteArray := prog_1_method_1_code
def yX11_init : MethodName := ⟨RX11, "<init>", "()V"⟩
abbrev cX11_feed : ByteArray := prog_1_method_2_code
def yX11_feed : MethodName := ⟨RX11, "feed", "(IIIII)I"⟩
abbrev cX11_end : ByteArray := prog_1_method_3_code
def yX11_end : MethodName := ⟨RX11, "end", "(I)Z"⟩
abbrev cX11_tell : ByteArray := prog_1_method_4_code
def yX11_tell : MethodName := ⟨RX11, "tell", "()I"⟩
abbrev cX11_fault : ByteArray := prog_1_method_5_code
def yX11_fault : MethodName := ⟨RX11, "fault", "(I)I"⟩
abbrev cX11_size : ByteArray := prog_1_method_6_code
def yX11_size : MethodName := ⟨RX11, "size", "(I)I"⟩
abbrev cX11_coefficient : ByteArray := prog_1_method_7_code
def yX11_coefficient : MethodName := ⟨RX11, "coefficient", "(II)J"⟩
abbrev cX11_begin : ByteArray := prog_1_method_8_code
def yX11_begin : MethodName := ⟨RX11, "begin", "(I)Z"⟩
abbrev cX11_work : ByteArray := prog_1_method_9_code
def yX11_work : MethodName := ⟨RX11, "work", "(I)I"⟩
abbrev cX11_look : ByteArray := prog_1_method_10_code
def yX11_look : MethodName := ⟨RX11, "look", "(I)I"⟩
abbrev cX11_place : ByteArray := prog_1_method_11_code
def yX11_place : MethodName := ⟨RX11, "place", "(I)I"⟩
abbrev cX11_entry : ByteArray := prog_1_method_12_code
def yX11_entry : MethodName := ⟨RX11, "entry", "(III)I"⟩
abbrev cX11_told : ByteArray := prog_1_method_13_code
def yX11_told : MethodName := ⟨RX11, "told", "(II)I"⟩
abbrev cX11_proof : ByteArray := prog_1_method_14_code
def yX11_proof : MethodName := ⟨RX11, "proof", "(I)I"⟩
abbrev cX11_check : ByteArray := prog_1_method_15_code
def yX11_check : MethodName := ⟨RX11, "check", "()I"⟩
def RX12 : String := "OptimumHouseModel"
def TX12 : u_T := fun k => match k with
  | 0 => ("OptimumHouseModel", "tape", "[B", true)
  | 1 => ("OptimumHouseModel", "taped", "I", false)
  | 2 => ("OptimumHouseModel", "left", "[I", true)
  | 3 => ("OptimumHouseModel", "great", "[I", true)
  | 4 => ("OptimumHouseModel", "one", "[I", true)
  | 5 => ("OptimumHouseModel", "letters", "[B", true)
  | 6 => ("OptimumHouseModel", "lettered", "I", false)
  | 7 => ("OptimumHouseModel", "one1", "[I", true)
  | 8 => ("OptimumHouseModel", "one2", "[I", true)
  | 9 => ("OptimumHouseModel", "one3", "[I", true)
  | 10 => ("OptimumHouseModel", "rest", "[I", true)
  | 11 => ("OptimumHouseModel", "fore", "[I", true)
  | 12 => ("OptimumHouseModel", "aft", "[I", true)
  | 13 => ("OptimumHouseModel", "text", "[B", true)
  | 14 => ("OptimumHouseModel", "size", "I", false)
  | 15 => ("OptimumHouseModel", "kind", "[I", true)
  | 16 => ("OptimumHouseModel", "from", "[I", true)
  | 17 => ("OptimumHouseModel", "wide", "[I", true)
  | 18 => ("OptimumHouseModel", "value", "[I", true)
  | 19 => ("OptimumHouseModel", "tokens", "I", false)
  | 20 => ("OptimumHouseModel", "fault", "I", false)
  | 21 => ("OptimumHouseModel", "place", "I", false)
  | 22 => ("OptimumHouseModel", "faultTold", "I", false)
  | 23 => ("OptimumHouseModel", "placeTold", "I", false)
  | 24 => ("OptimumHouseModel", "cursor", "I", false)
  | 25 => ("OptimumHouseModel", "names", "I", false)
  | 26 => ("OptimumHouseModel", "nameToken", "[I", true)
  | 27 => ("OptimumHouseModel", "nameSort", "[I", true)
  | 28 => ("OptimumHouseModel", "nameOne", "[I", true)
  | 29 => ("OptimumHouseModel", "nameTwo", "[I", true)
  | 30 => ("OptimumHouseModel", "nameFirst", "[I", true)
  | 31 => ("OptimumHouseModel", "parValues", "[I", true)
  | 32 => ("OptimumHouseModel", "parMany", "I", false)
  | 33 => ("OptimumHouseModel", "sets", "I", false)
  | 34 => ("OptimumHouseModel", "pars", "I", false)
  | 35 => ("OptimumHouseModel", "newN", "I", false)
  | 36 => ("OptimumHouseModel", "newM", "I", false)
  | 37 => ("OptimumHouseModel", "newWhole", "[Z", true)
  | 38 => ("OptimumHouseModel", "newRows", "[J", true)
  | 39 => ("OptimumHouseModel", "newGoal", "[J", true)
  | 40 => ("OptimumHouseModel", "newMax", "Z", false)
  | 41 => ("OptimumHouseModel", "form", "[J", true)
  | 42 => ("OptimumHouseModel", "looked", "I", false)
  | 43 => ("OptimumHouseModel", "indexMany", "I", false)
  | 44 => ("OptimumHouseModel", "indexIs", "[I", true)
  | 45 => ("OptimumHouseModel", "any", "Z", false)
  | 46 => ("OptimumHouseModel", "n", "I", false)
  | 47 => ("OptimumHouseModel", "m", "I", false)
  | 48 => ("OptimumHouseModel", "wholes", "I", false)
  | 49 => ("OptimumHouseModel", "isMax", "Z", false)
  | 50 => ("OptimumHouseModel", "whole", "[Z", true)
  | 51 => ("OptimumHouseModel", "goal", "[J", true)
  | 52 => ("OptimumHouseModel", "rows", "[I", true)
  | 53 => ("OptimumHouseModel", "dictionary", "[I", true)
  | 54 => ("OptimumHouseModel", "fresh", "[I", true)
  | 55 => ("OptimumHouseModel", "denominator", "[I", true)
  | 56 => ("OptimumHouseModel", "basic", "[I", true)
  | 57 => ("OptimumHouseModel", "others", "[I", true)
  | 58 => ("OptimumHouseModel", "placed", "I", false)
  | 59 => ("OptimumHouseModel", "places", "I", false)
  | 60 => ("OptimumHouseModel", "hasW", "Z", false)
  | 61 => ("OptimumHouseModel", "state", "I", false)
  | 62 => ("OptimumHouseModel", "stage", "I", false)
  | 63 => ("OptimumHouseModel", "nodeRows", "I", false)
  | 64 => ("OptimumHouseModel", "pivots", "I", false)
  | 65 => ("OptimumHouseModel", "nodes", "I", false)
  | 66 => ("OptimumHouseModel", "bests", "I", false)
  | 67 => ("OptimumHouseModel", "cutsMade", "I", false)
  | 68 => ("OptimumHouseModel", "allowed", "I", false)
  | 69 => ("OptimumHouseModel", "pathCuts", "I", false)
  | 70 => ("OptimumHouseModel", "ready", "Z", false)
  | 71 => ("OptimumHouseModel", "pivotRow", "I", false)
  | 72 => ("OptimumHouseModel", "pivotColumn", "I", false)
  | 73 => ("OptimumHouseModel", "kept", "[I", true)
  | 74 => ("OptimumHouseModel", "keptD", "[I", true)
  | 75 => ("OptimumHouseModel", "keptBasic", "[I", true)
  | 76 => ("OptimumHouseModel", "keptOthers", "[I", true)
  | 77 => ("OptimumHouseModel", "keptShape", "[I", true)
  | 78 => ("OptimumHouseModel", "pending", "I", false)
  | 79 => ("OptimumHouseModel", "hasBest", "Z", false)
  | 80 => ("OptimumHouseModel", "bestValue", "[I", true)
  | 81 => ("OptimumHouseModel", "bestD", "[I", true)
  | 82 => ("OptimumHouseModel", "best", "[I", true)
  | 83 => ("OptimumHouseModel", "tree", "[B", true)
  | 84 => ("OptimumHouseModel", "treeSize", "I", false)
  | 85 => ("OptimumHouseModel", "proof", "[B", true)
  | 86 => ("OptimumHouseModel", "proofSize", "I", false)
  | 87 => ("OptimumHouseModel", "small", "[I", true)
  | 88 => ("OptimumHouseModel", "multipliers", "[I", true)
  | 89 => ("OptimumHouseModel", "wide1", "[I", true)
  | 90 => ("OptimumHouseModel", "lowest", "[I", true)
  | 91 => ("OptimumHouseModel", "rayPoint", "[I", true)
  | 92 => ("OptimumHouseModel", "naught", "[I", true)
  | 93 => ("OptimumHouseModel", "held", "[I", true)
  | 94 => ("OptimumHouseModel", "sums", "[I", true)
  | 95 => ("OptimumHouseModel", "point", "[I", true)
  | 96 => ("OptimumHouseModel", "upper", "[I", true)
  | 97 => ("OptimumHouseModel", "under", "[I", true)
  | 98 => ("OptimumHouseModel", "divisor", "[I", true)
  | 99 => ("OptimumHouseModel", "factor", "[I", true)
  | 100 => ("OptimumHouseModel", "heldRows", "I", false)
  | 101 => ("OptimumHouseModel", "modelRows", "[J", true)
  | 102 => ("OptimumHouseModel", "waitRows", "[I", true)
  | 103 => ("OptimumHouseModel", "waitK", "[I", true)
  | _ => ("OptimumHouseModel", "waitV", "[I", true)
def tyX12 : Nat → FieldType := fun k => match k with
  | 0 => .array .byte
  | 1 => .int
  | 2 => .array .int
  | 3 => .array .int
  | 4 => .array .int
  | 5 => .array .byte
  | 6 => .int
  | 7 => .array .int
  | 8 => .array .int
  | 9 => .array .int
  | 10 => .array .int
  | 11 => .array .int
  | 12 => .array .int
  | 13 => .array .byte
  | 14 => .int
  | 15 => .array .int
  | 16 => .array .int
  | 17 => .array .int
  | 18 => .array .int
  | 19 => .int
  | 20 => .int
  | 21 => .int
  | 22 => .int
  | 23 => .int
  | 24 => .int
  | 25 => .int
  | 26 => .array .int
  | 27 => .array .int
  | 28 => .array .int
  | 29 => .array .int
  | 30 => .array .int
  | 31 => .array .int
  | 32 => .int
  | 33 => .int
  | 34 => .int
  | 35 => .int
  | 36 => .int
  | 37 => .array .boolean
  | 38 => .array .long
  | 39 => .array .long
  | 40 => .boolean
  | 41 => .array .long
  | 42 => .int
  | 43 => .int
  | 44 => .array .int
  | 45 => .boolean
  | 46 => .int
  | 47 => .int
  | 48 => .int
  | 49 => .boolean
  | 50 => .array .boolean
  | 51 => .array .long
  | 52 => .array .int
  | 53 => .array .int
  | 54 => .array .int
  | 55 => .array .int
  | 56 => .array .int
  | 57 => .array .int
  | 58 => .int
  | 59 => .int
  | 60 => .boolean
  | 61 => .int
  | 62 => .int
  | 63 => .int
  | 64 => .int
  | 65 => .int
  | 66 => .int
  | 67 => .int
  | 68 => .int
  | 69 => .int
  | 70 => .boolean
  | 71 => .int
  | 72 => .int
  | 73 => .array .int
  | 74 => .array .int
  | 75 => .array .int
  | 76 => .array .int
  | 77 => .array .int
  | 78 => .int
  | 79 => .boolean
  | 80 => .array .int
  | 81 => .array .int
  | 82 => .array .int
  | 83 => .array .byte
  | 84 => .int
  | 85 => .array .byte
  | 86 => .int
  | 87 => .array .int
  | 88 => .array .int
  | 89 => .array .int
  | 90 => .array .int
  | 91 => .array .int
  | 92 => .array .int
  | 93 => .array .int
  | 94 => .array .int
  | 95 => .array .int
  | 96 => .array .int
  | 97 => .array .int
  | 98 => .array .int
  | 99 => .array .int
  | 100 => .int
  | 101 => .array .long
  | 102 => .array .int
  | 103 => .array .int
  | _ => .array .int
abbrev wsX120 : List Cond := u_ws RX12 TX12 105
theorem nmX12 : ∀ a, a < 105 → ∀ b, b < 105 → a ≠ b → (TX12 a).2.1 ≠ (TX12 b).2.1 := by decide +kernel
theorem tyX12_ok : ∀ k, k < 105 → parseFieldDescriptor (TX12 k).2.2.1 = some (tyX12 k) := by decide +kernel
abbrev cX12_init : ByteArray := prog_14_method_1_code
def yX12_init : MethodName := ⟨RX12, "<init>", "()V"⟩
abbrev cX12_lay : ByteArray := prog_14_method_3_code
def yX12_lay : MethodName := ⟨RX12, "lay", "(I)V"⟩
abbrev cX12_feed : ByteArray := prog_14_method_4_code
def yX12_feed : MethodName := ⟨RX12, "feed", "(IIIII)I"⟩
abbrev cX12_end : ByteArray := prog_14_method_5_code
def yX12_end : MethodName := ⟨RX12, "end", "(I)Z"⟩
abbrev cX12_limbs : ByteArray := prog_14_method_6_code
def yX12_limbs : MethodName := ⟨RX12, "limbs", "([II)I"⟩
abbrev cX12_sign : ByteArray := prog_14_method_7_code
def yX12_sign : MethodName := ⟨RX12, "sign", "([II)I"⟩
abbrev cX12_put : ByteArray := prog_14_method_8_code
def yX12_put : MethodName := ⟨RX12, "put", "([IIJ)V"⟩
abbrev cX12_copy : ByteArray := prog_14_method_9_code
def yX12_copy : MethodName := ⟨RX12, "copy", "([II[II)V"⟩
abbrev cX12_negate : ByteArray := prog_14_method_10_code
def yX12_negate : MethodName := ⟨RX12, "negate", "([II)V"⟩
abbrev cX12_against : ByteArray := prog_14_method_11_code
def yX12_against : MethodName := ⟨RX12, "against", "([II[II)I"⟩
abbrev cX12_compare : ByteArray := prog_14_method_12_code
def yX12_compare : MethodName := ⟨RX12, "compare", "([II[II)I"⟩
abbrev cX12_add : ByteArray := prog_14_method_13_code
def yX12_add : MethodName := ⟨RX12, "add", "([II[IIZ[II)V"⟩
abbrev cX12_multiply : ByteArray := prog_14_method_14_code
def yX12_multiply : MethodName := ⟨RX12, "multiply", "([II[II[II)V"⟩
abbrev cX12_divide : ByteArray := prog_14_method_15_code
def yX12_divide : MethodName := ⟨RX12, "divide", "([II[II[II[II)V"⟩
abbrev cX12_trim : ByteArray := prog_14_method_16_code
def yX12_trim : MethodName := ⟨RX12, "trim", "([IIII)V"⟩
abbrev cX12_longDivide : ByteArray := prog_14_method_17_code
def yX12_longDivide : MethodName := ⟨RX12, "longDivide", "([II[IIII[II)V"⟩
abbrev cX12_letter : ByteArray := prog_14_method_18_code
def yX12_letter : MethodName := ⟨RX12, "letter", "(I)V"⟩
abbrev cX12_spell : ByteArray := prog_14_method_19_code
def yX12_spell : MethodName := ⟨RX12, "spell", "([II)V"⟩
abbrev cX12_common : ByteArray := prog_14_method_20_code
def yX12_common : MethodName := ⟨RX12, "common", "([II[II)V"⟩
abbrev cX12_wrong : ByteArray := prog_14_method_21_code
def yX12_wrong : MethodName := ⟨RX12, "wrong", "(II)V"⟩
abbrev cX12_isLetter : ByteArray := prog_14_method_22_code
def yX12_isLetter : MethodName := ⟨RX12, "isLetter", "(I)Z"⟩
abbrev cX12_isDigit : ByteArray := prog_14_method_23_code
def yX12_isDigit : MethodName := ⟨RX12, "isDigit", "(I)Z"⟩
abbrev cX12_at : ByteArray := prog_14_method_24_code
def yX12_at : MethodName := ⟨RX12, "at", "(I)I"⟩
abbrev cX12_among : ByteArray := prog_14_method_25_code
def yX12_among : MethodName := ⟨RX12, "among", "(Ljava/lang/String;II)I"⟩
abbrev cX12_token : ByteArray := prog_14_method_26_code
def yX12_token : MethodName := ⟨RX12, "token", "(IIII)V"⟩
abbrev cX12_signAt : ByteArray := prog_14_method_27_code
def yX12_signAt : MethodName := ⟨RX12, "signAt", "(I)I"⟩
abbrev cX12_tokenize : ByteArray := prog_14_method_28_code
def yX12_tokenize : MethodName := ⟨RX12, "tokenize", "()V"⟩
abbrev cX12_isSign : ByteArray := prog_14_method_29_code
def yX12_isSign : MethodName := ⟨RX12, "isSign", "(I)Z"⟩
abbrev cX12_isWord : ByteArray := prog_14_method_30_code
def yX12_isWord : MethodName := ⟨RX12, "isWord", "(I)Z"⟩
abbrev cX12_want : ByteArray := prog_14_method_31_code
def yX12_want : MethodName := ⟨RX12, "want", "(I)V"⟩
abbrev cX12_wantKind : ByteArray := prog_14_method_32_code
def yX12_wantKind : MethodName := ⟨RX12, "wantKind", "(I)V"⟩
abbrev cX12_wantWord : ByteArray := prog_14_method_33_code
def yX12_wantWord : MethodName := ⟨RX12, "wantWord", "(I)V"⟩
abbrev cX12_indexes : ByteArray := prog_14_method_34_code
def yX12_indexes : MethodName := ⟨RX12, "indexes", "()V"⟩
abbrev cX12_read : ByteArray := prog_14_method_35_code
def yX12_read : MethodName := ⟨RX12, "read", "()V"⟩
abbrev cX12_told : ByteArray := prog_14_method_36_code
def yX12_told : MethodName := ⟨RX12, "told", "()V"⟩
abbrev cX12_valueRead : ByteArray := prog_14_method_37_code
def yX12_valueRead : MethodName := ⟨RX12, "valueRead", "()V"⟩
abbrev cX12_sumRead : ByteArray := prog_14_method_38_code
def yX12_sumRead : MethodName := ⟨RX12, "sumRead", "(I)V"⟩
abbrev cX12_productRead : ByteArray := prog_14_method_39_code
def yX12_productRead : MethodName := ⟨RX12, "productRead", "(I)V"⟩
abbrev cX12_factorRead : ByteArray := prog_14_method_40_code
def yX12_factorRead : MethodName := ⟨RX12, "factorRead", "(I)V"⟩
abbrev cX12_indexRead : ByteArray := prog_14_method_41_code
def yX12_indexRead : MethodName := ⟨RX12, "indexRead", "()V"⟩
abbrev cX12_find : ByteArray := prog_14_method_42_code
def yX12_find : MethodName := ⟨RX12, "find", "(I)I"⟩
abbrev cX12_add_ : ByteArray := prog_14_method_43_code
def yX12_add_ : MethodName := ⟨RX12, "add", "(II)I"⟩
abbrev cX12_setHere : ByteArray := prog_14_method_44_code
def yX12_setHere : MethodName := ⟨RX12, "setHere", "()I"⟩
abbrev cX12_sizeOf : ByteArray := prog_14_method_45_code
def yX12_sizeOf : MethodName := ⟨RX12, "sizeOf", "(I)I"⟩
abbrev cX12_indexesOf : ByteArray := prog_14_method_46_code
def yX12_indexesOf : MethodName := ⟨RX12, "indexesOf", "(I)V"⟩
abbrev cX12_tellAll : ByteArray := prog_14_method_47_code
def yX12_tellAll : MethodName := ⟨RX12, "tellAll", "()V"⟩
abbrev cX12_tellSet : ByteArray := prog_14_method_48_code
def yX12_tellSet : MethodName := ⟨RX12, "tellSet", "(I)V"⟩
abbrev cX12_tellPar : ByteArray := prog_14_method_49_code
def yX12_tellPar : MethodName := ⟨RX12, "tellPar", "(I)V"⟩
abbrev cX12_tellVar : ByteArray := prog_14_method_50_code
def yX12_tellVar : MethodName := ⟨RX12, "tellVar", "(I)V"⟩
abbrev cX12_tellRow : ByteArray := prog_14_method_51_code
def yX12_tellRow : MethodName := ⟨RX12, "tellRow", "()V"⟩
abbrev cX12_oneRow : ByteArray := prog_14_method_52_code
def yX12_oneRow : MethodName := ⟨RX12, "oneRow", "(I)V"⟩
abbrev cX12_isGreat : ByteArray := prog_14_method_53_code
def yX12_isGreat : MethodName := ⟨RX12, "isGreat", "(I)Z"⟩
abbrev cX12_hasVariables : ByteArray := prog_14_method_54_code
def yX12_hasVariables : MethodName := ⟨RX12, "hasVariables", "(I)Z"⟩
abbrev cX12_expression : ByteArray := prog_14_method_55_code
def yX12_expression : MethodName := ⟨RX12, "expression", "(I)V"⟩
abbrev cX12_product : ByteArray := prog_14_method_56_code
def yX12_product : MethodName := ⟨RX12, "product", "(I)V"⟩
abbrev cX12_constant : ByteArray := prog_14_method_57_code
def yX12_constant : MethodName := ⟨RX12, "constant", "(IJ)V"⟩
abbrev cX12_factor : ByteArray := prog_14_method_58_code
def yX12_factor : MethodName := ⟨RX12, "factor", "(I)V"⟩
abbrev cX12_sum : ByteArray := prog_14_method_59_code
def yX12_sum : MethodName := ⟨RX12, "sum", "(I)V"⟩
abbrev cX12_index : ByteArray := prog_14_method_60_code
def yX12_index : MethodName := ⟨RX12, "index", "()V"⟩
abbrev cX12_named : ByteArray := prog_14_method_61_code
def yX12_named : MethodName := ⟨RX12, "named", "(I)V"⟩
abbrev cX12_rowCell : ByteArray := prog_14_method_62_code
def yX12_rowCell : MethodName := ⟨RX12, "rowCell", "(II)I"⟩
abbrev cX12_tell : ByteArray := prog_14_method_63_code
def yX12_tell : MethodName := ⟨RX12, "tell", "()I"⟩
abbrev cX12_fault : ByteArray := prog_14_method_64_code
def yX12_fault : MethodName := ⟨RX12, "fault", "(I)I"⟩
abbrev cX12_size : ByteArray := prog_14_method_65_code
def yX12_size : MethodName := ⟨RX12, "size", "(I)I"⟩
abbrev cX12_coefficient : ByteArray := prog_14_method_66_code
def yX12_coefficient : MethodName := ⟨RX12, "coefficient", "(II)J"⟩
abbrev cX12_cell : ByteArray := prog_14_method_67_code
def yX12_cell : MethodName := ⟨RX12, "cell", "(II)I"⟩
abbrev cX12_begin : ByteArray := prog_14_method_68_code
def yX12_begin : MethodName := ⟨RX12, "begin", "(I)Z"⟩
abbrev cX12_pivot : ByteArray := prog_14_method_69_code
def yX12_pivot : MethodName := ⟨RX12, "pivot", "(II)Z"⟩
abbrev cX12_across : ByteArray := prog_14_method_70_code
def yX12_across : MethodName := ⟨RX12, "across", "(IIIIIIZ)Z"⟩
abbrev cX12_ratio : ByteArray := prog_14_method_71_code
def yX12_ratio : MethodName := ⟨RX12, "ratio", "(IIII)I"⟩
abbrev cX12_stepUp : ByteArray := prog_14_method_72_code
def yX12_stepUp : MethodName := ⟨RX12, "stepUp", "(I)I"⟩
abbrev cX12_stepDown : ByteArray := prog_14_method_73_code
def yX12_stepDown : MethodName := ⟨RX12, "stepDown", "()I"⟩
abbrev cX12_work : ByteArray := prog_14_method_74_code
def yX12_work : MethodName := ⟨RX12, "work", "(I)I"⟩
abbrev cX12_goOn : ByteArray := prog_14_method_75_code
def yX12_goOn : MethodName := ⟨RX12, "goOn", "()V"⟩
abbrev cX12_outOfBasis : ByteArray := prog_14_method_76_code
def yX12_outOfBasis : MethodName := ⟨RX12, "outOfBasis", "()Z"⟩
abbrev cX12_dropPlace : ByteArray := prog_14_method_77_code
def yX12_dropPlace : MethodName := ⟨RX12, "dropPlace", "()V"⟩
abbrev cX12_write : ByteArray := prog_14_method_78_code
def yX12_write : MethodName := ⟨RX12, "write", "(Ljava/lang/String;)V"⟩
abbrev cX12_writeNumber : ByteArray := prog_14_method_79_code
def yX12_writeNumber : MethodName := ⟨RX12, "writeNumber", "([II)V"⟩
abbrev cX12_writeSmall : ByteArray := prog_14_method_80_code
def yX12_writeSmall : MethodName := ⟨RX12, "writeSmall", "(J)V"⟩
abbrev cX12_clearMultipliers : ByteArray := prog_14_method_81_code
def yX12_clearMultipliers : MethodName := ⟨RX12, "clearMultipliers", "()V"⟩
abbrev cX12_multipliersOf : ByteArray := prog_14_method_82_code
def yX12_multipliersOf : MethodName := ⟨RX12, "multipliersOf", "(I)V"⟩
abbrev cX12_writePairs : ByteArray := prog_14_method_83_code
def yX12_writePairs : MethodName := ⟨RX12, "writePairs", "(Ljava/lang/String;)V"⟩
abbrev cX12_leafFarkas : ByteArray := prog_14_method_84_code
def yX12_leafFarkas : MethodName := ⟨RX12, "leafFarkas", "(II)V"⟩
abbrev cX12_leafBound : ByteArray := prog_14_method_85_code
def yX12_leafBound : MethodName := ⟨RX12, "leafBound", "()V"⟩
abbrev cX12_isWholeGoal : ByteArray := prog_14_method_86_code
def yX12_isWholeGoal : MethodName := ⟨RX12, "isWholeGoal", "()Z"⟩
abbrev cX12_isNoBetter : ByteArray := prog_14_method_87_code
def yX12_isNoBetter : MethodName := ⟨RX12, "isNoBetter", "()Z"⟩
abbrev cX12_evaluate : ByteArray := prog_14_method_88_code
def yX12_evaluate : MethodName := ⟨RX12, "evaluate", "()V"⟩
abbrev cX12_takeBest : ByteArray := prog_14_method_89_code
def yX12_takeBest : MethodName := ⟨RX12, "takeBest", "()V"⟩
abbrev cX12_mayBegin : ByteArray := prog_14_method_90_code
def yX12_mayBegin : MethodName := ⟨RX12, "mayBegin", "()Z"⟩
abbrev cX12_asLong : ByteArray := prog_14_method_91_code
def yX12_asLong : MethodName := ⟨RX12, "asLong", "([II)J"⟩
abbrev cX12_cut : ByteArray := prog_14_method_92_code
def yX12_cut : MethodName := ⟨RX12, "cut", "(I)V"⟩
abbrev cX12_childRow : ByteArray := prog_14_method_93_code
def yX12_childRow : MethodName := ⟨RX12, "childRow", "(IZ)V"⟩
abbrev cX12_branch : ByteArray := prog_14_method_94_code
def yX12_branch : MethodName := ⟨RX12, "branch", "(I)V"⟩
abbrev cX12_leafDone : ByteArray := prog_14_method_95_code
def yX12_leafDone : MethodName := ⟨RX12, "leafDone", "()V"⟩
abbrev cX12_say : ByteArray := prog_14_method_96_code
def yX12_say : MethodName := ⟨RX12, "say", "(Ljava/lang/String;)V"⟩
abbrev cX12_sayLetters : ByteArray := prog_14_method_97_code
def yX12_sayLetters : MethodName := ⟨RX12, "sayLetters", "()V"⟩
abbrev cX12_sayPoint : ByteArray := prog_14_method_98_code
def yX12_sayPoint : MethodName := ⟨RX12, "sayPoint", "([II[II)V"⟩
abbrev cX12_lower : ByteArray := prog_14_method_99_code
def yX12_lower : MethodName := ⟨RX12, "lower", "([II[II)V"⟩
abbrev cX12_finish : ByteArray := prog_14_method_100_code
def yX12_finish : MethodName := ⟨RX12, "finish", "()V"⟩
abbrev cX12_ray : ByteArray := prog_14_method_101_code
def yX12_ray : MethodName := ⟨RX12, "ray", "()V"⟩
abbrev cX12_look : ByteArray := prog_14_method_102_code
def yX12_look : MethodName := ⟨RX12, "look", "(I)I"⟩
abbrev cX12_place : ByteArray := prog_14_method_103_code
def yX12_place : MethodName := ⟨RX12, "place", "(I)I"⟩
abbrev cX12_letterAt : ByteArray := prog_14_method_104_code
def yX12_letterAt : MethodName := ⟨RX12, "letterAt", "(I)I"⟩
abbrev cX12_entry : ByteArray := prog_14_method_105_code
def yX12_entry : MethodName := ⟨RX12, "entry", "(III)I"⟩
abbrev cX12_told_ : ByteArray := prog_14_method_106_code
def yX12_told_ : MethodName := ⟨RX12, "told", "(II)I"⟩
abbrev cX12_proof : ByteArray := prog_14_method_107_code
def yX12_proof : MethodName := ⟨RX12, "proof", "(I)I"⟩
abbrev cX12_tokenizeProof : ByteArray := prog_14_method_108_code
def yX12_tokenizeProof : MethodName := ⟨RX12, "tokenizeProof", "()V"⟩
abbrev cX12_wantAbove : ByteArray := prog_14_method_109_code
def yX12_wantAbove : MethodName := ⟨RX12, "wantAbove", "()V"⟩
abbrev cX12_pointRead : ByteArray := prog_14_method_110_code
def yX12_pointRead : MethodName := ⟨RX12, "pointRead", "()V"⟩
abbrev cX12_proofRead : ByteArray := prog_14_method_111_code
def yX12_proofRead : MethodName := ⟨RX12, "proofRead", "()V"⟩
abbrev cX12_treesRead : ByteArray := prog_14_method_112_code
def yX12_treesRead : MethodName := ⟨RX12, "treesRead", "()V"⟩
abbrev cX12_numberAt : ByteArray := prog_14_method_113_code
def yX12_numberAt : MethodName := ⟨RX12, "numberAt", "(I[II)V"⟩
abbrev cX12_heldCell : ByteArray := prog_14_method_114_code
def yX12_heldCell : MethodName := ⟨RX12, "heldCell", "(II)I"⟩
abbrev cX12_pointHere : ByteArray := prog_14_method_115_code
def yX12_pointHere : MethodName := ⟨RX12, "pointHere", "()V"⟩
abbrev cX12_along : ByteArray := prog_14_method_116_code
def yX12_along : MethodName := ⟨RX12, "along", "(I)V"⟩
abbrev cX12_isPoint : ByteArray := prog_14_method_117_code
def yX12_isPoint : MethodName := ⟨RX12, "isPoint", "(Z)Z"⟩
abbrev cX12_isValue : ByteArray := prog_14_method_118_code
def yX12_isValue : MethodName := ⟨RX12, "isValue", "()Z"⟩
abbrev cX12_isAlong : ByteArray := prog_14_method_119_code
def yX12_isAlong : MethodName := ⟨RX12, "isAlong", "()Z"⟩
abbrev cX12_check : ByteArray := prog_14_method_120_code
def yX12_check : MethodName := ⟨RX12, "check", "()I"⟩
abbrev cX12_holds : ByteArray := prog_14_method_121_code
def yX12_holds : MethodName := ⟨RX12, "holds", "()V"⟩
abbrev cX12_trees : ByteArray := prog_14_method_122_code
def yX12_trees : MethodName := ⟨RX12, "trees", "(Z)V"⟩
abbrev cX12_variableAt : ByteArray := prog_14_method_123_code
def yX12_variableAt : MethodName := ⟨RX12, "variableAt", "(I)I"⟩
abbrev cX12_branchRow : ByteArray := prog_14_method_124_code
def yX12_branchRow : MethodName := ⟨RX12, "branchRow", "(IIZ)V"⟩
abbrev cX12_pairs : ByteArray := prog_14_method_125_code
def yX12_pairs : MethodName := ⟨RX12, "pairs", "()Z"⟩
abbrev cX12_isLong : ByteArray := prog_14_method_126_code
def yX12_isLong : MethodName := ⟨RX12, "isLong", "([II)Z"⟩
abbrev cX12_cutRow : ByteArray := prog_14_method_127_code
def yX12_cutRow : MethodName := ⟨RX12, "cutRow", "()Z"⟩
abbrev cX12_isBound : ByteArray := prog_14_method_128_code
def yX12_isBound : MethodName := ⟨RX12, "isBound", "()Z"⟩
abbrev cX12_isFarkas : ByteArray := prog_14_method_129_code
def yX12_isFarkas : MethodName := ⟨RX12, "isFarkas", "()Z"⟩
def RJ11 : String := "java/lang/Character"
def TJ11 : u_T := fun k => match k with
  | _ => ("", "", "", false)
def tyJ11 : Nat → FieldType := fun k => match k with
  | _ => .int
abbrev wsJ110 : List Cond := u_ws RJ11 TJ11 0
theorem nmJ11 : ∀ a, a < 0 → ∀ b, b < 0 → a ≠ b → (TJ11 a).2.1 ≠ (TJ11 b).2.1 := by decide +kernel
theorem tyJ11_ok : ∀ k, k < 0 → parseFieldDescriptor (TJ11 k).2.2.1 = some (tyJ11 k) := by decide +kernel
abbrev cJ11_isValidCodePoint_9a6ad : ByteArray := prog_15_method_11_code
def yJ11_isValidCodePoint_9a6ad : MethodName := ⟨RJ11, "isValidCodePoint", "(I)Z"⟩
abbrev cJ11_highSurrogate_5068e : ByteArray := prog_15_method_28_code
def yJ11_highSurrogate_5068e : MethodName := ⟨RJ11, "highSurrogate", "(I)C"⟩
abbrev cJ11_lowSurrogate_5068e : ByteArray := prog_15_method_29_code
def yJ11_lowSurrogate_5068e : MethodName := ⟨RJ11, "lowSurrogate", "(I)C"⟩
def RJ6 : String := "java/lang/Integer"
def TJ6 : u_T := fun k => match k with
  | _ => ("", "", "", false)
def tyJ6 : Nat → FieldType := fun k => match k with
  | _ => .int
abbrev wsJ60 : List Cond := u_ws RJ6 TJ6 0
theorem nmJ6 : ∀ a, a < 0 → ∀ b, b < 0 → a ≠ b → (TJ6 a).2.1 ≠ (TJ6 b).2.1 := by decide +kernel
theorem tyJ6_ok : ∀ k, k < 0 → parseFieldDescriptor (TJ6 k).2.2.1 = some (tyJ6 k) := by decide +kernel
abbrev cJ6_compare_7cf53 : ByteArray := prog_16_method_40_code
def yJ6_compare_7cf53 : MethodName := ⟨RJ6, "compare", "(II)I"⟩
abbrev cJ6_signum_0f7a4 : ByteArray := prog_16_method_56_code
def yJ6_signum_0f7a4 : MethodName := ⟨RJ6, "signum", "(I)I"⟩
def RJ13 : String := "java/lang/Long"
def TJ13 : u_T := fun k => match k with
  | _ => ("", "", "", false)
def tyJ13 : Nat → FieldType := fun k => match k with
  | _ => .int
abbrev wsJ130 : List Cond := u_ws RJ13 TJ13 0
theorem nmJ13 : ∀ a, a < 0 → ∀ b, b < 0 → a ≠ b → (TJ13 a).2.1 ≠ (TJ13 b).2.1 := by decide +kernel
theorem tyJ13_ok : ∀ k, k < 0 → parseFieldDescriptor (TJ13 k).2.2.1 = some (tyJ13 k) := by decide +kernel
abbrev cJ13_compare_74951 : ByteArray := prog_17_method_42_code
def yJ13_compare_74951 : MethodName := ⟨RJ13, "compare", "(JJ)I"⟩
abbrev cJ13_signum_95d88 : ByteArray := prog_17_method_57_code
def yJ13_signum_95d88 : MethodName := ⟨RJ13, "signum", "(J)I"⟩
def RJ9 : String := "java/lang/Math"
def TJ9 : u_T := fun k => match k with
  | _ => ("", "", "", false)
def tyJ9 : Nat → FieldType := fun k => match k with
  | _ => .int
abbrev wsJ90 : List Cond := u_ws RJ9 TJ9 0
theorem nmJ9 : ∀ a, a < 0 → ∀ b, b < 0 → a ≠ b → (TJ9 a).2.1 ≠ (TJ9 b).2.1 := by decide +kernel
theorem tyJ9_ok : ∀ k, k < 0 → parseFieldDescriptor (TJ9 k).2.2.1 = some (tyJ9 k) := by decide +kernel
abbrev cJ9_abs_0f7a4 : ByteArray := prog_18_method_59_code
def yJ9_abs_0f7a4 : MethodName := ⟨RJ9, "abs", "(I)I"⟩
abbrev cJ9_abs_067f4 : ByteArray := prog_18_method_61_code
def yJ9_abs_067f4 : MethodName := ⟨RJ9, "abs", "(J)J"⟩
abbrev cJ9_max_7cf53 : ByteArray := prog_18_method_65_code
def yJ9_max_7cf53 : MethodName := ⟨RJ9, "max", "(II)I"⟩
abbrev cJ9_min_7cf53 : ByteArray := prog_18_method_69_code
def yJ9_min_7cf53 : MethodName := ⟨RJ9, "min", "(II)I"⟩
abbrev cJ9_min_f86c9 : ByteArray := prog_18_method_70_code
def yJ9_min_f86c9 : MethodName := ⟨RJ9, "min", "(JJ)J"⟩
def RJ0 : String := "java/lang/String"
def TJ0 : u_T := fun k => match k with
  | _ => ("", "", "", false)
def tyJ0 : Nat → FieldType := fun k => match k with
  | _ => .int
abbrev wsJ00 : List Cond := u_ws RJ0 TJ0 0
theorem nmJ0 : ∀ a, a < 0 → ∀ b, b < 0 → a ≠ b → (TJ0 a).2.1 ≠ (TJ0 b).2.1 := by decide +kernel
theorem tyJ0_ok : ∀ k, k < 0 → parseFieldDescriptor (TJ0 k).2.2.1 = some (tyJ0 k) := by decide +kernel
abbrev cJ0_length_8abf5 : ByteArray := prog_19_method_54_code
def yJ0_length_8abf5 : MethodName := ⟨RJ0, "length", "()I"⟩
abbrev cJ0_charAt_5068e : ByteArray := prog_19_method_56_code
def yJ0_charAt_5068e : MethodName := ⟨RJ0, "charAt", "(I)C"⟩
abbrev cJ0_indexOf_0f7a4 : ByteArray := prog_19_method_79_code
def yJ0_indexOf_0f7a4 : MethodName := ⟨RJ0, "indexOf", "(I)I"⟩
abbrev cJ0_indexOf_7cf53 : ByteArray := prog_19_method_80_code
def yJ0_indexOf_7cf53 : MethodName := ⟨RJ0, "indexOf", "(II)I"⟩
abbrev cJ0_coder_7d493 : ByteArray := prog_19_method_152_code
def yJ0_coder_7d493 : MethodName := ⟨RJ0, "coder", "()B"⟩
abbrev cJ0_isLatin1_aae02 : ByteArray := prog_19_method_154_code
def yJ0_isLatin1_aae02 : MethodName := ⟨RJ0, "isLatin1", "()Z"⟩
abbrev cJ0_checkIndex_df160 : ByteArray := prog_19_method_155_code
def yJ0_checkIndex_df160 : MethodName := ⟨RJ0, "checkIndex", "(II)V"⟩
abbrev cJ0_checkBoundsBeginEnd_23922 : ByteArray := prog_19_method_158_code
def yJ0_checkBoundsBeginEnd_23922 : MethodName := ⟨RJ0, "checkBoundsBeginEnd", "(III)V"⟩
def RJ1 : String := "java/lang/StringLatin1"
def TJ1 : u_T := fun k => match k with
  | _ => ("", "", "", false)
def tyJ1 : Nat → FieldType := fun k => match k with
  | _ => .int
abbrev wsJ10 : List Cond := u_ws RJ1 TJ1 0
theorem nmJ1 : ∀ a, a < 0 → ∀ b, b < 0 → a ≠ b → (TJ1 a).2.1 ≠ (TJ1 b).2.1 := by decide +kernel
theorem tyJ1_ok : ∀ k, k < 0 → parseFieldDescriptor (TJ1 k).2.2.1 = some (tyJ1 k) := by decide +kernel
abbrev cJ1_charAt_3b067 : ByteArray := prog_20_method_2_code
def yJ1_charAt_3b067 : MethodName := ⟨RJ1, "charAt", "([BI)C"⟩
abbrev cJ1_canEncode_9a6ad : ByteArray := prog_20_method_4_code
def yJ1_canEncode_9a6ad : MethodName := ⟨RJ1, "canEncode", "(I)Z"⟩
abbrev cJ1_indexOf_4cfef : ByteArray := prog_20_method_22_code
def yJ1_indexOf_4cfef : MethodName := ⟨RJ1, "indexOf", "([BIII)I"⟩
abbrev cJ1_indexOfChar_4cfef : ByteArray := prog_20_method_23_code
def yJ1_indexOfChar_4cfef : MethodName := ⟨RJ1, "indexOfChar", "([BIII)I"⟩
def RJ2 : String := "java/lang/StringUTF16"
def TJ2 : u_T := fun k => match k with
  | _ => ("", "", "", false)
def tyJ2 : Nat → FieldType := fun k => match k with
  | _ => .int
abbrev wsJ20 : List Cond := u_ws RJ2 TJ2 0
theorem nmJ2 : ∀ a, a < 0 → ∀ b, b < 0 → a ≠ b → (TJ2 a).2.1 ≠ (TJ2 b).2.1 := by decide +kernel
theorem tyJ2_ok : ∀ k, k < 0 → parseFieldDescriptor (TJ2 k).2.2.1 = some (tyJ2 k) := by decide +kernel
abbrev cJ2_getChar_3b067 : ByteArray := prog_21_method_5_code
def yJ2_getChar_3b067 : MethodName := ⟨RJ2, "getChar", "([BI)C"⟩
abbrev cJ2_length_9d52b : ByteArray := prog_21_method_6_code
def yJ2_length_9d52b : MethodName := ⟨RJ2, "length", "([B)I"⟩
abbrev cJ2_indexOf_4cfef : ByteArray := prog_21_method_40_code
def yJ2_indexOf_4cfef : MethodName := ⟨RJ2, "indexOf", "([BIII)I"⟩
abbrev cJ2_indexOfChar_4cfef : ByteArray := prog_21_method_47_code
def yJ2_indexOfChar_4cfef : MethodName := ⟨RJ2, "indexOfChar", "([BIII)I"⟩
abbrev cJ2_indexOfCharUnsafe_4cfef : ByteArray := prog_21_method_48_code
def yJ2_indexOfCharUnsafe_4cfef : MethodName := ⟨RJ2, "indexOfCharUnsafe", "([BIII)I"⟩
abbrev cJ2_indexOfSupplementary_4cfef : ByteArray := prog_21_method_49_code
def yJ2_indexOfSupplementary_4cfef : MethodName := ⟨RJ2, "indexOfSupplementary", "([BIII)I"⟩
abbrev cJ2_charAt_3b067 : ByteArray := prog_21_method_83_code
def yJ2_charAt_3b067 : MethodName := ⟨RJ2, "charAt", "([BI)C"⟩
abbrev cJ2_checkIndex_2214a : ByteArray := prog_21_method_91_code
def yJ2_checkIndex_2214a : MethodName := ⟨RJ2, "checkIndex", "(I[B)V"⟩
abbrev cJ2_checkBoundsBeginEnd_d044e : ByteArray := prog_21_method_93_code
def yJ2_checkBoundsBeginEnd_d044e : MethodName := ⟨RJ2, "checkBoundsBeginEnd", "(II[B)V"⟩
def RJ10 : String := "java/lang/System"
def TJ10 : u_T := fun k => match k with
  | _ => ("", "", "", false)
def tyJ10 : Nat → FieldType := fun k => match k with
  | _ => .int
abbrev wsJ100 : List Cond := u_ws RJ10 TJ10 0
theorem nmJ10 : ∀ a, a < 0 → ∀ b, b < 0 → a ≠ b → (TJ10 a).2.1 ≠ (TJ10 b).2.1 := by decide +kernel
theorem tyJ10_ok : ∀ k, k < 0 → parseFieldDescriptor (TJ10 k).2.2.1 = some (tyJ10 k) := by decide +kernel
def RJ7 : String := "java/util/Arrays"
def TJ7 : u_T := fun k => match k with
  | _ => ("", "", "", false)
def tyJ7 : Nat → FieldType := fun k => match k with
  | _ => .int
abbrev wsJ70 : List Cond := u_ws RJ7 TJ7 0
theorem nmJ7 : ∀ a, a < 0 → ∀ b, b < 0 → a ≠ b → (TJ7 a).2.1 ≠ (TJ7 b).2.1 := by decide +kernel
theorem tyJ7_ok : ∀ k, k < 0 → parseFieldDescriptor (TJ7 k).2.2.1 = some (tyJ7 k) := by decide +kernel
abbrev cJ7_rangeCheck_23922 : ByteArray := prog_23_method_30_code
def yJ7_rangeCheck_23922 : MethodName := ⟨RJ7, "rangeCheck", "(III)V"⟩
abbrev cJ7_fill_d0a16 : ByteArray := prog_23_method_101_code
def yJ7_fill_d0a16 : MethodName := ⟨RJ7, "fill", "([JJ)V"⟩
abbrev cJ7_fill_fda19 : ByteArray := prog_23_method_104_code
def yJ7_fill_fda19 : MethodName := ⟨RJ7, "fill", "([IIII)V"⟩
def RJ3 : String := "jdk/internal/util/Preconditions"
def TJ3 : u_T := fun k => match k with
  | _ => ("", "", "", false)
def tyJ3 : Nat → FieldType := fun k => match k with
  | _ => .int
abbrev wsJ30 : List Cond := u_ws RJ3 TJ3 0
theorem nmJ3 : ∀ a, a < 0 → ∀ b, b < 0 → a ≠ b → (TJ3 a).2.1 ≠ (TJ3 b).2.1 := by decide +kernel
theorem tyJ3_ok : ∀ k, k < 0 → parseFieldDescriptor (TJ3 k).2.2.1 = some (tyJ3 k) := by decide +kernel
abbrev cJ3_checkIndex_8e157 : ByteArray := prog_24_method_11_code
def yJ3_checkIndex_8e157 : MethodName := ⟨RJ3, "checkIndex", "(IILjava/util/function/BiFunction;)I"⟩
abbrev cJ3_checkFromToIndex_8c36e : ByteArray := prog_24_method_12_code
def yJ3_checkFromToIndex_8c36e : MethodName := ⟨RJ3, "checkFromToIndex", "(IIILjava/util/function/BiFunction;)I"⟩
def RL : String := "OptimumHouseLaw"
abbrev cL_law : ByteArray := code
def yL_law : MethodName := ⟨RL, "law", "([I)Z"⟩
abbrev vwCl : List vw_C := [(RX0, TX0, 3), (RX1, TX1, 18), (RX2, TX2, 20), (RX3, TX3, 5), (RX4, TX4, 4), (RX5, TX5, 10), (RX6, TX6, 10), (RX7, TX7, 17), (RX8, TX8, 5), (RX9, TX9, 17), (RX10, TX10, 3), (RX11, TX11, 11), (RX12, TX12, 105)]
def tyOf (ci : Nat) : Nat → FieldType := match ci with
  | 0 => tyX0
  | 1 => tyX1
  | 2 => tyX2
  | 3 => tyX3
  | 4 => tyX4
  | 5 => tyX5
  | 6 => tyX6
  | 7 => tyX7
  | 8 => tyX8
  | 9 => tyX9
  | 10 => tyX10
  | 11 => tyX11
  | _ => tyX12
def tauL : List (Nat ⊕ (FieldType × Nat)) := [.inl 11, .inl 10, .inr (.byte, 30000), .inl 10, .inr (.byte, 120), .inl 3, .inr (.int, 221), .inr (.boolean, 13), .inl 3, .inr (.int, 221), .inr (.boolean, 13), .inl 9, .inl 8, .inr (.int, 2001), .inr (.int, 2001), .inr (.long, 2001), .inr (.long, 128), .inr (.int, 768), .inr (.int, 1728), .inr (.array .long, 31), .inr (.long, 13), .inr (.long, 13), .inr (.long, 13), .inr (.long, 13), .inr (.long, 13), .inr (.long, 13), .inr (.long, 13), .inr (.long, 13), .inr (.long, 13), .inr (.long, 13), .inr (.long, 13), .inr (.long, 13), .inr (.long, 13), .inr (.long, 13), .inr (.long, 13), .inr (.long, 13), .inr (.long, 13), .inr (.long, 13), .inr (.long, 13), .inr (.long, 13), .inr (.long, 13), .inr (.long, 13), .inr (.long, 13), .inr (.long, 13), .inr (.long, 13), .inr (.long, 13), .inr (.long, 13), .inr (.long, 13), .inr (.long, 13), .inr (.long, 13), .inr (.long, 13), .inr (.array .long, 31), .inr (.long, 13), .inr (.long, 13), .inr (.long, 13), .inr (.long, 13), .inr (.long, 13), .inr (.long, 13), .inr (.long, 13), .inr (.long, 13), .inr (.long, 13), .inr (.long, 13), .inr (.long, 13), .inr (.long, 13), .inr (.long, 13), .inr (.long, 13), .inr (.long, 13), .inr (.long, 13), .inr (.long, 13), .inr (.long, 13), .inr (.long, 13), .inr (.long, 13), .inr (.long, 13), .inr (.long, 13), .inr (.long, 13), .inr (.long, 13), .inr (.long, 13), .inr (.long, 13), .inr (.long, 13), .inr (.long, 13), .inr (.long, 13), .inr (.long, 13), .inr (.long, 13), .inr (.array .long, 31), .inr (.long, 13), .inr (.long, 13), .inr (.long, 13), .inr (.long, 13), .inr (.long, 13), .inr (.long, 13), .inr (.long, 13), .inr (.long, 13), .inr (.long, 13), .inr (.long, 13), .inr (.long, 13), .inr (.long, 13), .inr (.long, 13), .inr (.long, 13), .inr (.long, 13), .inr (.long, 13), .inr (.long, 13), .inr (.long, 13), .inr (.long, 13), .inr (.long, 13), .inr (.long, 13), .inr (.long, 13), .inr (.long, 13), .inr (.long, 13), .inr (.long, 13), .inr (.long, 13), .inr (.long, 13), .inr (.long, 13), .inr (.long, 13), .inr (.long, 13), .inr (.long, 13), .inr (.long, 13), .inl 3, .inr (.int, 221), .inr (.boolean, 13), .inl 7, .inl 6, .inr (.int, 4264), .inr (.int, 328), .inl 0, .inr (.int, 32), .inl 0, .inr (.int, 32), .inl 0, .inr (.int, 32), .inl 0, .inr (.int, 32), .inl 0, .inr (.int, 32), .inl 0, .inr (.int, 32), .inl 2, .inr (.int, 4816), .inr (.int, 4816), .inr (.int, 41), .inr (.int, 14), .inr (.int, 102220), .inl 0, .inr (.int, 32), .inl 0, .inr (.int, 32), .inl 0, .inr (.int, 32), .inl 0, .inr (.int, 32), .inl 0, .inr (.int, 32), .inl 0, .inr (.int, 32), .inl 0, .inr (.int, 32), .inl 0, .inr (.int, 32), .inl 5, .inl 10, .inr (.byte, 1500), .inl 10, .inr (.byte, 30000), .inr (.int, 112), .inl 0, .inr (.int, 32), .inl 0, .inr (.int, 32), .inl 0, .inr (.int, 32), .inl 0, .inr (.int, 32), .inl 0, .inr (.int, 32), .inl 0, .inr (.int, 32), .inl 0, .inr (.int, 32), .inl 0, .inr (.int, 32), .inl 0, .inr (.int, 32), .inl 0, .inr (.int, 32), .inl 0, .inr (.int, 32), .inl 3, .inr (.int, 221), .inr (.boolean, 13), .inl 1, .inl 4, .inl 10, .inr (.byte, 0), .inr (.int, 30001), .inl 6, .inr (.int, 4264), .inr (.int, 328), .inl 0, .inr (.int, 32), .inl 0, .inr (.int, 32), .inl 0, .inr (.int, 32), .inl 0, .inr (.int, 32), .inl 0, .inr (.int, 32), .inl 0, .inr (.int, 32), .inr (.int, 104), .inl 0, .inr (.int, 32), .inl 0, .inr (.int, 32), .inl 0, .inr (.int, 32), .inl 0, .inr (.int, 32), .inl 0, .inr (.int, 32), .inl 0, .inr (.int, 32), .inl 0, .inr (.int, 32), .inl 0, .inr (.int, 32), .inr (.int, 41), .inr (.int, 41), .inr (.int, 328), .inl 3, .inr (.int, 221), .inr (.boolean, 13), .inl 12, .inr (.byte, 30000), .inr (.int, 66), .inr (.int, 66), .inr (.int, 4), .inr (.byte, 576), .inr (.int, 68), .inr (.int, 68), .inr (.int, 68), .inr (.int, 68), .inr (.int, 68), .inr (.int, 68), .inr (.byte, 30000), .inr (.int, 30004), .inr (.int, 30004), .inr (.int, 30004), .inr (.int, 30004), .inr (.int, 700), .inr (.int, 700), .inr (.int, 700), .inr (.int, 700), .inr (.int, 700), .inr (.int, 2100), .inr (.boolean, 13), .inr (.long, 247), .inr (.long, 13), .inr (.long, 1820), .inr (.int, 2), .inr (.boolean, 13), .inr (.long, 13), .inr (.int, 4368), .inr (.int, 5280), .inr (.int, 5280), .inr (.int, 8), .inr (.int, 44), .inr (.int, 15), .inr (.int, 216480), .inr (.int, 328), .inr (.int, 1804), .inr (.int, 615), .inr (.int, 205), .inr (.int, 8), .inr (.int, 8), .inr (.int, 104), .inr (.byte, 34000), .inr (.byte, 36000), .inr (.int, 4), .inr (.int, 336), .inr (.int, 68), .inr (.int, 68), .inr (.int, 104), .inr (.int, 4), .inr (.int, 5460), .inr (.int, 520), .inr (.int, 140), .inr (.int, 10), .inr (.int, 10), .inr (.int, 10), .inr (.int, 10), .inr (.long, 247), .inr (.int, 3002), .inr (.int, 3002), .inr (.int, 3002)]
def tau (k : Nat) : Nat ⊕ (FieldType × Nat) := tauL.getD k (.inl 0)
end
section
/-! The flat memory: places from b on in the order of their making; S = (ints, longs, references) by place and slot or index; tau = what a place is. -/
def tb : List Cond := lw_tbl.filter goodWord
theorem tb_in {w : Cond} (i : Nat) (h : lw_tbl[i]? = some w) (g : goodWord w = true) : w ∈ tb := List.mem_filter.mpr ⟨List.mem_of_getElem? h, g⟩
theorem in_r {ws : List Cond} (ps : List Nat) (hp : ws = ps.filterMap (fun i => lw_tbl[i]?)) (h : ws.all goodWord = true) : ∀ w ∈ ws, w ∈ tb := by
  intro w hw
  have h1 := List.all_eq_true.mp h w hw
  rw [hp] at hw
  obtain ⟨i, -, hi⟩ := List.mem_filterMap.mp hw
  exact tb_in i hi h1
theorem tb_good : GoodIn tb tb := fun _ h => ⟨h, good_of_word (List.mem_filter.mp h).2⟩
def nst_is : Cond → Bool
  | .fieldLinkNest .. => true
  | .methodLinkNest .. => true
  | _ => false
def nst : List Cond := lw_tbl.filter nst_is
theorem nst_in {w : Cond} (i : Nat) (h : lw_tbl[i]? = some w) (g : nst_is w = true) : w ∈ nst := List.mem_filter.mpr ⟨List.mem_of_getElem? h, g⟩
def Nst (U : State) : Prop := ∀ w ∈ nst, va_Nw w U
theorem nst_on {w : Cond} (h : nst_is w = true) : w.onTables = true := by
  cases w <;> first | rfl | (simp [nst_is] at h)
theorem Nst.warm {s U : State} (hW : s.WarmedH U.vm) (h : Nst s) : Nst U := by
  intro w hw
  have h1 := h w hw
  have h2 := (List.mem_filter.mp hw).2
  cases w <;> first | exact va_Nw.warmF hW h1 | exact va_Nw.warmM hW h1 | (simp [nst_is] at h2)
theorem Nst.same {u U : State} (e : u.vm = U.vm) (h : Nst u) : Nst U := fun w hw => va_Nw.same (nst_on (List.mem_filter.mp hw).2) e (h w hw)
abbrev sT : Type := Nat ⊕ (FieldType × Nat)
abbrev sS : Type := (Nat → Nat → Int32) × (Nat → Nat → Int64) × (Nat → Nat → Value)
abbrev sG : Type := va_G × (FieldType → ClassId) × Nat × Heap
def sv (S : sS) (ty : FieldType) (k i : Nat) : Value := match ty with
  | .int => .int (S.1 k i)
  | .boolean => .int (S.1 k i)
  | .byte => .int (S.1 k i)
  | .long => .long (S.2.1 k i)
  | _ => S.2.2 k i
def sI (S : sS) (k i : Nat) (x : Int32) : sS := (fun a j => cond (Nat.beq a k && Nat.beq j i) x (S.1 a j), S.2.1, S.2.2)
def sJ (S : sS) (k i : Nat) (x : Int64) : sS := (S.1, fun a j => cond (Nat.beq a k && Nat.beq j i) x (S.2.1 a j), S.2.2)
def sR (S : sS) (k i : Nat) (x : Value) : sS := (S.1, S.2.1, fun a j => cond (Nat.beq a k && Nat.beq j i) x (S.2.2 a j))
def sOff (S S' : sS) (k i : Nat) : Prop := ∀ (ty : FieldType) (a j : Nat), ¬ (a = k ∧ j = i) → sv S' ty a j = sv S ty a j
theorem beq_off {a j k i : Nat} (h : ¬ (a = k ∧ j = i)) : (Nat.beq a k && Nat.beq j i) = false := by
  cases h1 : Nat.beq a k <;> cases h2 : Nat.beq j i <;> first | rfl | exact absurd ⟨Nat.eq_of_beq_eq_true h1, Nat.eq_of_beq_eq_true h2⟩ h
theorem beq_on {k i : Nat} : (Nat.beq k k && Nat.beq i i) = true := by rw [Nat.beq_refl, Nat.beq_refl]; rfl
theorem sI_off {S : sS} {k i : Nat} {x : Int32} : sOff S (sI S k i x) k i := fun ty a j h => by
  cases ty <;> simp [sv, sI, beq_off h]
theorem sJ_off {S : sS} {k i : Nat} {x : Int64} : sOff S (sJ S k i x) k i := fun ty a j h => by
  cases ty <;> simp [sv, sJ, beq_off h]
theorem sR_off {S : sS} {k i : Nat} {x : Value} : sOff S (sR S k i x) k i := fun ty a j h => by
  cases ty <;> simp [sv, sR, beq_off h]
theorem sI_on {S : sS} {k i : Nat} {x : Int32} : (sI S k i x).1 k i = x := by
  show cond (Nat.beq k k && Nat.beq i i) x _ = x
  rw [beq_on]; rfl
theorem sJ_on {S : sS} {k i : Nat} {x : Int64} : (sJ S k i x).2.1 k i = x := by
  show cond (Nat.beq k k && Nat.beq i i) x _ = x
  rw [beq_on]; rfl
theorem sR_on {S : sS} {k i : Nat} {x : Value} : (sR S k i x).2.2 k i = x := by
  show cond (Nat.beq k k && Nat.beq i i) x _ = x
  rw [beq_on]; rfl
theorem sI_ne {S : sS} {k i a j : Nat} {x : Int32} (h : ¬ (a = k ∧ j = i)) : (sI S k i x).1 a j = S.1 a j := by
  show cond (Nat.beq a k && Nat.beq j i) x _ = _
  rw [beq_off h]; rfl
theorem sR_ne {S : sS} {k i a j : Nat} {x : Value} (h : ¬ (a = k ∧ j = i)) : (sR S k i x).2.2 a j = S.2.2 a j := by
  show cond (Nat.beq a k && Nat.beq j i) x _ = _
  rw [beq_off h]; rfl
def sA (G : sG) (S : sS) (k : Nat) (t : sT) (H : Heap) : Prop := match t with
  | .inl ci => ∃ r : vw_C, vwCl[ci]? = some r ∧ t_OB (G.2.2.1 + k) (G.1.1 ci) r.2.2 (G.1.2 ci) H (fun i => sv S (tyOf ci i) k i)
  | .inr a => H[G.2.2.1 + k]? = some (arrV (G.2.1 a.1) a.2 (fun i => sv S a.1 k i))
/-- a place that is not made yet -/
def sZ (S : sS) (k : Nat) : Prop := (∀ i, S.1 k i = 0) ∧ (∀ i, S.2.1 k i = 0) ∧ ∀ i, S.2.2 k i = .null
def sW (G : sG) (n : Nat) (S : sS) (H : Heap) : Prop := H.size = G.2.2.1 + n ∧ (∀ q, q < G.2.2.1 → H[q]? = G.2.2.2[q]?) ∧ (∀ k, k < n → sA G S k (tau k) H) ∧ ∀ k, n ≤ k → sZ S k
def sOK (ty : FieldType) : Bool := match ty with
  | .int => true
  | .boolean => true
  | .byte => true
  | .long => true
  | .object _ => true
  | .array _ => true
  | _ => false
theorem sZ.dflt {S : sS} {k : Nat} (h : sZ S k) {ty : FieldType} (ok : sOK ty = true) (i : Nat) : sv S ty k i = defaultValue ty := by
  cases ty <;> first | (simp [sOK] at ok; done) | exact congrArg Value.int (h.1 i) | exact congrArg Value.long (h.2.1 i) | exact h.2.2 i
theorem sOff.z {S S' : sS} {k i a : Nat} (ho : sOff S S' k i) (h : a ≠ k) (hz : sZ S a) : sZ S' a := by
  refine ⟨fun j => ?_, fun j => ?_, fun j => ?_⟩
  · have h1 : Value.int (S'.1 a j) = Value.int (S.1 a j) := ho .int a j (fun q => h q.1)
    rw [Value.int.inj h1]; exact hz.1 j
  · have h1 : Value.long (S'.2.1 a j) = Value.long (S.2.1 a j) := ho .long a j (fun q => h q.1)
    rw [Value.long.inj h1]; exact hz.2.1 j
  · have h1 : S'.2.2 a j = S.2.2 a j := ho (.object "") a j (fun q => h q.1)
    rw [h1]; exact hz.2.2 j
def sTy (G : sG) : List (ClassId × FieldType) := [(G.2.1 .int, .int), (G.2.1 .long, .long), (G.2.1 .byte, .byte), (G.2.1 .boolean, .boolean), (G.2.1 (.array .long), .array .long)]
theorem overA_spec {args : Array Value} {first s : State} {o : Option Outcome} {idx : List Nat} (h : (Cond.arrayOver (.array .long)).holds args first o s idx = true) :
    ∃ comp c k, s.vm.findClass (FieldType.array .long).toString = some comp ∧ (s.vm.classes.findIdx? fun (x : Class) => match x.kind with | .array component _ => component == comp | _ => false) = some c ∧ s.vm.classes[c]? = some k ∧ k.kind = .array comp (.array .long) ∧
      s.vm.findClass ("[" ++ (FieldType.array .long).toString) = some c := by
  simp only [Cond.holds, Cond.value, beq_iff_eq] at h
  cases hc : s.vm.findClass (FieldType.array .long).toString with
  | none => simp [hc] at h
  | some comp =>
    simp only [hc, Option.bind_some, Option.bind_eq_some_iff, Option.map_eq_some_iff] at h
    obtain ⟨c, hi, k, hk, hb⟩ := h
    obtain ⟨hlt, hp, -⟩ := Array.findIdx?_eq_some_iff_getElem.mp hi
    have hkk : s.vm.classes[c] = k := (Array.getElem?_eq_some_iff.mp hk).2
    rw [hkk] at hp
    cases hkind : k.kind with
    | array component ty =>
      rw [hkind] at hb hp
      simp at hb hp
      exact ⟨comp, c, k, rfl, hi, hk, by rw [hkind, hp, hb.1], hb.2⟩
    | _ => rw [hkind] at hb; simp at hb
/-- the class of the rows of rows -/
def sO (U : State) : Prop := (Cond.arrayOver (.array .long)).before #[] U = true
theorem sO.moved {u U : State} (hvm : u.vm.Alike U.vm) (h : sO u) : sO U := by
  obtain ⟨comp, c, k, h1, h2, h3, h4, h5⟩ := overA_spec h
  obtain ⟨k', hk', he⟩ := hvm.2.2 _ _ h3
  have hi : (U.vm.classes.findIdx? fun (x : Class) => match x.kind with | .array component _ => component == comp | _ => false) = some c := by
    have e1 := va_idx_bare U.vm comp
    have e2 := va_idx_bare u.vm comp
    have e3 : U.vm.bare = u.vm.bare := by first | exact hvm.bare_eq | exact hvm.bare_eq.symm
    rw [e3] at e1
    exact e1.symm.trans (e2.trans h2)
  have hkind : k'.kind = .array comp (.array .long) := by rw [he]; exact h4
  have f1 : U.vm.findClass (FieldType.array .long).toString = some comp := by rw [hvm.findClass]; exact h1
  have f2 : U.vm.findClass ("[" ++ (FieldType.array .long).toString) = some c := by rw [hvm.findClass]; exact h5
  unfold sO Cond.before Cond.holds
  simp only [Cond.value]
  rw [f1, Option.bind_some]
  refine (congrArg (fun o : Option Nat => (o.bind (fun c => (U.vm.classes[c]?).map fun (k : Class) => match k.kind with | .array _ ty => decide (ty = FieldType.array .long) && decide (U.vm.findClass ("[" ++ (FieldType.array .long).toString) = some c) | _ => false) == some true)) hi).trans ?_
  simp [hk', hkind, f2]
def sK (G : sG) (U : State) : Prop := va_K G.1 vwCl (sTy G) U ∧ Nst U ∧ sO U
theorem sK.warm {G : sG} {s U : State} (hW : s.WarmedH U.vm) (h : sK G s) : sK G U := ⟨va_K.moved hW.alike h.1, h.2.1.warm hW, h.2.2.moved hW.alike⟩
def sF (G : sG) : Addr → Prop := fun q => G.2.2.1 ≤ q
def sL (G : sG) (locs : List Loc) : Prop := ∀ q ∈ locs, sF G q.base
theorem sL_nil {G : sG} : sL G [] := fun _ h => by cases h
theorem sL_put {G : sG} {locs : List Loc} {k i : Nat} (h : sL G locs) : sL G (locs ++ [⟨G.2.2.1 + k, i⟩]) := fun q hq => by
  rcases List.mem_append.mp hq with h1 | h1
  · exact h q h1
  · rw [List.mem_singleton.mp h1]; exact Nat.le_add_right _ _
theorem sL_app {G : sG} {locs L : List Loc} (h : sL G locs) (h2 : ∀ q ∈ L, sF G q.base) : sL G (locs ++ L) := fun q hq => by
  rcases List.mem_append.mp hq with h1 | h1
  · exact h q h1
  · exact h2 q h1
theorem sA.kept {G : sG} {S S' : sS} {k : Nat} {t : sT} {H H' : Heap} (h : sA G S k t H) (hq : H'[G.2.2.1 + k]? = H[G.2.2.1 + k]?) (hs : ∀ ty i, sv S' ty k i = sv S ty k i) : sA G S' k t H' := by
  cases t with
  | inl ci =>
    obtain ⟨r, h1, h2⟩ := h
    exact ⟨r, h1, (h2.kept hq).to (fun i _ => (hs _ i).symm)⟩
  | inr a =>
    show H'[G.2.2.1 + k]? = some _
    rw [hq]
    exact Eq.trans h (congrArg some (congrArg (arrV _ _) (funext fun i => (hs _ i).symm)))
/-- one slot of one place has changed -/
theorem sW.set {G : sG} {n : Nat} {S S' : sS} {H H' : Heap} {k i : Nat} (h : sW G n S H) (hkn : k < n) (ho : sOff S S' k i) (hz : H'.size = H.size) (hq : ∀ q, q ≠ G.2.2.1 + k → H'[q]? = H[q]?) (hk : sA G S' k (tau k) H') : sW G n S' H' := by
  refine ⟨hz.trans h.1, fun q h1 => (hq q (by omega)).trans (h.2.1 q h1), fun a ha => ?_, fun a ha => ho.z (by omega) (h.2.2.2 a ha)⟩
  by_cases e : a = k
  · subst e; exact hk
  · exact (h.2.2.1 a ha).kept (hq _ (by omega)) (fun ty j => ho ty a j (fun q => e q.1))
def sC (G : sG) (p : Program) (m : MethodId) (c : Code) (cc : ByteArray) (nL : Nat) (s : State) (args : Array Value) (own : String) : Prop := CallFix p m c cc nL s args tb own ∧ sK G s
def sPc (G : sG) (n : Nat) (S : sS) (av : List Value) : Array Value → State → Prop := fun v U => v = av.toArray ∧ sW G n S U.heap ∧ sK G U
def sQi (G : sG) (n : Nat) (post : Int32 → sS → Prop) : Array Value → State → Outcome → State → Prop := fun _ _ oc t => ∃ (r : Int32) (u : sS), oc = .returned (some (.int r)) ∧ post r u ∧ sW G n u t.heap
def sQl (G : sG) (n : Nat) (post : Int64 → sS → Prop) : Array Value → State → Outcome → State → Prop := fun _ _ oc t => ∃ (r : Int64) (u : sS), oc = .returned (some (.long r)) ∧ post r u ∧ sW G n u t.heap
def sQv (G : sG) (n : Nat) (post : sS → Prop) : Array Value → State → Outcome → State → Prop := fun _ _ oc t => ∃ u : sS, oc = .returned none ∧ post u ∧ sW G n u t.heap
def rmk (d mc ms : Nat) : Room := { frames := d, cells := mc, slots := ms, locals := 64 * d }
theorem sPc_blind {G : sG} {n : Nat} {S : sS} {av : List Value} : FrameBlind (sPc G n S av) := fun a U g mk q => ⟨q.1, q.2.1, va_K.moved (u := U) (U := U.calling g mk a) (Vm.Alike.refl U.vm) q.2.2.1, Nst.same (u := U) (U := U.calling g mk a) rfl q.2.2.2.1, sO.moved (u := U) (U := U.calling g mk a) (Vm.Alike.refl U.vm) q.2.2.2.2⟩
theorem sEnter {l : Launch} {y : MethodName} {cc : ByteArray} {maxL : Nat} {ret : Option FieldType} {G : sG} {n : Nat} {S : sS} {av : List Value} {rm : Room} {Qc : Array Value → State → Outcome → State → Prop} {mc ms : Nat} (hy : plainName y.cls = true) (hlen : (lg_sl av).length ≤ maxL)
    (body : ∀ (p : Program) (e : Env) (s : State) (m : MethodId) (args : Array Value) (below : List Frame) (meth : Method) (c : Code), sC G p m c cc maxL s args y.cls → meth.sig.returnType = ret → meth.locks = false → meth.name = y.name → sW G n S s.heap → ∀ ls : Array Slot, lv_has ls maxL (lv_args 0 av) →
      W p l e rm s m args below meth c s.heap [] 0 0 (MQ below Qc args s mc ms (sF G)) (F0 m 0 ls [])) : Met l y (.code y cc maxL ret :: tb) rm (sPc G n S av) Qc mc ms (sF G) := by
  refine Met.ofW (cc := cc) (maxL := maxL) (ret := ret) hy rfl ?_
  intro p e s m args below meth c s₁ B hml hv
  obtain ⟨rfl, hW, hK⟩ := hv
  have hts := atoms_spec (ws := Cond.code y cc maxL ret :: tb) B.pre
  have hl := lv_entry av hlen
  rw [lg_entry_eq]
  exact body p e s m _ below meth c ⟨⟨B.exec, B.bytes, hml, findClass_of_methodNamed B.named, fun w hw => hts w (List.mem_cons_of_mem _ hw)⟩, hK⟩ B.returns B.notSynchronized (name_of_methodNamed B.named B.method).1 hW _ hl
section SV
variable {p : Program} {l : Launch} {e : Env} {R : Room} {s : State} {m : MethodId} {args : Array Value} {below : List Frame} {meth : Method} {c : Code} {H : Heap} {locs : List Loc} {cells slots : Nat} {Q : State → Prop}
variable {cc : ByteArray} {pc nL : Nat} {ls : Array Slot} {rest st0 : List Value} {G : sG} {n : Nat} {S : sS} {own : String}
theorem sGet (Cx : sC G p m c cc nL s args own) {C : String} {T : u_T} {N ci index : Nat} (hin : ∀ w ∈ u_ws C T N, w ∈ tb) (hc : vwCl[ci]? = some (C, T, N)) (i : Nat) (hi : i < N) (hl : Cond.fieldLink own index (T i).1 (T i).2.1 (T i).2.2.1 ∈ tb) (hW : sW G n S H) {k : Nat} (hk : k < n) (ht : tau k = .inl ci) {v : Value} (hv : sv S (tyOf ci i) k i = v) (hdg : decode cc pc = .ok (.getfield index, 3))
    (kk : W p l e R s m args below meth c H locs cells slots Q (F0 m (pc + 3) ls (v :: rest))) : W p l e R s m args below meth c H locs cells slots Q (F0 m pc ls (.ref (G.2.2.1 + k) :: rest)) := by
  obtain ⟨⟨hx, hb, hml, hown, hts⟩, hK, -⟩ := Cx
  have hat := hW.2.2.1 k hk
  rw [ht] at hat
  obtain ⟨r, h1, cell, q1, q2, q3, q4⟩ := hat
  have hr : r = (C, T, N) := Option.some.inj (h1.symm.trans hc)
  subst hr
  obtain ⟨hS, hfc, kC, hkC, hkind⟩ := hK.1 ci _ hc
  obtain ⟨cf, kf, fi, f, hf, hsl⟩ := hS i hi
  refine W.getf hx hb hown (hts _ hl) hf (u_facts hfc hkC (u_lays hts hin hi) hf).1 q1 (by rw [q3]; exact fun h => by cases h) (v := v) ?_ rfl rfl hdg kk
  rw [hsl, q4 i hi]
  exact congrArg some hv
theorem sGetN (Cx : sC G p m c cc nL s args own) {C host : String} {T : u_T} {N ci index : Nat} (hin : ∀ w ∈ u_ws C T N, w ∈ tb) (hc : vwCl[ci]? = some (C, T, N)) (i : Nat) (hi : i < N) (hl : Cond.fieldLinkNest own index (T i).1 (T i).2.1 (T i).2.2.1 host ∈ nst) (hW : sW G n S H) {k : Nat} (hk : k < n) (ht : tau k = .inl ci) {v : Value} (hv : sv S (tyOf ci i) k i = v) (hdg : decode cc pc = .ok (.getfield index, 3))
    (kk : W p l e R s m args below meth c H locs cells slots Q (F0 m (pc + 3) ls (v :: rest))) : W p l e R s m args below meth c H locs cells slots Q (F0 m pc ls (.ref (G.2.2.1 + k) :: rest)) := by
  obtain ⟨⟨hx, hb, hml, hown, hts⟩, hK, hN, -⟩ := Cx
  have hat := hW.2.2.1 k hk
  rw [ht] at hat
  obtain ⟨r, h1, cell, q1, q2, q3, q4⟩ := hat
  have hr : r = (C, T, N) := Option.some.inj (h1.symm.trans hc)
  subst hr
  obtain ⟨hS, hfc, kC, hkC, hkind⟩ := hK.1 ci _ hc
  obtain ⟨cf, kf, fi, f, hf, hsl⟩ := hS i hi
  refine va_Wgetf hx hb hown (va_Nw.use rfl (hN _ hl)) hf (u_facts hfc hkC (u_lays hts hin hi) hf).1 q1 (by rw [q3]; exact fun h => by cases h) (v := v) ?_ rfl rfl hdg kk
  rw [hsl, q4 i hi]
  exact congrArg some hv
theorem sA_put {G : sG} {S S' : sS} {k i ci N : Nat} {C : String} {T : u_T} {H' : Heap} {cell : Cell} {v : Value} (hc : vwCl[ci]? = some (C, T, N)) (ht : tau k = .inl ci) (q2 : cell.cls = G.1.1 ci) (q3 : cell.vm = .none) (q4 : ∀ j, j < N → cell.slots[G.1.2 ci j]? = some (sv S (tyOf ci j) k j)) (hap : ∀ a b, a < N → b < N → a ≠ b → G.1.2 ci a ≠ G.1.2 ci b) (hi : i < N) (e1 : H'[G.2.2.1 + k]? = some (cell.setSlot (G.1.2 ci i) v)) (ho : sOff S S' k i) (hv : sv S' (tyOf ci i) k i = v) : sA G S' k (tau k) H' := by
  rw [ht]
  refine ⟨_, hc, t_OB.to (V := updV (fun j => sv S (tyOf ci j) k j) i v) ⟨_, e1, q2, q3, t_set q4 hap hi v⟩ (fun j _ => ?_)⟩
  unfold updV
  by_cases e : j = i
  · subst e; rw [if_pos rfl, hv]
  · rw [if_neg e]; exact (ho _ k j (fun q => e q.2)).symm
theorem sPut (Cx : sC G p m c cc nL s args own) {C : String} {T : u_T} {N ci index : Nat} (hin : ∀ w ∈ u_ws C T N, w ∈ tb) (ty0 : Nat → FieldType) (hty : ∀ k, k < N → parseFieldDescriptor (T k).2.2.1 = some (ty0 k)) (hnm : ∀ a, a < N → ∀ b, b < N → a ≠ b → (T a).2.1 ≠ (T b).2.1) (hc : vwCl[ci]? = some (C, T, N)) (i : Nat) (hi : i < N) (hl : Cond.fieldLink own index (T i).1 (T i).2.1 (T i).2.2.1 ∈ tb) (hfin : (T i).2.2.2 = false) (hW : sW G n S H) (hL : sL G locs) {k : Nat} (hk : k < n) (ht : tau k = .inl ci)
    {v : Value} (hn : narrow (ty0 i) v = v) (hfit : fits (ty0 i) v = true) {S' : sS} (ho : sOff S S' k i) (hv : sv S' (tyOf ci i) k i = v) (hdg : decode cc pc = .ok (.putfield index, 3))
    (kk : ∀ (H1 : Heap) (locs1 : List Loc), sW G n S' H1 → sL G locs1 → W p l e R s m args below meth c H1 locs1 cells slots Q (F0 m (pc + 3) ls rest)) : W p l e R s m args below meth c H locs cells slots Q (F0 m pc ls (v :: .ref (G.2.2.1 + k) :: rest)) := by
  obtain ⟨⟨hx, hb, hml, hown, hts⟩, hK, -⟩ := Cx
  have hap := va_apart (own := own) hts hin ty0 hty hnm hK hc
  have hat := hW.2.2.1 k hk
  rw [ht] at hat
  obtain ⟨r, h1, cell, q1, q2, q3, q4⟩ := hat
  have hr : r = (C, T, N) := Option.some.inj (h1.symm.trans hc)
  subst hr
  obtain ⟨hS, hfc, kC, hkC, hkind⟩ := hK.1 ci _ hc
  obtain ⟨cf, kf, fi, f, hf, hsl⟩ := hS i hi
  have hlay := hts _ (hin _ (u_in_lay hi))
  unfold u_lay at hlay
  rw [if_neg (by rw [hfin]; decide)] at hlay
  have hst := (u_facts hfc hkC (u_lays hts hin hi) hf).1
  have h6 := u_store hfc hkC hkind hlay hf (hty i hi) hn hfit
  refine W.putK hx hb (f := f) ⟨hown, hts _ hl, ⟨_, _, _, hf⟩, hst⟩ (by rw [q2]; exact h6) q1 q3 (by rw [hsl]; exact k2_hasslot (q4 i hi)) rfl rfl hdg fun H' e1 e2 e3 => ?_
  rw [hsl] at e1 ⊢
  exact kk H' _ (hW.set hk ho e2 e3 (sA_put hc ht q2 q3 q4 hap hi e1 ho hv)) (sL_put hL)
theorem sPutN (Cx : sC G p m c cc nL s args own) {C host : String} {T : u_T} {N ci index : Nat} (hin : ∀ w ∈ u_ws C T N, w ∈ tb) (ty0 : Nat → FieldType) (hty : ∀ k, k < N → parseFieldDescriptor (T k).2.2.1 = some (ty0 k)) (hnm : ∀ a, a < N → ∀ b, b < N → a ≠ b → (T a).2.1 ≠ (T b).2.1) (hc : vwCl[ci]? = some (C, T, N)) (i : Nat) (hi : i < N) (hl : Cond.fieldLinkNest own index (T i).1 (T i).2.1 (T i).2.2.1 host ∈ nst) (hfin : (T i).2.2.2 = false) (hW : sW G n S H) (hL : sL G locs) {k : Nat} (hk : k < n) (ht : tau k = .inl ci)
    {v : Value} (hn : narrow (ty0 i) v = v) (hfit : fits (ty0 i) v = true) {S' : sS} (ho : sOff S S' k i) (hv : sv S' (tyOf ci i) k i = v) (hdg : decode cc pc = .ok (.putfield index, 3))
    (kk : ∀ (H1 : Heap) (locs1 : List Loc), sW G n S' H1 → sL G locs1 → W p l e R s m args below meth c H1 locs1 cells slots Q (F0 m (pc + 3) ls rest)) : W p l e R s m args below meth c H locs cells slots Q (F0 m pc ls (v :: .ref (G.2.2.1 + k) :: rest)) := by
  obtain ⟨⟨hx, hb, hml, hown, hts⟩, hK, hN, -⟩ := Cx
  have hap := va_apart (own := own) hts hin ty0 hty hnm hK hc
  have hat := hW.2.2.1 k hk
  rw [ht] at hat
  obtain ⟨r, h1, cell, q1, q2, q3, q4⟩ := hat
  have hr : r = (C, T, N) := Option.some.inj (h1.symm.trans hc)
  subst hr
  obtain ⟨hS, hfc, kC, hkC, hkind⟩ := hK.1 ci _ hc
  obtain ⟨cf, kf, fi, f, hf, hsl⟩ := hS i hi
  have hlay := hts _ (hin _ (u_in_lay hi))
  unfold u_lay at hlay
  rw [if_neg (by rw [hfin]; decide)] at hlay
  have hst := (u_facts hfc hkC (u_lays hts hin hi) hf).1
  have h6 := u_store hfc hkC hkind hlay hf (hty i hi) hn hfit
  refine va_WputK hx hb (f := f) hown (va_Nw.use rfl (hN _ hl)) hf hst (by rw [q2]; exact h6) q1 q3 (by rw [hsl]; exact k2_hasslot (q4 i hi)) rfl rfl hdg fun H' e1 e2 e3 => ?_
  rw [hsl] at e1 ⊢
  exact kk H' _ (hW.set hk ho e2 e3 (sA_put hc ht q2 q3 q4 hap hi e1 ho hv)) (sL_put hL)
theorem sPutF (Cx : sC G p m c cc nL s args own) {C : String} {T : u_T} {N ci index : Nat} (hin : ∀ w ∈ u_ws C T N, w ∈ tb) (ty0 : Nat → FieldType) (hty : ∀ k, k < N → parseFieldDescriptor (T k).2.2.1 = some (ty0 k)) (hnm : ∀ a, a < N → ∀ b, b < N → a ≠ b → (T a).2.1 ≠ (T b).2.1) (hc : vwCl[ci]? = some (C, T, N)) (i : Nat) (hi : i < N) (hl : Cond.fieldLink own index (T i).1 (T i).2.1 (T i).2.2.1 ∈ tb) (hfin : (T i).2.2.2 = true) (hdecl : (T i).1 = own) (hin2 : meth.name = "<init>") (hW : sW G n S H) (hL : sL G locs) {k : Nat} (hk : k < n) (ht : tau k = .inl ci)
    {v : Value} (hn : narrow (ty0 i) v = v) (hfit : fits (ty0 i) v = true) {S' : sS} (ho : sOff S S' k i) (hv : sv S' (tyOf ci i) k i = v) (hdg : decode cc pc = .ok (.putfield index, 3))
    (kk : ∀ (H1 : Heap) (locs1 : List Loc), sW G n S' H1 → sL G locs1 → W p l e R s m args below meth c H1 locs1 cells slots Q (F0 m (pc + 3) ls rest)) : W p l e R s m args below meth c H locs cells slots Q (F0 m pc ls (v :: .ref (G.2.2.1 + k) :: rest)) := by
  obtain ⟨⟨hx, hb, hml, hown, hts⟩, hK, -⟩ := Cx
  have hap := va_apart (own := own) hts hin ty0 hty hnm hK hc
  have hat := hW.2.2.1 k hk
  rw [ht] at hat
  obtain ⟨r, h1, cell, q1, q2, q3, q4⟩ := hat
  have hr : r = (C, T, N) := Option.some.inj (h1.symm.trans hc)
  subst hr
  obtain ⟨hS, hfc, kC, hkC, hkind⟩ := hK.1 ci _ hc
  obtain ⟨cf, kf, fi, f, hf, hsl⟩ := hS i hi
  have hlay := hts _ (hin _ (u_in_lay hi))
  unfold u_lay at hlay
  rw [if_pos hfin] at hlay
  have hst := (u_facts hfc hkC (u_lays hts hin hi) hf).1
  have hcf : m.cls = cf := by
    obtain ⟨_, _, c', _, _, _, -, -, hf', -, -, -, hown2, -⟩ := Cond.laysFinal_spec hlay
    have e1 : c' = cf := by have := hf.symm.trans hf'; simp at this; exact this.1.symm
    rw [hdecl] at hown2
    rw [← e1]; exact Option.some.inj (hown.symm.trans hown2)
  have h6 := u_fits hfc hkC hkind (Or.inr hlay) hf (hty i hi) hn hfit
  refine W.putFinK hx hb hown (hts _ hl) hf hst hcf hin2 (by rw [q2]; exact h6) q1 q3 (by rw [hsl]; exact k2_hasslot (q4 i hi)) rfl rfl hdg fun H' e1 e2 e3 => ?_
  rw [hsl] at e1 ⊢
  exact kk H' _ (hW.set hk ho e2 e3 (sA_put hc ht q2 q3 q4 hap hi e1 ho hv)) (sL_put hL)
/-- a new object: nothing changes but the number of places -/
theorem sNew (Cx : sC G p m c cc nL s args own) {C : String} {T : u_T} {N ci index : Nat} (hin : ∀ w ∈ u_ws C T N, w ∈ tb) (hty : ∀ k, k < N → parseFieldDescriptor (T k).2.2.1 = some (tyOf ci k)) (hc : vwCl[ci]? = some (C, T, N)) (hcl : Cond.classLink own index C ∈ tb) (hins : Cond.instantiable C N ∈ tb) (hini : Cond.initialized C ∈ tb) (hW : sW G n S H) (ht : tau n = .inl ci) (hok : ∀ i, i < N → sOK (tyOf ci i) = true) (hcells : cells + 1 ≤ R.cells) (hslots : slots + N ≤ R.slots) (hdg : decode cc pc = .ok (.new index, 3))
    (kk : ∀ H1 : Heap, sW G (n + 1) S H1 → W p l e R s m args below meth c H1 locs (cells + 1) (slots + N) Q (F0 m (pc + 3) ls (.ref (G.2.2.1 + n) :: rest))) : W p l e R s m args below meth c H locs cells slots Q (F0 m pc ls rest) := by
  obtain ⟨⟨hx, hb, hml, hown, hts⟩, hK, -⟩ := Cx
  have hKn := hK.1 ci _ hc
  refine W.newcK hx hb hown (hts _ hcl) (hts _ hins) (hts _ hini) rfl hdg hcells hslots hKn.2.1 hW.1 fun H1 kC hkC e1 z1 o1 => ?_
  refine kk H1 ⟨z1, fun q hq => (o1 q (by omega)).trans (hW.2.1 q hq), fun k hk => ?_, fun k hk => hW.2.2.2 k (by omega)⟩
  by_cases e : k = n
  · subst e
    rw [ht]
    exact ⟨_, hc, (u_born (tyOf ci) hts hin hKn hkC e1 hty).to (fun i hi => ((hW.2.2.2 k (Nat.le_refl k)).dflt (hok i hi) i).symm)⟩
  · exact (hW.2.2.1 k (by omega)).kept (o1 _ (by omega)) (fun _ _ => rfl)
theorem sArr {U : State} (hK : va_K G.1 vwCl (sTy G) U) {ty : FieldType} (t0 : Nat) (h : (sTy G)[t0]? = some (G.2.1 ty, ty)) : ArrOfT U (G.2.1 ty) ty ∧ va_RA U (G.2.1 ty) ty := hK.2 t0 _ h
theorem sNewa (Cx : sC G p m c cc nL s args own) {atype : ArrayType} {ty : FieldType} (hty : newarray.typeOf atype = ty) (t0 : Nat) (ht0 : (sTy G)[t0]? = some (G.2.1 ty, ty)) (hra : ∀ U : State, va_RA U (G.2.1 ty) ty → U.vm.findClass ("[" ++ ty.toString) = some (G.2.1 ty)) (harr : Cond.arrayClass ty ∈ tb) (hW : sW G n S H) {x : Int32} {N : Nat} (ht : tau n = .inr (ty, N)) (hok : sOK ty = true) (hn : ¬ x < 0) (hN : x.toNatClampNeg = N) (hbytes : N * componentBytes ty ≤ 536870912) (hcells : cells + 1 ≤ R.cells) (hslots : slots + N ≤ R.slots) (hdg : decode cc pc = .ok (.newarray atype, 2))
    (kk : ∀ H1 : Heap, sW G (n + 1) S H1 → W p l e R s m args below meth c H1 locs (cells + 1) (slots + N) Q (F0 m (pc + 2) ls (.ref (G.2.2.1 + n) :: rest))) : W p l e R s m args below meth c H locs cells slots Q (F0 m pc ls (.int x :: rest)) := by
  obtain ⟨⟨hx, hb, hml, hown, hts⟩, hK, -⟩ := Cx
  subst hty
  refine va_newaK hx hb (hts _ harr) rfl hdg rfl hn hN hbytes hcells hslots hW.1 fun H1 cA e1 z1 o1 hAr hNm => ?_
  have hcA : cA = G.2.1 (newarray.typeOf atype) := Option.some.inj (hNm.symm.trans (hra s (sArr hK t0 ht0).2))
  refine kk H1 ⟨z1, fun q hq => (o1 q (by omega)).trans (hW.2.1 q hq), fun k hk => ?_, fun k hk => hW.2.2.2 k (by omega)⟩
  by_cases e : k = n
  · subst e
    rw [ht]
    show H1[_]? = some (arrV (G.2.1 (newarray.typeOf atype)) N (fun i => sv S (newarray.typeOf atype) k i))
    rw [e1, hcA]
    unfold arrV
    congr 2
    congr 1
    funext j
    exact ((hW.2.2.2 k (Nat.le_refl k)).dflt hok j.val).symm
  · exact (hW.2.2.1 k (by omega)).kept (o1 _ (by omega)) (fun _ _ => rfl)
end SV
section SV2
variable {p : Program} {l : Launch} {e : Env} {R : Room} {s : State} {m : MethodId} {args : Array Value} {below : List Frame} {meth : Method} {c : Code} {H : Heap} {locs : List Loc} {cells slots : Nat} {Q : State → Prop}
variable {cc : ByteArray} {pc nL : Nat} {ls : Array Slot} {rest st0 : List Value} {G : sG} {n : Nat} {S : sS} {own : String}
theorem sW.arr (hW : sW G n S H) {k N : Nat} {ty : FieldType} (hk : k < n) (ht : tau k = .inr (ty, N)) : H[G.2.2.1 + k]? = some (arrV (G.2.1 ty) N (fun i => sv S ty k i)) := by
  have hat := hW.2.2.1 k hk
  rw [ht] at hat
  exact hat
theorem sA_ast {G : sG} {S S' : sS} {k j N : Nat} {ty : FieldType} {H' : Heap} {v : Value} (ht : tau k = .inr (ty, N)) (e1 : H'[G.2.2.1 + k]? = some ((arrV (G.2.1 ty) N (fun i => sv S ty k i)).setSlot j v)) (ho : sOff S S' k j) (hv : sv S' ty k j = v) : sA G S' k (tau k) H' := by
  rw [ht]
  show H'[G.2.2.1 + k]? = some (arrV (G.2.1 ty) N (fun i => sv S' ty k i))
  rw [e1, arrV_store]
  congr 2
  funext q
  unfold updV
  by_cases h : q = j
  · subst h; rw [if_pos rfl, hv]
  · rw [if_neg h]; exact (ho _ k q (fun z => h z.2)).symm
theorem vp_c {i : Int32} {N : Nat} (h : (decide (i < 0) || Nat.ble N i.toNatClampNeg) = false) : vp_in i N := fun q => by
  rw [Bool.or_eq_false_iff] at h
  rcases q with q | q
  · exact absurd q (of_decide_eq_false h.1)
  · have := Nat.ble_eq.mpr q
    rw [h.2] at this
    cases this
theorem sCi {x v : Int32} (h : x = v) (kk : W p l e R s m args below meth c H locs cells slots Q (F0 m pc ls (.int v :: rest))) : W p l e R s m args below meth c H locs cells slots Q (F0 m pc ls (.int x :: rest)) := by
  subst h
  exact kk
theorem sIald (Cx : sC G p m c cc nL s args own) (hW : sW G n S H) {k N : Nat} (hk : k < n) (ht : tau k = .inr (.int, N)) {i : Int32} {j : Nat} (hj : i.toNatClampNeg = j) (hin : vp_in i N) {v : Int32} (hv : S.1 k j = v) (hdg : decode cc pc = .ok (.iaload, 1))
    (kk : W p l e R s m args below meth c H locs cells slots Q (F0 m (pc + 1) ls (.int v :: rest))) : W p l e R s m args below meth c H locs cells slots Q (F0 m pc ls (.int i :: .ref (G.2.2.1 + k) :: rest)) := by
  obtain ⟨⟨hx, hb, hml, hown, hts⟩, hK, -⟩ := Cx
  have hlt : i.toNatClampNeg < N := Nat.not_le.mp fun q => hin (Or.inr q)
  subst hj
  subst hv
  exact W.iald (v := .int (S.1 k i.toNatClampNeg)) hx hb (hW.arr hk ht) ((sArr hK 0 rfl).1 N _) (fun q => by cases q) (by show ¬ (i < 0 ∨ (arrV _ _ _).slots.size ≤ _); rw [arrV_size]; exact hin) (by show (arrV _ _ _).slots[_]? = _; rw [arrV_read _ _ hlt]; rfl) rfl rfl hdg kk
theorem sBald (Cx : sC G p m c cc nL s args own) (hW : sW G n S H) {k N : Nat} (hk : k < n) (ht : tau k = .inr (.byte, N)) {i : Int32} {j : Nat} (hj : i.toNatClampNeg = j) (hin : vp_in i N) {v : Int32} (hv : S.1 k j = v) (hdg : decode cc pc = .ok (.baload, 1))
    (kk : W p l e R s m args below meth c H locs cells slots Q (F0 m (pc + 1) ls (.int v :: rest))) : W p l e R s m args below meth c H locs cells slots Q (F0 m pc ls (.int i :: .ref (G.2.2.1 + k) :: rest)) := by
  obtain ⟨⟨hx, hb, hml, hown, hts⟩, hK, -⟩ := Cx
  have hlt : i.toNatClampNeg < N := Nat.not_le.mp fun q => hin (Or.inr q)
  subst hj
  subst hv
  exact W.bald (v := .int (S.1 k i.toNatClampNeg)) hx hb (hW.arr hk ht) ((sArr hK 2 rfl).1 N _) (fun q => by cases q) (by show ¬ (i < 0 ∨ (arrV _ _ _).slots.size ≤ _); rw [arrV_size]; exact hin) (by show (arrV _ _ _).slots[_]? = _; rw [arrV_read _ _ hlt]; rfl) rfl rfl hdg kk
theorem sZald (Cx : sC G p m c cc nL s args own) (hW : sW G n S H) {k N : Nat} (hk : k < n) (ht : tau k = .inr (.boolean, N)) {i : Int32} {j : Nat} (hj : i.toNatClampNeg = j) (hin : vp_in i N) {v : Int32} (hv : S.1 k j = v) (hdg : decode cc pc = .ok (.baload, 1))
    (kk : W p l e R s m args below meth c H locs cells slots Q (F0 m (pc + 1) ls (.int v :: rest))) : W p l e R s m args below meth c H locs cells slots Q (F0 m pc ls (.int i :: .ref (G.2.2.1 + k) :: rest)) := by
  obtain ⟨⟨hx, hb, hml, hown, hts⟩, hK, -⟩ := Cx
  have hlt : i.toNatClampNeg < N := Nat.not_le.mp fun q => hin (Or.inr q)
  subst hj
  subst hv
  exact W.zald (v := .int (S.1 k i.toNatClampNeg)) hx hb (hW.arr hk ht) ((sArr hK 3 rfl).1 N _) (fun q => by cases q) (by show ¬ (i < 0 ∨ (arrV _ _ _).slots.size ≤ _); rw [arrV_size]; exact hin) (by show (arrV _ _ _).slots[_]? = _; rw [arrV_read _ _ hlt]; rfl) rfl rfl hdg kk
theorem sLald (Cx : sC G p m c cc nL s args own) (hW : sW G n S H) {k N : Nat} (hk : k < n) (ht : tau k = .inr (.long, N)) {i : Int32} {j : Nat} (hj : i.toNatClampNeg = j) (hin : vp_in i N) {v : Int64} (hv : S.2.1 k j = v) (hdg : decode cc pc = .ok (.laload, 1))
    (kk : W p l e R s m args below meth c H locs cells slots Q (F0 m (pc + 1) ls (.long v :: rest))) : W p l e R s m args below meth c H locs cells slots Q (F0 m pc ls (.int i :: .ref (G.2.2.1 + k) :: rest)) := by
  obtain ⟨⟨hx, hb, hml, hown, hts⟩, hK, -⟩ := Cx
  have hlt : i.toNatClampNeg < N := Nat.not_le.mp fun q => hin (Or.inr q)
  subst hj
  subst hv
  exact W.lald (v := .long (S.2.1 k i.toNatClampNeg)) hx hb (hW.arr hk ht) ((sArr hK 1 rfl).1 N _) (fun q => by cases q) (by show ¬ (i < 0 ∨ (arrV _ _ _).slots.size ≤ _); rw [arrV_size]; exact hin) (by show (arrV _ _ _).slots[_]? = _; rw [arrV_read _ _ hlt]; rfl) rfl rfl hdg kk
theorem sIast (Cx : sC G p m c cc nL s args own) (hW : sW G n S H) (hL : sL G locs) {k N : Nat} (hk : k < n) (ht : tau k = .inr (.int, N)) {i x : Int32} {j : Nat} (hj : i.toNatClampNeg = j) (hin : vp_in i N) (hdg : decode cc pc = .ok (.iastore, 1))
    (kk : ∀ (H1 : Heap) (locs1 : List Loc), sW G n (sI S k j x) H1 → sL G locs1 → W p l e R s m args below meth c H1 locs1 cells slots Q (F0 m (pc + 1) ls rest)) : W p l e R s m args below meth c H locs cells slots Q (F0 m pc ls (.int x :: .int i :: .ref (G.2.2.1 + k) :: rest)) := by
  obtain ⟨⟨hx, hb, hml, hown, hts⟩, hK, -⟩ := Cx
  subst hj
  refine W.iast hx hb (hW.arr hk ht) ((sArr hK 0 rfl).1 N _) (fun q => by cases q) (by show ¬ (i < 0 ∨ (arrV _ _ _).slots.size ≤ _); rw [arrV_size]; exact hin) rfl rfl hdg fun H1 e1 z oq => ?_
  exact kk H1 _ (hW.set hk sI_off z oq (sA_ast ht e1 sI_off (congrArg Value.int sI_on))) (sL_put hL)
theorem sBast (Cx : sC G p m c cc nL s args own) (hW : sW G n S H) (hL : sL G locs) {k N : Nat} (hk : k < n) (ht : tau k = .inr (.byte, N)) {i x : Int32} {j : Nat} (hj : i.toNatClampNeg = j) (hin : vp_in i N) {y : Int32} (hy : vp_nar .byte x = y) (hdg : decode cc pc = .ok (.bastore, 1))
    (kk : ∀ (H1 : Heap) (locs1 : List Loc), sW G n (sI S k j y) H1 → sL G locs1 → W p l e R s m args below meth c H1 locs1 cells slots Q (F0 m (pc + 1) ls rest)) : W p l e R s m args below meth c H locs cells slots Q (F0 m pc ls (.int x :: .int i :: .ref (G.2.2.1 + k) :: rest)) := by
  obtain ⟨⟨hx, hb, hml, hown, hts⟩, hK, -⟩ := Cx
  subst hj
  subst hy
  refine W.bast hx hb (hW.arr hk ht) ((sArr hK 2 rfl).1 N _) (fun q => by cases q) (by show ¬ (i < 0 ∨ (arrV _ _ _).slots.size ≤ _); rw [arrV_size]; exact hin) rfl rfl hdg fun H1 e1 z oq => ?_
  exact kk H1 _ (hW.set hk sI_off z oq (sA_ast ht e1 sI_off (congrArg Value.int sI_on))) (sL_put hL)
theorem sLast (Cx : sC G p m c cc nL s args own) (hW : sW G n S H) (hL : sL G locs) {k N : Nat} (hk : k < n) (ht : tau k = .inr (.long, N)) {i : Int32} {x : Int64} {j : Nat} (hj : i.toNatClampNeg = j) (hin : vp_in i N) (hdg : decode cc pc = .ok (.lastore, 1))
    (kk : ∀ (H1 : Heap) (locs1 : List Loc), sW G n (sJ S k j x) H1 → sL G locs1 → W p l e R s m args below meth c H1 locs1 cells slots Q (F0 m (pc + 1) ls rest)) : W p l e R s m args below meth c H locs cells slots Q (F0 m pc ls (.long x :: .int i :: .ref (G.2.2.1 + k) :: rest)) := by
  obtain ⟨⟨hx, hb, hml, hown, hts⟩, hK, -⟩ := Cx
  subst hj
  refine W.last hx hb (hW.arr hk ht) ((sArr hK 1 rfl).1 N _) (fun q => by cases q) (by show ¬ (i < 0 ∨ (arrV _ _ _).slots.size ≤ _); rw [arrV_size]; exact hin) rfl rfl hdg fun H1 e1 z oq => ?_
  exact kk H1 _ (hW.set hk sJ_off z oq (sA_ast ht e1 sJ_off (congrArg Value.long sJ_on))) (sL_put hL)
theorem sAlen (Cx : sC G p m c cc nL s args own) (hW : sW G n S H) {k N : Nat} (hk : k < n) {ty : FieldType} (ht : tau k = .inr (ty, N)) (t0 : Nat) (ht0 : (sTy G)[t0]? = some (G.2.1 ty, ty)) {v : Int32} (hv : Int32.ofNat N = v) (hdg : decode cc pc = .ok (.arraylength, 1))
    (kk : W p l e R s m args below meth c H locs cells slots Q (F0 m (pc + 1) ls (.int v :: rest))) : W p l e R s m args below meth c H locs cells slots Q (F0 m pc ls (.ref (G.2.2.1 + k) :: rest)) := by
  obtain ⟨⟨hx, hb, hml, hown, hts⟩, hK, -⟩ := Cx
  subst hv
  exact W.alen (n := Int32.ofNat N) hx hb (hW.arr hk ht) ((sArr hK t0 ht0).1 N _) (by rw [arrV_size]) rfl rfl hdg kk
theorem sIret {Qc : Int32 → sS → Prop} (Cx : sC G p m c cc nL s args own) (hr : meth.sig.returnType = some .int) (hlk : meth.locks = false) (hW : sW G n S H) (hL : sL G locs) {v : Int32} (hp : Qc v S) (hdg : decode cc pc = .ok (.ireturn, 1)) : W p l e R s m args below meth c H locs cells slots (MQ below (sQi G n Qc) args s cells slots (sF G)) (F0 m pc ls [.int v]) :=
  W.iret Cx.1.1 Cx.1.2.1 hr (fun t ht _ => ⟨v, S, rfl, hp, by rw [ht]; exact hW⟩) hL hdg hlk
theorem sZret {Qc : Int32 → sS → Prop} (Cx : sC G p m c cc nL s args own) (hr : meth.sig.returnType = some .boolean) (hlk : meth.locks = false) (hW : sW G n S H) (hL : sL G locs) {v : Int32} (hn : narrow .boolean (.int v) = .int v) (hp : Qc v S) (hdg : decode cc pc = .ok (.ireturn, 1)) : W p l e R s m args below meth c H locs cells slots (MQ below (sQi G n Qc) args s cells slots (sF G)) (F0 m pc ls [.int v]) :=
  W.zret Cx.1.1 Cx.1.2.1 hr hn (fun t ht _ => ⟨v, S, rfl, hp, by rw [ht]; exact hW⟩) hL hdg hlk
theorem sLret {Qc : Int64 → sS → Prop} (Cx : sC G p m c cc nL s args own) (hr : meth.sig.returnType = some .long) (hlk : meth.locks = false) (hW : sW G n S H) (hL : sL G locs) {v : Int64} (hp : Qc v S) (hdg : decode cc pc = .ok (.lreturn, 1)) : W p l e R s m args below meth c H locs cells slots (MQ below (sQl G n Qc) args s cells slots (sF G)) (F0 m pc ls [.long v]) :=
  W.lret Cx.1.1 Cx.1.2.1 hr (fun t ht _ => ⟨v, S, rfl, hp, by rw [ht]; exact hW⟩) hL hdg hlk
theorem sVret {Qc : sS → Prop} (Cx : sC G p m c cc nL s args own) (hr : meth.sig.returnType = none) (hlk : meth.locks = false) (hW : sW G n S H) (hL : sL G locs) (hp : Qc S) (hdg : decode cc pc = .ok (.return_, 1)) : W p l e R s m args below meth c H locs cells slots (MQ below (sQv G n Qc) args s cells slots (sF G)) (F0 m pc ls []) :=
  W.vret Cx.1.1 Cx.1.2.1 hr (fun t ht _ => ⟨S, rfl, hp, by rw [ht]; exact hW⟩) hL hdg hlk
/-- a call that has run: what comes back -/
theorem sBi {mc ms n' : Nat} {a : Array Value} {post : Int32 → sS → Prop} (hr : va_Run p l e R s m args below meth c H locs cells slots mc ms (F0 m pc ls st0) rest (sQi G n' post a) (sF G)) (hL : sL G locs)
    (kk : ∀ (r : Int32) (u : sS) (H1 : Heap) (locs1 : List Loc), post r u → sW G n' u H1 → sL G locs1 → W p l e R s m args below meth c H1 locs1 (cells + mc) (slots + ms) Q (F0 m (pc + 3) ls (.int r :: rest))) : W p l e R s m args below meth c H locs cells slots Q (F0 m pc ls st0) := by
  intro T hT X
  obtain ⟨v, st₀, t, T', L, h0, X', hLf, e1, e2, ⟨r, u, hv, hp, hw⟩, st⟩ := hr T hT X
  cases hv
  obtain ⟨t2, a1, b1⟩ := kk r u T'.heap (locs ++ L) hp (by rw [e1]; exact hw) (sL_app hL hLf) T' rfl X'
  exact ⟨t2, st t2 a1, b1⟩
theorem sBl {mc ms n' : Nat} {a : Array Value} {post : Int64 → sS → Prop} (hr : va_Run p l e R s m args below meth c H locs cells slots mc ms (F0 m pc ls st0) rest (sQl G n' post a) (sF G)) (hL : sL G locs)
    (kk : ∀ (r : Int64) (u : sS) (H1 : Heap) (locs1 : List Loc), post r u → sW G n' u H1 → sL G locs1 → W p l e R s m args below meth c H1 locs1 (cells + mc) (slots + ms) Q (F0 m (pc + 3) ls (.long r :: rest))) : W p l e R s m args below meth c H locs cells slots Q (F0 m pc ls st0) := by
  intro T hT X
  obtain ⟨v, st₀, t, T', L, h0, X', hLf, e1, e2, ⟨r, u, hv, hp, hw⟩, st⟩ := hr T hT X
  cases hv
  obtain ⟨t2, a1, b1⟩ := kk r u T'.heap (locs ++ L) hp (by rw [e1]; exact hw) (sL_app hL hLf) T' rfl X'
  exact ⟨t2, st t2 a1, b1⟩
theorem sBv {mc ms n' : Nat} {a : Array Value} {post : sS → Prop} (hr : va_Run p l e R s m args below meth c H locs cells slots mc ms (F0 m pc ls st0) rest (sQv G n' post a) (sF G)) (hL : sL G locs)
    (kk : ∀ (u : sS) (H1 : Heap) (locs1 : List Loc), post u → sW G n' u H1 → sL G locs1 → W p l e R s m args below meth c H1 locs1 (cells + mc) (slots + ms) Q (F0 m (pc + 3) ls rest)) : W p l e R s m args below meth c H locs cells slots Q (F0 m pc ls st0) := by
  intro T hT X
  obtain ⟨v, st₀, t, T', L, h0, X', hLf, e1, e2, ⟨u, hv, hp, hw⟩, st⟩ := hr T hT X
  cases hv
  obtain ⟨t2, a1, b1⟩ := kk u T'.heap (locs ++ L) hp (by rw [e1]; exact hw) (sL_app hL hLf) T' rfl X'
  exact ⟨t2, st t2 a1, b1⟩
variable {y : MethodName} {bytes : ByteArray} {maxL mc ms na index : Nat} {ret : Option FieldType} {rm : Room} {Qc : Array Value → State → Outcome → State → Prop} {C host : String} {As : List Value} {k : Nat}
theorem sPre (Cx : sC G p m c cc nL s args own) (hW : sW G n S H) {av : List Value} : PreS s H (sPc G n S av) av := ⟨sPc_blind, fun U hU hw => ⟨rfl, by rw [hU]; exact hW, Cx.2.warm hw⟩⟩
theorem sRecv (Cx : sC G p m c cc nL s args own) (hW : sW G n S H) {k ci N : Nat} {T : u_T} (hk : k < n) (ht : tau k = .inl ci) (hc : vwCl[ci]? = some (C, T, N)) : ∃ cellB : Cell, H[G.2.2.1 + k]? = some cellB ∧ cellB.vm.isStatics = false ∧ s.vm.findClass C = some cellB.cls := by
  have hat := hW.2.2.1 k hk
  rw [ht] at hat
  obtain ⟨r, h1, cell, q1, q2, q3, q4⟩ := hat
  exact ⟨cell, q1, by rw [q3]; rfl, by rw [q2]; exact (Cx.2.1.1 ci _ hc).2.1⟩
/-- invokevirtual -/
theorem sV (Cx : sC G p m c cc nL s args own) (hM : Met l y (.code y bytes maxL ret :: tb) rm (sPc G n S (.ref (G.2.2.1 + k) :: As)) Qc mc ms (sF G)) (cw : CallW R s args own C index y bytes maxL ret (.code y bytes maxL ret :: tb) rm mc ms na) (hW : sW G n S H) {ci N : Nat} {T : u_T} (hk : k < n) (ht : tau k = .inl ci) (hc : vwCl[ci]? = some (C, T, N))
    (hn : As.length = na) (hsz : ls.size = nL) (hst : st0 = As.reverse ++ .ref (G.2.2.1 + k) :: rest) (hro : (rest.map fun v => v.category).sum ≤ 8) (hdg : decode cc pc = .ok (.invokevirtual index, 3)) (hf : cells + mc ≤ R.cells ∧ slots + ms ≤ R.slots) :
    va_Run p l e R s m args below meth c H locs cells slots mc ms (F0 m pc ls st0) rest (Qc (Value.ref (G.2.2.1 + k) :: As).toArray) (sF G) :=
  va_runV Cx.1 hM cw ⟨sPc_blind, sRecv Cx hW hk ht hc, (sPre Cx hW).2⟩ rfl hn hsz hst (lv_room hro) hdg hf
/-- invokevirtual of a nest mate -/
theorem sVN (Cx : sC G p m c cc nL s args own) (hM : Met l y (.code y bytes maxL ret :: tb) rm (sPc G n S (.ref (G.2.2.1 + k) :: As)) Qc mc ms (sF G)) (cw : va_CN R s args own index y host bytes maxL ret (.code y bytes maxL ret :: tb) rm mc ms na ∧ (Cond.instanceMethod y).before args s = true ∧ (Cond.selects C y y).before args s = true) (hW : sW G n S H) {ci N : Nat} {T : u_T} (hk : k < n) (ht : tau k = .inl ci) (hc : vwCl[ci]? = some (C, T, N))
    (hn : As.length = na) (hsz : ls.size = nL) (hst : st0 = As.reverse ++ .ref (G.2.2.1 + k) :: rest) (hro : (rest.map fun v => v.category).sum ≤ 8) (hdg : decode cc pc = .ok (.invokevirtual index, 3)) (hf : cells + mc ≤ R.cells ∧ slots + ms ≤ R.slots) :
    va_Run p l e R s m args below meth c H locs cells slots mc ms (F0 m pc ls st0) rest (Qc (Value.ref (G.2.2.1 + k) :: As).toArray) (sF G) :=
  va_runVN Cx.1 hM cw ⟨sPc_blind, sRecv Cx hW hk ht hc, (sPre Cx hW).2⟩ rfl hn hsz hst (lv_room hro) hdg hf
/-- invokestatic -/
theorem sSt (Cx : sC G p m c cc nL s args own) (hM : Met l y (.code y bytes maxL ret :: tb) rm (sPc G n S As) Qc mc ms (sF G)) (cw : CallB R s args own index y bytes maxL ret (.code y bytes maxL ret :: tb) rm mc ms na ∧ (Cond.static y).before args s = true) (hW : sW G n S H)
    (hn : As.length = na) (hsz : ls.size = nL) (hst : st0 = As.reverse ++ rest) (hro : (rest.map fun v => v.category).sum ≤ 8) (hdg : decode cc pc = .ok (.invokestatic index, 3)) (hf : cells + mc ≤ R.cells ∧ slots + ms ≤ R.slots) :
    va_Run p l e R s m args below meth c H locs cells slots mc ms (F0 m pc ls st0) rest (Qc As.toArray) (sF G) :=
  va_runS Cx.1 hM cw (sPre Cx hW) rfl hn hsz hst (lv_room hro) hdg hf
/-- invokespecial of a constructor -/
theorem sIn (Cx : sC G p m c cc nL s args own) (hM : Met l y (.code y bytes maxL none :: tb) rm (sPc G n S (.ref (G.2.2.1 + k) :: As)) Qc mc ms (sF G)) (cw : CallB R s args own index y bytes maxL none (.code y bytes maxL none :: tb) rm mc ms na ∧ y.name = "<init>" ∧ (Cond.instanceMethod y).before args s = true) (hW : sW G n S H)
    (hn : As.length = na) (hsz : ls.size = nL) (hst : st0 = As.reverse ++ .ref (G.2.2.1 + k) :: rest) (hro : (rest.map fun v => v.category).sum ≤ 8) (hdg : decode cc pc = .ok (.invokespecial index, 3)) (hf : cells + mc ≤ R.cells ∧ slots + ms ≤ R.slots) :
    va_Run p l e R s m args below meth c H locs cells slots mc ms (F0 m pc ls st0) rest (Qc (Value.ref (G.2.2.1 + k) :: As).toArray) (sF G) :=
  va_runI Cx.1 hM cw (sPre Cx hW) rfl hn hsz hst (lv_room hro) hdg hf
theorem sInN (Cx : sC G p m c cc nL s args own) (hM : Met l y (.code y bytes maxL none :: tb) rm (sPc G n S (.ref (G.2.2.1 + k) :: As)) Qc mc ms (sF G)) (cw : va_CN R s args own index y host bytes maxL none (.code y bytes maxL none :: tb) rm mc ms na ∧ y.name = "<init>" ∧ (Cond.instanceMethod y).before args s = true) (hW : sW G n S H)
    (hn : As.length = na) (hsz : ls.size = nL) (hst : st0 = As.reverse ++ .ref (G.2.2.1 + k) :: rest) (hro : (rest.map fun v => v.category).sum ≤ 8) (hdg : decode cc pc = .ok (.invokespecial index, 3)) (hf : cells + mc ≤ R.cells ∧ slots + ms ≤ R.slots) :
    va_Run p l e R s m args below meth c H locs cells slots mc ms (F0 m pc ls st0) rest (Qc (Value.ref (G.2.2.1 + k) :: As).toArray) (sF G) :=
  va_runIN Cx.1 hM cw (sPre Cx hW) rfl hn hsz hst (lv_room hro) hdg hf
/-- the words of a call -/
theorem tb_code {ws : List Cond} (h : Cond.code y bytes maxL ret ∈ tb) (e : ws = .code y bytes maxL ret :: tb) : GoodIn tb ws := by
  intro w hw
  rw [e] at hw
  rcases List.mem_cons.mp hw with rfl | h1
  · exact tb_good _ h
  · exact tb_good _ h1
theorem sCw (Cx : sC G p m c cc nL s args own) (na : Nat) (h1 : Cond.methodLink own index y ∈ tb) (h2 : Cond.instanceMethod y ∈ tb) (h3 : Cond.selects C y y ∈ tb) (h4 : Cond.initialized C ∈ tb) (h5 : Cond.code y bytes maxL ret ∈ tb) (hd : y.cls = C ∧ y.cls ≠ "java/lang/invoke/MethodHandle" ∧ y.cls ≠ "java/lang/invoke/VarHandle" ∧ (parseMethodDescriptor y.desc).map (fun d => d.parameters.length) = some na)
    (hrc : rm.cells = mc) (hrs : rm.slots = ms) (hR : rm.frames + 1 ≤ R.frames ∧ 8 + (maxL + 11) + rm.locals ≤ R.locals) : CallW R s args own C index y bytes maxL ret (.code y bytes maxL ret :: tb) rm mc ms na := by
  refine cwV na Cx.1.2.2.2.2 (fun w hw => ?_) rfl hrc hrs hd hR
  unfold wsV at hw
  rcases List.mem_append.mp hw with h | h
  · simp only [List.mem_cons, List.not_mem_nil, or_false] at h
    rcases h with rfl | rfl | rfl | rfl
    · exact tb_good _ h1
    · exact tb_good _ h2
    · exact tb_good _ h3
    · exact tb_good _ h4
  · exact tb_code h5 rfl w h
theorem sCS (Cx : sC G p m c cc nL s args own) (na : Nat) (h1 : Cond.methodLink own index y ∈ tb) (h2 : Cond.static y ∈ tb) (h4 : Cond.initialized y.cls ∈ tb) (h5 : Cond.code y bytes maxL ret ∈ tb) (hd : y.cls ≠ "java/lang/invoke/MethodHandle" ∧ y.cls ≠ "java/lang/invoke/VarHandle" ∧ (parseMethodDescriptor y.desc).map (fun d => d.parameters.length) = some na)
    (hrc : rm.cells = mc) (hrs : rm.slots = ms) (hR : rm.frames + 1 ≤ R.frames ∧ 8 + (maxL + 11) + rm.locals ≤ R.locals) : CallB R s args own index y bytes maxL ret (.code y bytes maxL ret :: tb) rm mc ms na ∧ (Cond.static y).before args s = true :=
  ⟨callB_of na Cx.1.2.2.2.2 (tb_code h5 rfl) rfl hrc hrs (Cx.1.2.2.2.2 _ h4) (Cx.1.2.2.2.2 _ h1) hd hR, Cx.1.2.2.2.2 _ h2⟩
theorem sCI (Cx : sC G p m c cc nL s args own) (na : Nat) (h1 : Cond.methodLink own index y ∈ tb) (h2 : Cond.instanceMethod y ∈ tb) (h4 : Cond.initialized y.cls ∈ tb) (h5 : Cond.code y bytes maxL none ∈ tb) (hy : y.name = "<init>") (hd : y.cls ≠ "java/lang/invoke/MethodHandle" ∧ y.cls ≠ "java/lang/invoke/VarHandle" ∧ (parseMethodDescriptor y.desc).map (fun d => d.parameters.length) = some na)
    (hrc : rm.cells = mc) (hrs : rm.slots = ms) (hR : rm.frames + 1 ≤ R.frames ∧ 8 + (maxL + 11) + rm.locals ≤ R.locals) : CallB R s args own index y bytes maxL none (.code y bytes maxL none :: tb) rm mc ms na ∧ y.name = "<init>" ∧ (Cond.instanceMethod y).before args s = true :=
  cwI na Cx.1.2.2.2.2 (tb_code h5 rfl) rfl hrc hrs (Cx.1.2.2.2.2 _ h4) (Cx.1.2.2.2.2 _ h1) (Cx.1.2.2.2.2 _ h2) hy hd hR
theorem sCN (Cx : sC G p m c cc nL s args own) (na : Nat) (h1 : Cond.methodLinkNest own index y host ∈ nst) (h4 : Cond.initialized y.cls ∈ tb) (h5 : Cond.code y bytes maxL ret ∈ tb) (hd : y.cls ≠ "java/lang/invoke/MethodHandle" ∧ y.cls ≠ "java/lang/invoke/VarHandle" ∧ (parseMethodDescriptor y.desc).map (fun d => d.parameters.length) = some na)
    (hrc : rm.cells = mc) (hrs : rm.slots = ms) (hR : rm.frames + 1 ≤ R.frames ∧ 8 + (maxL + 11) + rm.locals ≤ R.locals) : va_CN R s args own index y host bytes maxL ret (.code y bytes maxL ret :: tb) rm mc ms na :=
  va_cnB na Cx.1.2.2.2.2 (tb_code h5 rfl) rfl hrc hrs (Cx.2.2.1 _ h1) (Cx.1.2.2.2.2 _ h4) hd hR
end SV2
end
section
/-! new long[n][k] -/
theorem vr_outer (c : ClassId) (N h0 : Nat) : ∀ i : Nat, Jvm.Free.Multi.outerC c N h0 i = arrV c N (fun j => va_rf (if j < i then some (h0 + 1 + j) else none))
  | 0 => by
    show ({ cls := c, slots := Array.replicate N .null, vm := .none } : Cell) = _
    rw [arrV_new]
    refine congrArg (arrV c N) (funext fun j => ?_)
    simp [va_rf]
  | i + 1 => by
    show (Jvm.Free.Multi.outerC c N h0 i).setSlot i (.ref (h0 + 1 + i)) = _
    rw [vr_outer c N h0 i, arrV_store]
    refine congrArg (arrV c N) (funext fun j => ?_)
    by_cases e : j = i
    · subst e
      simp [updV, va_rf]
    · by_cases h : j < i
      · simp [updV, e, h, Nat.lt_succ_of_lt h]
      · simp [updV, e, h, show ¬ j < i + 1 by omega]
def sM (b : Nat) (S : sS) (n N : Nat) : sS := (S.1, S.2.1, fun q i => cond (Nat.beq q n && Nat.blt i N) (.ref (b + n + 1 + i)) (S.2.2 q i))
theorem sM_off {b : Nat} {S : sS} {n N : Nat} (ty : FieldType) (q i : Nat) (h : q ≠ n) : sv (sM b S n N) ty q i = sv S ty q i := by
  have e : Nat.beq q n = false := by
    cases h1 : Nat.beq q n with
    | false => rfl
    | true => exact absurd (Nat.eq_of_beq_eq_true h1) h
  cases ty <;> simp [sv, sM, e]
section SVM
variable {p : Program} {l : Launch} {e : Env} {R : Room} {s : State} {m : MethodId} {args : Array Value} {below : List Frame} {meth : Method} {c : Code} {H : Heap} {locs : List Loc} {cells slots : Nat} {Q : State → Prop}
variable {cc : ByteArray} {pc nL : Nat} {ls : Array Slot} {rest st0 : List Value} {G : sG} {n : Nat} {S : sS} {own : String}
theorem sMna (Cx : sC G p m c cc nL s args own) {index : Nat} (hcl : Cond.classLink own index ("[" ++ (FieldType.array .long).toString) ∈ tb) (harr : Cond.arrayClass .long ∈ tb) (hW : sW G n S H) {x k : Int32} {N K : Nat} (hx0 : ¬ x < 0) (hk0 : ¬ k < 0) (hN : x.toNatClampNeg = N) (hK1 : k.toNatClampNeg = K) (ht : tau n = .inr (.array .long, N)) (hti : ∀ i, i < N → tau (n + 1 + i) = .inr (.long, K))
    (hb1 : N * 4 ≤ 536870912) (hb2 : K * componentBytes .long ≤ 536870912) (hb3 : K ≤ 536870912) (hcells : cells + (1 + N) ≤ R.cells) (hslots : slots + (N + N * K) ≤ R.slots) (hdg : decode cc pc = .ok (.multianewarray index 2, 4))
    (kk : ∀ H1 : Heap, sW G (n + 1 + N) (sM G.2.2.1 S n N) H1 → W p l e R s m args below meth c H1 locs (cells + 1 + N) (slots + N + N * K) Q (F0 m (pc + 4) ls (.ref (G.2.2.1 + n) :: rest))) : W p l e R s m args below meth c H locs cells slots Q (F0 m pc ls (.int k :: .int x :: rest)) := by
  obtain ⟨⟨hx, hb, hml, hown, hts⟩, hK, hN1, hov⟩ := Cx
  subst hN
  subst hK1
  intro T hT Xs
  obtain ⟨vm₁, cA, comp, -, fA, fC, hO, -, X', step⟩ := Xs.multianewarray2F hx hown (hts _ hcl) (show (Cond.arrayOver (.array .long)).before args s = true from hov) (hts _ harr) (g := F0 m pc ls (.int k :: .int x :: rest)) rfl (by rw [hb]; exact hdg) rfl hx0 hk0 hb1 hb2 hb3 rfl rfl hcells hslots
  have eA : cA = G.2.1 (.array .long) := Option.some.inj (fA.symm.trans (sArr hK 4 rfl).2)
  have eC : comp = G.2.1 .long := Option.some.inj (fC.symm.trans (sArr hK 1 rfl).2)
  subst eA
  subst eC
  generalize hF : Jvm.Free.Multi.fill (T.setVm vm₁) (G.2.1 (.array .long)) (G.2.1 .long) x.toNatClampNeg k.toNatClampNeg (defaultValue .long) x.toNatClampNeg = F at X' step
  have hTh : (T.setVm vm₁).heap = H := hT
  obtain ⟨f1, f2, -, -⟩ := Jvm.Free.Multi.fill_facts (T.setVm vm₁) (G.2.1 (.array .long)) (G.2.1 .long) x.toNatClampNeg k.toNatClampNeg (defaultValue .long) x.toNatClampNeg
  rw [hF, hTh] at f1 f2
  have hold : ∀ q : Nat, q < H.size → F.heap[q]? = H[q]? := fun q hq => by
    have := Jvm.Free.Multi.fill_old (T.setVm vm₁) (G.2.1 (.array .long)) (G.2.1 .long) x.toNatClampNeg k.toNatClampNeg (defaultValue .long) (a := q) (by rw [hTh]; exact hq) x.toNatClampNeg
    rw [hF, hTh] at this
    exact this
  have hrow : ∀ j : Nat, j < x.toNatClampNeg → F.heap[H.size + 1 + j]? = some (Jvm.Free.Multi.innerC (G.2.1 .long) k.toNatClampNeg (defaultValue .long)) := fun j hj => by
    have := Jvm.Free.Multi.fill_inner (T.setVm vm₁) (G.2.1 (.array .long)) (G.2.1 .long) x.toNatClampNeg k.toNatClampNeg (defaultValue .long) x.toNatClampNeg j hj
    rw [hF, hTh] at this
    exact this
  rw [vr_outer] at f2
  have hsz := hW.1
  have w : sW G (n + 1 + x.toNatClampNeg) (sM G.2.2.1 S n x.toNatClampNeg) F.heap := by
    refine ⟨by rw [f1, hsz]; omega, fun q hq => (hold q (by omega)).trans (hW.2.1 q hq), fun a ha => ?_, fun a ha => ?_⟩
    · by_cases h1 : a < n
      · exact (hW.2.2.1 a h1).kept (hold _ (by omega)) (fun ty i => sM_off ty a i (by omega))
      · by_cases h2 : a = n
        · subst h2
          rw [ht]
          show F.heap[G.2.2.1 + a]? = some (arrV _ _ _)
          rw [← hsz, f2]
          congr 2
          funext j
          by_cases hj : j < x.toNatClampNeg
          · have hj1 : Nat.blt j x.toNatClampNeg = true := Nat.blt_eq.mpr hj
            simp [sv, sM, va_rf, hj, hj1, hsz]
          · have hz := (hW.2.2.2 a (Nat.le_refl a)).2.2 j
            have hj2 : Nat.blt j x.toNatClampNeg = false := by
              cases h9 : Nat.blt j x.toNatClampNeg with
              | false => rfl
              | true => exact absurd (Nat.blt_eq.mp h9) hj
            simp [sv, sM, va_rf, hj, hj2, hz]
        · obtain ⟨i, rfl⟩ : ∃ i, a = n + 1 + i := ⟨a - (n + 1), by omega⟩
          rw [hti i (by omega)]
          show F.heap[G.2.2.1 + (n + 1 + i)]? = some (arrV _ _ _)
          have e9 : G.2.2.1 + (n + 1 + i) = H.size + 1 + i := by omega
          rw [e9, hrow i (by omega)]
          show some ({ cls := G.2.1 .long, slots := Array.replicate k.toNatClampNeg (defaultValue .long), vm := .none } : Cell) = _
          rw [arrV_new]
          congr 2
          funext j
          rw [sM_off _ _ _ (by omega)]
          exact ((hW.2.2.2 (n + 1 + i) (by omega)).dflt rfl j).symm
    · have hz := hW.2.2.2 a (by omega)
      have e9 : Nat.beq a n = false := by
        cases h9 : Nat.beq a n with
        | false => rfl
        | true => exact absurd (Nat.eq_of_beq_eq_true h9) (by omega)
      exact ⟨hz.1, hz.2.1, fun i => by simp [sM, e9, hz.2.2 i]⟩
  obtain ⟨t, a1, b1⟩ := kk F.heap w F rfl X'
  refine ⟨t, step t ?_, b1⟩
  have e2 : T.heap.size = G.2.2.1 + n := by rw [hT]; exact hsz
  rw [e2]
  exact a1
end SVM
end
section
theorem dX0_init_0 : decode cX0_init 0 = .ok (.aload_n 0, 1) := by decide +kernel
theorem dX0_init_1 : decode cX0_init 1 = .ok (.invokespecial 1, 3) := by decide +kernel
theorem dX0_init_4 : decode cX0_init 4 = .ok (.aload_n 0, 1) := by decide +kernel
theorem dX0_init_5 : decode cX0_init 5 = .ok (.bipush 32, 2) := by decide +kernel
theorem dX0_init_7 : decode cX0_init 7 = .ok (.newarray .int, 2) := by decide +kernel
theorem dX0_init_9 : decode cX0_init 9 = .ok (.putfield 9, 3) := by decide +kernel
theorem dX0_init_12 : decode cX0_init 12 = .ok (.return_, 1) := by decide +kernel
theorem dX10_init_0 : decode cX10_init 0 = .ok (.aload_n 0, 1) := by decide +kernel
theorem dX10_init_1 : decode cX10_init 1 = .ok (.invokespecial 3, 3) := by decide +kernel
theorem dX10_init_4 : decode cX10_init 4 = .ok (.aload_n 0, 1) := by decide +kernel
theorem dX10_init_5 : decode cX10_init 5 = .ok (.iload_n 1, 1) := by decide +kernel
theorem dX10_init_6 : decode cX10_init 6 = .ok (.iconst 0, 1) := by decide +kernel
theorem dX10_init_7 : decode cX10_init 7 = .ok (.invokestatic 9, 3) := by decide +kernel
theorem dX10_init_10 : decode cX10_init 10 = .ok (.newarray .byte, 2) := by decide +kernel
theorem dX10_init_12 : decode cX10_init 12 = .ok (.putfield 15, 3) := by decide +kernel
theorem dX10_init_15 : decode cX10_init 15 = .ok (.return_, 1) := by decide +kernel
theorem dX11_init_0 : decode cX11_init 0 = .ok (.aload_n 0, 1) := by decide +kernel
theorem dX11_init_1 : decode cX11_init 1 = .ok (.invokespecial 1, 3) := by decide +kernel
theorem dX11_init_4 : decode cX11_init 4 = .ok (.aload_n 0, 1) := by decide +kernel
theorem dX11_init_5 : decode cX11_init 5 = .ok (.new 7, 3) := by decide +kernel
theorem dX11_init_8 : decode cX11_init 8 = .ok (.dup, 1) := by decide +kernel
theorem dX11_init_9 : decode cX11_init 9 = .ok (.sipush 30000, 3) := by decide +kernel
theorem dX11_init_12 : decode cX11_init 12 = .ok (.invokespecial 11, 3) := by decide +kernel
theorem dX11_init_15 : decode cX11_init 15 = .ok (.putfield 14, 3) := by decide +kernel
theorem dX11_init_18 : decode cX11_init 18 = .ok (.aload_n 0, 1) := by decide +kernel
theorem dX11_init_19 : decode cX11_init 19 = .ok (.new 7, 3) := by decide +kernel
theorem dX11_init_22 : decode cX11_init 22 = .ok (.dup, 1) := by decide +kernel
theorem dX11_init_23 : decode cX11_init 23 = .ok (.bipush 120, 2) := by decide +kernel
theorem dX11_init_25 : decode cX11_init 25 = .ok (.invokespecial 11, 3) := by decide +kernel
theorem dX11_init_28 : decode cX11_init 28 = .ok (.putfield 18, 3) := by decide +kernel
theorem dX11_init_31 : decode cX11_init 31 = .ok (.aload_n 0, 1) := by decide +kernel
theorem dX11_init_32 : decode cX11_init 32 = .ok (.new 21, 3) := by decide +kernel
theorem dX11_init_35 : decode cX11_init 35 = .ok (.dup, 1) := by decide +kernel
theorem dX11_init_36 : decode cX11_init 36 = .ok (.invokespecial 23, 3) := by decide +kernel
theorem dX11_init_39 : decode cX11_init 39 = .ok (.putfield 24, 3) := by decide +kernel
theorem dX11_init_42 : decode cX11_init 42 = .ok (.aload_n 0, 1) := by decide +kernel
theorem dX11_init_43 : decode cX11_init 43 = .ok (.new 21, 3) := by decide +kernel
theorem dX11_init_46 : decode cX11_init 46 = .ok (.dup, 1) := by decide +kernel
theorem dX11_init_47 : decode cX11_init 47 = .ok (.invokespecial 23, 3) := by decide +kernel
theorem dX11_init_50 : decode cX11_init 50 = .ok (.putfield 28, 3) := by decide +kernel
theorem dX11_init_53 : decode cX11_init 53 = .ok (.aload_n 0, 1) := by decide +kernel
theorem dX11_init_54 : decode cX11_init 54 = .ok (.new 31, 3) := by decide +kernel
theorem dX11_init_57 : decode cX11_init 57 = .ok (.dup, 1) := by decide +kernel
theorem dX11_init_58 : decode cX11_init 58 = .ok (.invokespecial 33, 3) := by decide +kernel
theorem dX11_init_61 : decode cX11_init 61 = .ok (.putfield 34, 3) := by decide +kernel
theorem dX11_init_64 : decode cX11_init 64 = .ok (.aload_n 0, 1) := by decide +kernel
theorem dX11_init_65 : decode cX11_init 65 = .ok (.new 38, 3) := by decide +kernel
theorem dX11_init_68 : decode cX11_init 68 = .ok (.dup, 1) := by decide +kernel
theorem dX11_init_69 : decode cX11_init 69 = .ok (.invokespecial 40, 3) := by decide +kernel
theorem dX11_init_72 : decode cX11_init 72 = .ok (.putfield 41, 3) := by decide +kernel
theorem dX11_init_75 : decode cX11_init 75 = .ok (.aload_n 0, 1) := by decide +kernel
theorem dX11_init_76 : decode cX11_init 76 = .ok (.new 45, 3) := by decide +kernel
theorem dX11_init_79 : decode cX11_init 79 = .ok (.dup, 1) := by decide +kernel
theorem dX11_init_80 : decode cX11_init 80 = .ok (.invokespecial 47, 3) := by decide +kernel
theorem dX11_init_83 : decode cX11_init 83 = .ok (.putfield 48, 3) := by decide +kernel
theorem dX11_init_86 : decode cX11_init 86 = .ok (.aload_n 0, 1) := by decide +kernel
theorem dX11_init_87 : decode cX11_init 87 = .ok (.iconst (-1), 1) := by decide +kernel
theorem dX11_init_88 : decode cX11_init 88 = .ok (.putfield 52, 3) := by decide +kernel
theorem dX11_init_91 : decode cX11_init 91 = .ok (.return_, 1) := by decide +kernel
theorem dX12_init_0 : decode cX12_init 0 = .ok (.aload_n 0, 1) := by decide +kernel
theorem dX12_init_1 : decode cX12_init 1 = .ok (.invokespecial 3, 3) := by decide +kernel
theorem dX12_init_4 : decode cX12_init 4 = .ok (.aload_n 0, 1) := by decide +kernel
theorem dX12_init_5 : decode cX12_init 5 = .ok (.sipush 30000, 3) := by decide +kernel
theorem dX12_init_8 : decode cX12_init 8 = .ok (.newarray .byte, 2) := by decide +kernel
theorem dX12_init_10 : decode cX12_init 10 = .ok (.putfield 9, 3) := by decide +kernel
theorem dX12_init_13 : decode cX12_init 13 = .ok (.aload_n 0, 1) := by decide +kernel
theorem dX12_init_14 : decode cX12_init 14 = .ok (.bipush 66, 2) := by decide +kernel
theorem dX12_init_16 : decode cX12_init 16 = .ok (.newarray .int, 2) := by decide +kernel
theorem dX12_init_18 : decode cX12_init 18 = .ok (.putfield 13, 3) := by decide +kernel
theorem dX12_init_21 : decode cX12_init 21 = .ok (.aload_n 0, 1) := by decide +kernel
theorem dX12_init_22 : decode cX12_init 22 = .ok (.bipush 66, 2) := by decide +kernel
theorem dX12_init_24 : decode cX12_init 24 = .ok (.newarray .int, 2) := by decide +kernel
theorem dX12_init_26 : decode cX12_init 26 = .ok (.putfield 17, 3) := by decide +kernel
theorem dX12_init_29 : decode cX12_init 29 = .ok (.aload_n 0, 1) := by decide +kernel
theorem dX12_init_30 : decode cX12_init 30 = .ok (.iconst 4, 1) := by decide +kernel
theorem dX12_init_31 : decode cX12_init 31 = .ok (.newarray .int, 2) := by decide +kernel
theorem dX12_init_33 : decode cX12_init 33 = .ok (.putfield 20, 3) := by decide +kernel
theorem dX12_init_36 : decode cX12_init 36 = .ok (.aload_n 0, 1) := by decide +kernel
theorem dX12_init_37 : decode cX12_init 37 = .ok (.sipush 576, 3) := by decide +kernel
theorem dX12_init_40 : decode cX12_init 40 = .ok (.newarray .byte, 2) := by decide +kernel
theorem dX12_init_42 : decode cX12_init 42 = .ok (.putfield 23, 3) := by decide +kernel
theorem dX12_init_45 : decode cX12_init 45 = .ok (.aload_n 0, 1) := by decide +kernel
theorem dX12_init_46 : decode cX12_init 46 = .ok (.bipush 68, 2) := by decide +kernel
theorem dX12_init_48 : decode cX12_init 48 = .ok (.newarray .int, 2) := by decide +kernel
theorem dX12_init_50 : decode cX12_init 50 = .ok (.putfield 26, 3) := by decide +kernel
theorem dX12_init_53 : decode cX12_init 53 = .ok (.aload_n 0, 1) := by decide +kernel
theorem dX12_init_54 : decode cX12_init 54 = .ok (.bipush 68, 2) := by decide +kernel
theorem dX12_init_56 : decode cX12_init 56 = .ok (.newarray .int, 2) := by decide +kernel
theorem dX12_init_58 : decode cX12_init 58 = .ok (.putfield 29, 3) := by decide +kernel
theorem dX12_init_61 : decode cX12_init 61 = .ok (.aload_n 0, 1) := by decide +kernel
theorem dX12_init_62 : decode cX12_init 62 = .ok (.bipush 68, 2) := by decide +kernel
theorem dX12_init_64 : decode cX12_init 64 = .ok (.newarray .int, 2) := by decide +kernel
theorem dX12_init_66 : decode cX12_init 66 = .ok (.putfield 32, 3) := by decide +kernel
theorem dX12_init_69 : decode cX12_init 69 = .ok (.aload_n 0, 1) := by decide +kernel
theorem dX12_init_70 : decode cX12_init 70 = .ok (.bipush 68, 2) := by decide +kernel
theorem dX12_init_72 : decode cX12_init 72 = .ok (.newarray .int, 2) := by decide +kernel
theorem dX12_init_74 : decode cX12_init 74 = .ok (.putfield 35, 3) := by decide +kernel
theorem dX12_init_77 : decode cX12_init 77 = .ok (.aload_n 0, 1) := by decide +kernel
theorem dX12_init_78 : decode cX12_init 78 = .ok (.bipush 68, 2) := by decide +kernel
theorem dX12_init_80 : decode cX12_init 80 = .ok (.newarray .int, 2) := by decide +kernel
theorem dX12_init_82 : decode cX12_init 82 = .ok (.putfield 38, 3) := by decide +kernel
theorem dX12_init_85 : decode cX12_init 85 = .ok (.aload_n 0, 1) := by decide +kernel
theorem dX12_init_86 : decode cX12_init 86 = .ok (.bipush 68, 2) := by decide +kernel
theorem dX12_init_88 : decode cX12_init 88 = .ok (.newarray .int, 2) := by decide +kernel
theorem dX12_init_90 : decode cX12_init 90 = .ok (.putfield 41, 3) := by decide +kernel
theorem dX12_init_93 : decode cX12_init 93 = .ok (.aload_n 0, 1) := by decide +kernel
theorem dX12_init_94 : decode cX12_init 94 = .ok (.sipush 30000, 3) := by decide +kernel
theorem dX12_init_97 : decode cX12_init 97 = .ok (.newarray .byte, 2) := by decide +kernel
theorem dX12_init_99 : decode cX12_init 99 = .ok (.putfield 44, 3) := by decide +kernel
theorem dX12_init_102 : decode cX12_init 102 = .ok (.aload_n 0, 1) := by decide +kernel
theorem dX12_init_103 : decode cX12_init 103 = .ok (.sipush 30004, 3) := by decide +kernel
theorem dX12_init_106 : decode cX12_init 106 = .ok (.newarray .int, 2) := by decide +kernel
theorem dX12_init_108 : decode cX12_init 108 = .ok (.putfield 47, 3) := by decide +kernel
theorem dX12_init_111 : decode cX12_init 111 = .ok (.aload_n 0, 1) := by decide +kernel
theorem dX12_init_112 : decode cX12_init 112 = .ok (.sipush 30004, 3) := by decide +kernel
theorem dX12_init_115 : decode cX12_init 115 = .ok (.newarray .int, 2) := by decide +kernel
theorem dX12_init_117 : decode cX12_init 117 = .ok (.putfield 50, 3) := by decide +kernel
theorem dX12_init_120 : decode cX12_init 120 = .ok (.aload_n 0, 1) := by decide +kernel
theorem dX12_init_121 : decode cX12_init 121 = .ok (.sipush 30004, 3) := by decide +kernel
theorem dX12_init_124 : decode cX12_init 124 = .ok (.newarray .int, 2) := by decide +kernel
theorem dX12_init_126 : decode cX12_init 126 = .ok (.putfield 53, 3) := by decide +kernel
theorem dX12_init_129 : decode cX12_init 129 = .ok (.aload_n 0, 1) := by decide +kernel
theorem dX12_init_130 : decode cX12_init 130 = .ok (.sipush 30004, 3) := by decide +kernel
theorem dX12_init_133 : decode cX12_init 133 = .ok (.newarray .int, 2) := by decide +kernel
theorem dX12_init_135 : decode cX12_init 135 = .ok (.putfield 56, 3) := by decide +kernel
theorem dX12_init_138 : decode cX12_init 138 = .ok (.aload_n 0, 1) := by decide +kernel
theorem dX12_init_139 : decode cX12_init 139 = .ok (.sipush 700, 3) := by decide +kernel
theorem dX12_init_142 : decode cX12_init 142 = .ok (.newarray .int, 2) := by decide +kernel
theorem dX12_init_144 : decode cX12_init 144 = .ok (.putfield 59, 3) := by decide +kernel
theorem dX12_init_147 : decode cX12_init 147 = .ok (.aload_n 0, 1) := by decide +kernel
theorem dX12_init_148 : decode cX12_init 148 = .ok (.sipush 700, 3) := by decide +kernel
theorem dX12_init_151 : decode cX12_init 151 = .ok (.newarray .int, 2) := by decide +kernel
theorem dX12_init_153 : decode cX12_init 153 = .ok (.putfield 62, 3) := by decide +kernel
theorem dX12_init_156 : decode cX12_init 156 = .ok (.aload_n 0, 1) := by decide +kernel
theorem dX12_init_157 : decode cX12_init 157 = .ok (.sipush 700, 3) := by decide +kernel
theorem dX12_init_160 : decode cX12_init 160 = .ok (.newarray .int, 2) := by decide +kernel
theorem dX12_init_162 : decode cX12_init 162 = .ok (.putfield 65, 3) := by decide +kernel
theorem dX12_init_165 : decode cX12_init 165 = .ok (.aload_n 0, 1) := by decide +kernel
theorem dX12_init_166 : decode cX12_init 166 = .ok (.sipush 700, 3) := by decide +kernel
theorem dX12_init_169 : decode cX12_init 169 = .ok (.newarray .int, 2) := by decide +kernel
theorem dX12_init_171 : decode cX12_init 171 = .ok (.putfield 68, 3) := by decide +kernel
theorem dX12_init_174 : decode cX12_init 174 = .ok (.aload_n 0, 1) := by decide +kernel
theorem dX12_init_175 : decode cX12_init 175 = .ok (.sipush 700, 3) := by decide +kernel
theorem dX12_init_178 : decode cX12_init 178 = .ok (.newarray .int, 2) := by decide +kernel
theorem dX12_init_180 : decode cX12_init 180 = .ok (.putfield 71, 3) := by decide +kernel
theorem dX12_init_183 : decode cX12_init 183 = .ok (.aload_n 0, 1) := by decide +kernel
theorem dX12_init_184 : decode cX12_init 184 = .ok (.sipush 2100, 3) := by decide +kernel
theorem dX12_init_187 : decode cX12_init 187 = .ok (.newarray .int, 2) := by decide +kernel
theorem dX12_init_189 : decode cX12_init 189 = .ok (.putfield 74, 3) := by decide +kernel
theorem dX12_init_192 : decode cX12_init 192 = .ok (.aload_n 0, 1) := by decide +kernel
theorem dX12_init_193 : decode cX12_init 193 = .ok (.bipush 13, 2) := by decide +kernel
theorem dX12_init_195 : decode cX12_init 195 = .ok (.newarray .boolean, 2) := by decide +kernel
theorem dX12_init_197 : decode cX12_init 197 = .ok (.putfield 77, 3) := by decide +kernel
theorem dX12_init_200 : decode cX12_init 200 = .ok (.aload_n 0, 1) := by decide +kernel
theorem dX12_init_201 : decode cX12_init 201 = .ok (.sipush 247, 3) := by decide +kernel
theorem dX12_init_204 : decode cX12_init 204 = .ok (.newarray .long, 2) := by decide +kernel
theorem dX12_init_206 : decode cX12_init 206 = .ok (.putfield 81, 3) := by decide +kernel
theorem dX12_init_209 : decode cX12_init 209 = .ok (.aload_n 0, 1) := by decide +kernel
theorem dX12_init_210 : decode cX12_init 210 = .ok (.bipush 13, 2) := by decide +kernel
theorem dX12_init_212 : decode cX12_init 212 = .ok (.newarray .long, 2) := by decide +kernel
theorem dX12_init_214 : decode cX12_init 214 = .ok (.putfield 85, 3) := by decide +kernel
theorem dX12_init_217 : decode cX12_init 217 = .ok (.aload_n 0, 1) := by decide +kernel
theorem dX12_init_218 : decode cX12_init 218 = .ok (.sipush 1820, 3) := by decide +kernel
theorem dX12_init_221 : decode cX12_init 221 = .ok (.newarray .long, 2) := by decide +kernel
theorem dX12_init_223 : decode cX12_init 223 = .ok (.putfield 88, 3) := by decide +kernel
theorem dX12_init_226 : decode cX12_init 226 = .ok (.aload_n 0, 1) := by decide +kernel
theorem dX12_init_227 : decode cX12_init 227 = .ok (.iconst 2, 1) := by decide +kernel
theorem dX12_init_228 : decode cX12_init 228 = .ok (.newarray .int, 2) := by decide +kernel
theorem dX12_init_230 : decode cX12_init 230 = .ok (.putfield 91, 3) := by decide +kernel
theorem dX12_init_233 : decode cX12_init 233 = .ok (.aload_n 0, 1) := by decide +kernel
theorem dX12_init_234 : decode cX12_init 234 = .ok (.bipush 13, 2) := by decide +kernel
theorem dX12_init_236 : decode cX12_init 236 = .ok (.newarray .boolean, 2) := by decide +kernel
theorem dX12_init_238 : decode cX12_init 238 = .ok (.putfield 94, 3) := by decide +kernel
theorem dX12_init_241 : decode cX12_init 241 = .ok (.aload_n 0, 1) := by decide +kernel
theorem dX12_init_242 : decode cX12_init 242 = .ok (.bipush 13, 2) := by decide +kernel
theorem dX12_init_244 : decode cX12_init 244 = .ok (.newarray .long, 2) := by decide +kernel
theorem dX12_init_246 : decode cX12_init 246 = .ok (.putfield 97, 3) := by decide +kernel
theorem dX12_init_249 : decode cX12_init 249 = .ok (.aload_n 0, 1) := by decide +kernel
theorem dX12_init_250 : decode cX12_init 250 = .ok (.sipush 4368, 3) := by decide +kernel
theorem dX12_init_253 : decode cX12_init 253 = .ok (.newarray .int, 2) := by decide +kernel
theorem dX12_init_255 : decode cX12_init 255 = .ok (.putfield 100, 3) := by decide +kernel
theorem dX12_init_258 : decode cX12_init 258 = .ok (.aload_n 0, 1) := by decide +kernel
theorem dX12_init_259 : decode cX12_init 259 = .ok (.sipush 5280, 3) := by decide +kernel
theorem dX12_init_262 : decode cX12_init 262 = .ok (.newarray .int, 2) := by decide +kernel
theorem dX12_init_264 : decode cX12_init 264 = .ok (.putfield 103, 3) := by decide +kernel
theorem dX12_init_267 : decode cX12_init 267 = .ok (.aload_n 0, 1) := by decide +kernel
theorem dX12_init_268 : decode cX12_init 268 = .ok (.sipush 5280, 3) := by decide +kernel
theorem dX12_init_271 : decode cX12_init 271 = .ok (.newarray .int, 2) := by decide +kernel
theorem dX12_init_273 : decode cX12_init 273 = .ok (.putfield 106, 3) := by decide +kernel
theorem dX12_init_276 : decode cX12_init 276 = .ok (.aload_n 0, 1) := by decide +kernel
theorem dX12_init_277 : decode cX12_init 277 = .ok (.bipush 8, 2) := by decide +kernel
theorem dX12_init_279 : decode cX12_init 279 = .ok (.newarray .int, 2) := by decide +kernel
theorem dX12_init_281 : decode cX12_init 281 = .ok (.putfield 109, 3) := by decide +kernel
theorem dX12_init_284 : decode cX12_init 284 = .ok (.aload_n 0, 1) := by decide +kernel
theorem dX12_init_285 : decode cX12_init 285 = .ok (.bipush 44, 2) := by decide +kernel
theorem dX12_init_287 : decode cX12_init 287 = .ok (.newarray .int, 2) := by decide +kernel
theorem dX12_init_289 : decode cX12_init 289 = .ok (.putfield 112, 3) := by decide +kernel
theorem dX12_init_292 : decode cX12_init 292 = .ok (.aload_n 0, 1) := by decide +kernel
theorem dX12_init_293 : decode cX12_init 293 = .ok (.bipush 15, 2) := by decide +kernel
theorem dX12_init_295 : decode cX12_init 295 = .ok (.newarray .int, 2) := by decide +kernel
theorem dX12_init_297 : decode cX12_init 297 = .ok (.putfield 115, 3) := by decide +kernel
theorem dX12_init_300 : decode cX12_init 300 = .ok (.aload_n 0, 1) := by decide +kernel
theorem dX12_init_301 : decode cX12_init 301 = .ok (.ldc 118, 2) := by decide +kernel
theorem dX12_init_303 : decode cX12_init 303 = .ok (.newarray .int, 2) := by decide +kernel
theorem dX12_init_305 : decode cX12_init 305 = .ok (.putfield 119, 3) := by decide +kernel
theorem dX12_init_308 : decode cX12_init 308 = .ok (.aload_n 0, 1) := by decide +kernel
theorem dX12_init_309 : decode cX12_init 309 = .ok (.sipush 328, 3) := by decide +kernel
theorem dX12_init_312 : decode cX12_init 312 = .ok (.newarray .int, 2) := by decide +kernel
theorem dX12_init_314 : decode cX12_init 314 = .ok (.putfield 122, 3) := by decide +kernel
theorem dX12_init_317 : decode cX12_init 317 = .ok (.aload_n 0, 1) := by decide +kernel
theorem dX12_init_318 : decode cX12_init 318 = .ok (.sipush 1804, 3) := by decide +kernel
theorem dX12_init_321 : decode cX12_init 321 = .ok (.newarray .int, 2) := by decide +kernel
theorem dX12_init_323 : decode cX12_init 323 = .ok (.putfield 125, 3) := by decide +kernel
theorem dX12_init_326 : decode cX12_init 326 = .ok (.aload_n 0, 1) := by decide +kernel
theorem dX12_init_327 : decode cX12_init 327 = .ok (.sipush 615, 3) := by decide +kernel
theorem dX12_init_330 : decode cX12_init 330 = .ok (.newarray .int, 2) := by decide +kernel
theorem dX12_init_332 : decode cX12_init 332 = .ok (.putfield 128, 3) := by decide +kernel
theorem dX12_init_335 : decode cX12_init 335 = .ok (.aload_n 0, 1) := by decide +kernel
theorem dX12_init_336 : decode cX12_init 336 = .ok (.sipush 205, 3) := by decide +kernel
theorem dX12_init_339 : decode cX12_init 339 = .ok (.newarray .int, 2) := by decide +kernel
theorem dX12_init_341 : decode cX12_init 341 = .ok (.putfield 131, 3) := by decide +kernel
theorem dX12_init_344 : decode cX12_init 344 = .ok (.aload_n 0, 1) := by decide +kernel
theorem dX12_init_345 : decode cX12_init 345 = .ok (.bipush 8, 2) := by decide +kernel
theorem dX12_init_347 : decode cX12_init 347 = .ok (.newarray .int, 2) := by decide +kernel
theorem dX12_init_349 : decode cX12_init 349 = .ok (.putfield 134, 3) := by decide +kernel
theorem dX12_init_352 : decode cX12_init 352 = .ok (.aload_n 0, 1) := by decide +kernel
theorem dX12_init_353 : decode cX12_init 353 = .ok (.bipush 8, 2) := by decide +kernel
theorem dX12_init_355 : decode cX12_init 355 = .ok (.newarray .int, 2) := by decide +kernel
theorem dX12_init_357 : decode cX12_init 357 = .ok (.putfield 137, 3) := by decide +kernel
theorem dX12_init_360 : decode cX12_init 360 = .ok (.aload_n 0, 1) := by decide +kernel
theorem dX12_init_361 : decode cX12_init 361 = .ok (.bipush 104, 2) := by decide +kernel
theorem dX12_init_363 : decode cX12_init 363 = .ok (.newarray .int, 2) := by decide +kernel
theorem dX12_init_365 : decode cX12_init 365 = .ok (.putfield 140, 3) := by decide +kernel
theorem dX12_init_368 : decode cX12_init 368 = .ok (.aload_n 0, 1) := by decide +kernel
theorem dX12_init_369 : decode cX12_init 369 = .ok (.ldc 143, 2) := by decide +kernel
theorem dX12_init_371 : decode cX12_init 371 = .ok (.newarray .byte, 2) := by decide +kernel
theorem dX12_init_373 : decode cX12_init 373 = .ok (.putfield 144, 3) := by decide +kernel
theorem dX12_init_376 : decode cX12_init 376 = .ok (.aload_n 0, 1) := by decide +kernel
theorem dX12_init_377 : decode cX12_init 377 = .ok (.ldc 147, 2) := by decide +kernel
theorem dX12_init_379 : decode cX12_init 379 = .ok (.newarray .byte, 2) := by decide +kernel
theorem dX12_init_381 : decode cX12_init 381 = .ok (.putfield 148, 3) := by decide +kernel
theorem dX12_init_384 : decode cX12_init 384 = .ok (.aload_n 0, 1) := by decide +kernel
theorem dX12_init_385 : decode cX12_init 385 = .ok (.iconst 4, 1) := by decide +kernel
theorem dX12_init_386 : decode cX12_init 386 = .ok (.newarray .int, 2) := by decide +kernel
theorem dX12_init_388 : decode cX12_init 388 = .ok (.putfield 151, 3) := by decide +kernel
theorem dX12_init_391 : decode cX12_init 391 = .ok (.aload_n 0, 1) := by decide +kernel
theorem dX12_init_392 : decode cX12_init 392 = .ok (.sipush 336, 3) := by decide +kernel
theorem dX12_init_395 : decode cX12_init 395 = .ok (.newarray .int, 2) := by decide +kernel
theorem dX12_init_397 : decode cX12_init 397 = .ok (.putfield 154, 3) := by decide +kernel
theorem dX12_init_400 : decode cX12_init 400 = .ok (.aload_n 0, 1) := by decide +kernel
theorem dX12_init_401 : decode cX12_init 401 = .ok (.bipush 68, 2) := by decide +kernel
theorem dX12_init_403 : decode cX12_init 403 = .ok (.newarray .int, 2) := by decide +kernel
theorem dX12_init_405 : decode cX12_init 405 = .ok (.putfield 157, 3) := by decide +kernel
theorem dX12_init_408 : decode cX12_init 408 = .ok (.aload_n 0, 1) := by decide +kernel
theorem dX12_init_409 : decode cX12_init 409 = .ok (.bipush 68, 2) := by decide +kernel
theorem dX12_init_411 : decode cX12_init 411 = .ok (.newarray .int, 2) := by decide +kernel
theorem dX12_init_413 : decode cX12_init 413 = .ok (.putfield 160, 3) := by decide +kernel
theorem dX12_init_416 : decode cX12_init 416 = .ok (.aload_n 0, 1) := by decide +kernel
theorem dX12_init_417 : decode cX12_init 417 = .ok (.bipush 104, 2) := by decide +kernel
theorem dX12_init_419 : decode cX12_init 419 = .ok (.newarray .int, 2) := by decide +kernel
theorem dX12_init_421 : decode cX12_init 421 = .ok (.putfield 163, 3) := by decide +kernel
theorem dX12_init_424 : decode cX12_init 424 = .ok (.aload_n 0, 1) := by decide +kernel
theorem dX12_init_425 : decode cX12_init 425 = .ok (.iconst 4, 1) := by decide +kernel
theorem dX12_init_426 : decode cX12_init 426 = .ok (.newarray .int, 2) := by decide +kernel
theorem dX12_init_428 : decode cX12_init 428 = .ok (.putfield 166, 3) := by decide +kernel
theorem dX12_init_431 : decode cX12_init 431 = .ok (.aload_n 0, 1) := by decide +kernel
theorem dX12_init_432 : decode cX12_init 432 = .ok (.sipush 5460, 3) := by decide +kernel
theorem dX12_init_435 : decode cX12_init 435 = .ok (.newarray .int, 2) := by decide +kernel
theorem dX12_init_437 : decode cX12_init 437 = .ok (.putfield 169, 3) := by decide +kernel
theorem dX12_init_440 : decode cX12_init 440 = .ok (.aload_n 0, 1) := by decide +kernel
theorem dX12_init_441 : decode cX12_init 441 = .ok (.sipush 520, 3) := by decide +kernel
theorem dX12_init_444 : decode cX12_init 444 = .ok (.newarray .int, 2) := by decide +kernel
theorem dX12_init_446 : decode cX12_init 446 = .ok (.putfield 172, 3) := by decide +kernel
theorem dX12_init_449 : decode cX12_init 449 = .ok (.aload_n 0, 1) := by decide +kernel
theorem dX12_init_450 : decode cX12_init 450 = .ok (.sipush 140, 3) := by decide +kernel
theorem dX12_init_453 : decode cX12_init 453 = .ok (.newarray .int, 2) := by decide +kernel
theorem dX12_init_455 : decode cX12_init 455 = .ok (.putfield 175, 3) := by decide +kernel
theorem dX12_init_458 : decode cX12_init 458 = .ok (.aload_n 0, 1) := by decide +kernel
theorem dX12_init_459 : decode cX12_init 459 = .ok (.bipush 10, 2) := by decide +kernel
theorem dX12_init_461 : decode cX12_init 461 = .ok (.newarray .int, 2) := by decide +kernel
theorem dX12_init_463 : decode cX12_init 463 = .ok (.putfield 178, 3) := by decide +kernel
theorem dX12_init_466 : decode cX12_init 466 = .ok (.aload_n 0, 1) := by decide +kernel
theorem dX12_init_467 : decode cX12_init 467 = .ok (.bipush 10, 2) := by decide +kernel
theorem dX12_init_469 : decode cX12_init 469 = .ok (.newarray .int, 2) := by decide +kernel
theorem dX12_init_471 : decode cX12_init 471 = .ok (.putfield 181, 3) := by decide +kernel
theorem dX12_init_474 : decode cX12_init 474 = .ok (.aload_n 0, 1) := by decide +kernel
theorem dX12_init_475 : decode cX12_init 475 = .ok (.bipush 10, 2) := by decide +kernel
theorem dX12_init_477 : decode cX12_init 477 = .ok (.newarray .int, 2) := by decide +kernel
theorem dX12_init_479 : decode cX12_init 479 = .ok (.putfield 184, 3) := by decide +kernel
theorem dX12_init_482 : decode cX12_init 482 = .ok (.aload_n 0, 1) := by decide +kernel
theorem dX12_init_483 : decode cX12_init 483 = .ok (.bipush 10, 2) := by decide +kernel
theorem dX12_init_485 : decode cX12_init 485 = .ok (.newarray .int, 2) := by decide +kernel
theorem dX12_init_487 : decode cX12_init 487 = .ok (.putfield 187, 3) := by decide +kernel
theorem dX12_init_490 : decode cX12_init 490 = .ok (.aload_n 0, 1) := by decide +kernel
theorem dX12_init_491 : decode cX12_init 491 = .ok (.sipush 247, 3) := by decide +kernel
theorem dX12_init_494 : decode cX12_init 494 = .ok (.newarray .long, 2) := by decide +kernel
theorem dX12_init_496 : decode cX12_init 496 = .ok (.putfield 190, 3) := by decide +kernel
theorem dX12_init_499 : decode cX12_init 499 = .ok (.aload_n 0, 1) := by decide +kernel
theorem dX12_init_500 : decode cX12_init 500 = .ok (.sipush 3002, 3) := by decide +kernel
theorem dX12_init_503 : decode cX12_init 503 = .ok (.newarray .int, 2) := by decide +kernel
theorem dX12_init_505 : decode cX12_init 505 = .ok (.putfield 193, 3) := by decide +kernel
theorem dX12_init_508 : decode cX12_init 508 = .ok (.aload_n 0, 1) := by decide +kernel
theorem dX12_init_509 : decode cX12_init 509 = .ok (.sipush 3002, 3) := by decide +kernel
theorem dX12_init_512 : decode cX12_init 512 = .ok (.newarray .int, 2) := by decide +kernel
theorem dX12_init_514 : decode cX12_init 514 = .ok (.putfield 196, 3) := by decide +kernel
theorem dX12_init_517 : decode cX12_init 517 = .ok (.aload_n 0, 1) := by decide +kernel
theorem dX12_init_518 : decode cX12_init 518 = .ok (.sipush 3002, 3) := by decide +kernel
theorem dX12_init_521 : decode cX12_init 521 = .ok (.newarray .int, 2) := by decide +kernel
theorem dX12_init_523 : decode cX12_init 523 = .ok (.putfield 199, 3) := by decide +kernel
theorem dX12_init_526 : decode cX12_init 526 = .ok (.return_, 1) := by decide +kernel
theorem dX1_init_0 : decode cX1_init 0 = .ok (.aload_n 0, 1) := by decide +kernel
theorem dX1_init_1 : decode cX1_init 1 = .ok (.invokespecial 3, 3) := by decide +kernel
theorem dX1_init_4 : decode cX1_init 4 = .ok (.aload_n 0, 1) := by decide +kernel
theorem dX1_init_5 : decode cX1_init 5 = .ok (.new 9, 3) := by decide +kernel
theorem dX1_init_8 : decode cX1_init 8 = .ok (.dup, 1) := by decide +kernel
theorem dX1_init_9 : decode cX1_init 9 = .ok (.invokespecial 11, 3) := by decide +kernel
theorem dX1_init_12 : decode cX1_init 12 = .ok (.putfield 12, 3) := by decide +kernel
theorem dX1_init_15 : decode cX1_init 15 = .ok (.aload_n 0, 1) := by decide +kernel
theorem dX1_init_16 : decode cX1_init 16 = .ok (.new 18, 3) := by decide +kernel
theorem dX1_init_19 : decode cX1_init 19 = .ok (.dup, 1) := by decide +kernel
theorem dX1_init_20 : decode cX1_init 20 = .ok (.invokespecial 20, 3) := by decide +kernel
theorem dX1_init_23 : decode cX1_init 23 = .ok (.putfield 21, 3) := by decide +kernel
theorem dX1_init_26 : decode cX1_init 26 = .ok (.aload_n 0, 1) := by decide +kernel
theorem dX1_init_27 : decode cX1_init 27 = .ok (.bipush 104, 2) := by decide +kernel
theorem dX1_init_29 : decode cX1_init 29 = .ok (.newarray .int, 2) := by decide +kernel
theorem dX1_init_31 : decode cX1_init 31 = .ok (.putfield 27, 3) := by decide +kernel
theorem dX1_init_34 : decode cX1_init 34 = .ok (.aload_n 0, 1) := by decide +kernel
theorem dX1_init_35 : decode cX1_init 35 = .ok (.new 25, 3) := by decide +kernel
theorem dX1_init_38 : decode cX1_init 38 = .ok (.dup, 1) := by decide +kernel
theorem dX1_init_39 : decode cX1_init 39 = .ok (.invokespecial 31, 3) := by decide +kernel
theorem dX1_init_42 : decode cX1_init 42 = .ok (.putfield 32, 3) := by decide +kernel
theorem dX1_init_45 : decode cX1_init 45 = .ok (.aload_n 0, 1) := by decide +kernel
theorem dX1_init_46 : decode cX1_init 46 = .ok (.new 25, 3) := by decide +kernel
theorem dX1_init_49 : decode cX1_init 49 = .ok (.dup, 1) := by decide +kernel
theorem dX1_init_50 : decode cX1_init 50 = .ok (.invokespecial 31, 3) := by decide +kernel
theorem dX1_init_53 : decode cX1_init 53 = .ok (.putfield 36, 3) := by decide +kernel
theorem dX1_init_56 : decode cX1_init 56 = .ok (.aload_n 0, 1) := by decide +kernel
theorem dX1_init_57 : decode cX1_init 57 = .ok (.new 25, 3) := by decide +kernel
theorem dX1_init_60 : decode cX1_init 60 = .ok (.dup, 1) := by decide +kernel
theorem dX1_init_61 : decode cX1_init 61 = .ok (.invokespecial 31, 3) := by decide +kernel
theorem dX1_init_64 : decode cX1_init 64 = .ok (.putfield 39, 3) := by decide +kernel
theorem dX1_init_67 : decode cX1_init 67 = .ok (.aload_n 0, 1) := by decide +kernel
theorem dX1_init_68 : decode cX1_init 68 = .ok (.new 25, 3) := by decide +kernel
theorem dX1_init_71 : decode cX1_init 71 = .ok (.dup, 1) := by decide +kernel
theorem dX1_init_72 : decode cX1_init 72 = .ok (.invokespecial 31, 3) := by decide +kernel
theorem dX1_init_75 : decode cX1_init 75 = .ok (.putfield 42, 3) := by decide +kernel
theorem dX1_init_78 : decode cX1_init 78 = .ok (.aload_n 0, 1) := by decide +kernel
theorem dX1_init_79 : decode cX1_init 79 = .ok (.new 25, 3) := by decide +kernel
theorem dX1_init_82 : decode cX1_init 82 = .ok (.dup, 1) := by decide +kernel
theorem dX1_init_83 : decode cX1_init 83 = .ok (.invokespecial 31, 3) := by decide +kernel
theorem dX1_init_86 : decode cX1_init 86 = .ok (.putfield 45, 3) := by decide +kernel
theorem dX1_init_89 : decode cX1_init 89 = .ok (.aload_n 0, 1) := by decide +kernel
theorem dX1_init_90 : decode cX1_init 90 = .ok (.new 25, 3) := by decide +kernel
theorem dX1_init_93 : decode cX1_init 93 = .ok (.dup, 1) := by decide +kernel
theorem dX1_init_94 : decode cX1_init 94 = .ok (.invokespecial 31, 3) := by decide +kernel
theorem dX1_init_97 : decode cX1_init 97 = .ok (.putfield 48, 3) := by decide +kernel
theorem dX1_init_100 : decode cX1_init 100 = .ok (.aload_n 0, 1) := by decide +kernel
theorem dX1_init_101 : decode cX1_init 101 = .ok (.new 25, 3) := by decide +kernel
theorem dX1_init_104 : decode cX1_init 104 = .ok (.dup, 1) := by decide +kernel
theorem dX1_init_105 : decode cX1_init 105 = .ok (.invokespecial 31, 3) := by decide +kernel
theorem dX1_init_108 : decode cX1_init 108 = .ok (.putfield 51, 3) := by decide +kernel
theorem dX1_init_111 : decode cX1_init 111 = .ok (.aload_n 0, 1) := by decide +kernel
theorem dX1_init_112 : decode cX1_init 112 = .ok (.new 25, 3) := by decide +kernel
theorem dX1_init_115 : decode cX1_init 115 = .ok (.dup, 1) := by decide +kernel
theorem dX1_init_116 : decode cX1_init 116 = .ok (.invokespecial 31, 3) := by decide +kernel
theorem dX1_init_119 : decode cX1_init 119 = .ok (.putfield 54, 3) := by decide +kernel
theorem dX1_init_122 : decode cX1_init 122 = .ok (.aload_n 0, 1) := by decide +kernel
theorem dX1_init_123 : decode cX1_init 123 = .ok (.bipush 41, 2) := by decide +kernel
theorem dX1_init_125 : decode cX1_init 125 = .ok (.newarray .int, 2) := by decide +kernel
theorem dX1_init_127 : decode cX1_init 127 = .ok (.putfield 57, 3) := by decide +kernel
theorem dX1_init_130 : decode cX1_init 130 = .ok (.aload_n 0, 1) := by decide +kernel
theorem dX1_init_131 : decode cX1_init 131 = .ok (.bipush 41, 2) := by decide +kernel
theorem dX1_init_133 : decode cX1_init 133 = .ok (.newarray .int, 2) := by decide +kernel
theorem dX1_init_135 : decode cX1_init 135 = .ok (.putfield 60, 3) := by decide +kernel
theorem dX1_init_138 : decode cX1_init 138 = .ok (.aload_n 0, 1) := by decide +kernel
theorem dX1_init_139 : decode cX1_init 139 = .ok (.sipush 328, 3) := by decide +kernel
theorem dX1_init_142 : decode cX1_init 142 = .ok (.newarray .int, 2) := by decide +kernel
theorem dX1_init_144 : decode cX1_init 144 = .ok (.putfield 63, 3) := by decide +kernel
theorem dX1_init_147 : decode cX1_init 147 = .ok (.aload_n 0, 1) := by decide +kernel
theorem dX1_init_148 : decode cX1_init 148 = .ok (.new 66, 3) := by decide +kernel
theorem dX1_init_151 : decode cX1_init 151 = .ok (.dup, 1) := by decide +kernel
theorem dX1_init_152 : decode cX1_init 152 = .ok (.invokespecial 68, 3) := by decide +kernel
theorem dX1_init_155 : decode cX1_init 155 = .ok (.putfield 69, 3) := by decide +kernel
theorem dX1_init_158 : decode cX1_init 158 = .ok (.return_, 1) := by decide +kernel
theorem dX2_init_0 : decode cX2_init 0 = .ok (.aload_n 0, 1) := by decide +kernel
theorem dX2_init_1 : decode cX2_init 1 = .ok (.invokespecial 7, 3) := by decide +kernel
theorem dX2_init_4 : decode cX2_init 4 = .ok (.aload_n 0, 1) := by decide +kernel
theorem dX2_init_5 : decode cX2_init 5 = .ok (.sipush 4816, 3) := by decide +kernel
theorem dX2_init_8 : decode cX2_init 8 = .ok (.newarray .int, 2) := by decide +kernel
theorem dX2_init_10 : decode cX2_init 10 = .ok (.putfield 13, 3) := by decide +kernel
theorem dX2_init_13 : decode cX2_init 13 = .ok (.aload_n 0, 1) := by decide +kernel
theorem dX2_init_14 : decode cX2_init 14 = .ok (.sipush 4816, 3) := by decide +kernel
theorem dX2_init_17 : decode cX2_init 17 = .ok (.newarray .int, 2) := by decide +kernel
theorem dX2_init_19 : decode cX2_init 19 = .ok (.putfield 17, 3) := by decide +kernel
theorem dX2_init_22 : decode cX2_init 22 = .ok (.aload_n 0, 1) := by decide +kernel
theorem dX2_init_23 : decode cX2_init 23 = .ok (.bipush 41, 2) := by decide +kernel
theorem dX2_init_25 : decode cX2_init 25 = .ok (.newarray .int, 2) := by decide +kernel
theorem dX2_init_27 : decode cX2_init 27 = .ok (.putfield 20, 3) := by decide +kernel
theorem dX2_init_30 : decode cX2_init 30 = .ok (.aload_n 0, 1) := by decide +kernel
theorem dX2_init_31 : decode cX2_init 31 = .ok (.bipush 14, 2) := by decide +kernel
theorem dX2_init_33 : decode cX2_init 33 = .ok (.newarray .int, 2) := by decide +kernel
theorem dX2_init_35 : decode cX2_init 35 = .ok (.putfield 23, 3) := by decide +kernel
theorem dX2_init_38 : decode cX2_init 38 = .ok (.aload_n 0, 1) := by decide +kernel
theorem dX2_init_39 : decode cX2_init 39 = .ok (.ldc 26, 2) := by decide +kernel
theorem dX2_init_41 : decode cX2_init 41 = .ok (.newarray .int, 2) := by decide +kernel
theorem dX2_init_43 : decode cX2_init 43 = .ok (.putfield 27, 3) := by decide +kernel
theorem dX2_init_46 : decode cX2_init 46 = .ok (.aload_n 0, 1) := by decide +kernel
theorem dX2_init_47 : decode cX2_init 47 = .ok (.new 3, 3) := by decide +kernel
theorem dX2_init_50 : decode cX2_init 50 = .ok (.dup, 1) := by decide +kernel
theorem dX2_init_51 : decode cX2_init 51 = .ok (.invokespecial 30, 3) := by decide +kernel
theorem dX2_init_54 : decode cX2_init 54 = .ok (.putfield 31, 3) := by decide +kernel
theorem dX2_init_57 : decode cX2_init 57 = .ok (.aload_n 0, 1) := by decide +kernel
theorem dX2_init_58 : decode cX2_init 58 = .ok (.new 3, 3) := by decide +kernel
theorem dX2_init_61 : decode cX2_init 61 = .ok (.dup, 1) := by decide +kernel
theorem dX2_init_62 : decode cX2_init 62 = .ok (.invokespecial 30, 3) := by decide +kernel
theorem dX2_init_65 : decode cX2_init 65 = .ok (.putfield 35, 3) := by decide +kernel
theorem dX2_init_68 : decode cX2_init 68 = .ok (.aload_n 0, 1) := by decide +kernel
theorem dX2_init_69 : decode cX2_init 69 = .ok (.new 3, 3) := by decide +kernel
theorem dX2_init_72 : decode cX2_init 72 = .ok (.dup, 1) := by decide +kernel
theorem dX2_init_73 : decode cX2_init 73 = .ok (.invokespecial 30, 3) := by decide +kernel
theorem dX2_init_76 : decode cX2_init 76 = .ok (.putfield 38, 3) := by decide +kernel
theorem dX2_init_79 : decode cX2_init 79 = .ok (.aload_n 0, 1) := by decide +kernel
theorem dX2_init_80 : decode cX2_init 80 = .ok (.new 3, 3) := by decide +kernel
theorem dX2_init_83 : decode cX2_init 83 = .ok (.dup, 1) := by decide +kernel
theorem dX2_init_84 : decode cX2_init 84 = .ok (.invokespecial 30, 3) := by decide +kernel
theorem dX2_init_87 : decode cX2_init 87 = .ok (.putfield 41, 3) := by decide +kernel
theorem dX2_init_90 : decode cX2_init 90 = .ok (.aload_n 0, 1) := by decide +kernel
theorem dX2_init_91 : decode cX2_init 91 = .ok (.new 3, 3) := by decide +kernel
theorem dX2_init_94 : decode cX2_init 94 = .ok (.dup, 1) := by decide +kernel
theorem dX2_init_95 : decode cX2_init 95 = .ok (.invokespecial 30, 3) := by decide +kernel
theorem dX2_init_98 : decode cX2_init 98 = .ok (.putfield 44, 3) := by decide +kernel
theorem dX2_init_101 : decode cX2_init 101 = .ok (.aload_n 0, 1) := by decide +kernel
theorem dX2_init_102 : decode cX2_init 102 = .ok (.new 3, 3) := by decide +kernel
theorem dX2_init_105 : decode cX2_init 105 = .ok (.dup, 1) := by decide +kernel
theorem dX2_init_106 : decode cX2_init 106 = .ok (.invokespecial 30, 3) := by decide +kernel
theorem dX2_init_109 : decode cX2_init 109 = .ok (.putfield 47, 3) := by decide +kernel
theorem dX2_init_112 : decode cX2_init 112 = .ok (.aload_n 0, 1) := by decide +kernel
theorem dX2_init_113 : decode cX2_init 113 = .ok (.new 3, 3) := by decide +kernel
theorem dX2_init_116 : decode cX2_init 116 = .ok (.dup, 1) := by decide +kernel
theorem dX2_init_117 : decode cX2_init 117 = .ok (.invokespecial 30, 3) := by decide +kernel
theorem dX2_init_120 : decode cX2_init 120 = .ok (.putfield 50, 3) := by decide +kernel
theorem dX2_init_123 : decode cX2_init 123 = .ok (.aload_n 0, 1) := by decide +kernel
theorem dX2_init_124 : decode cX2_init 124 = .ok (.new 3, 3) := by decide +kernel
theorem dX2_init_127 : decode cX2_init 127 = .ok (.dup, 1) := by decide +kernel
theorem dX2_init_128 : decode cX2_init 128 = .ok (.invokespecial 30, 3) := by decide +kernel
theorem dX2_init_131 : decode cX2_init 131 = .ok (.putfield 53, 3) := by decide +kernel
theorem dX2_init_134 : decode cX2_init 134 = .ok (.return_, 1) := by decide +kernel
theorem dX3_init_0 : decode cX3_init 0 = .ok (.aload_n 0, 1) := by decide +kernel
theorem dX3_init_1 : decode cX3_init 1 = .ok (.invokespecial 3, 3) := by decide +kernel
theorem dX3_init_4 : decode cX3_init 4 = .ok (.aload_n 0, 1) := by decide +kernel
theorem dX3_init_5 : decode cX3_init 5 = .ok (.sipush 221, 3) := by decide +kernel
theorem dX3_init_8 : decode cX3_init 8 = .ok (.newarray .int, 2) := by decide +kernel
theorem dX3_init_10 : decode cX3_init 10 = .ok (.putfield 11, 3) := by decide +kernel
theorem dX3_init_13 : decode cX3_init 13 = .ok (.aload_n 0, 1) := by decide +kernel
theorem dX3_init_14 : decode cX3_init 14 = .ok (.bipush 13, 2) := by decide +kernel
theorem dX3_init_16 : decode cX3_init 16 = .ok (.newarray .boolean, 2) := by decide +kernel
theorem dX3_init_18 : decode cX3_init 18 = .ok (.putfield 15, 3) := by decide +kernel
theorem dX3_init_21 : decode cX3_init 21 = .ok (.return_, 1) := by decide +kernel
theorem dX4_init_0 : decode cX4_init 0 = .ok (.aload_n 0, 1) := by decide +kernel
theorem dX4_init_1 : decode cX4_init 1 = .ok (.invokespecial 3, 3) := by decide +kernel
theorem dX4_init_4 : decode cX4_init 4 = .ok (.aload_n 0, 1) := by decide +kernel
theorem dX4_init_5 : decode cX4_init 5 = .ok (.new 9, 3) := by decide +kernel
theorem dX4_init_8 : decode cX4_init 8 = .ok (.dup, 1) := by decide +kernel
theorem dX4_init_9 : decode cX4_init 9 = .ok (.iconst 0, 1) := by decide +kernel
theorem dX4_init_10 : decode cX4_init 10 = .ok (.invokespecial 11, 3) := by decide +kernel
theorem dX4_init_13 : decode cX4_init 13 = .ok (.putfield 14, 3) := by decide +kernel
theorem dX4_init_16 : decode cX4_init 16 = .ok (.aload_n 0, 1) := by decide +kernel
theorem dX4_init_17 : decode cX4_init 17 = .ok (.sipush 30001, 3) := by decide +kernel
theorem dX4_init_20 : decode cX4_init 20 = .ok (.newarray .int, 2) := by decide +kernel
theorem dX4_init_22 : decode cX4_init 22 = .ok (.putfield 20, 3) := by decide +kernel
theorem dX4_init_25 : decode cX4_init 25 = .ok (.return_, 1) := by decide +kernel
theorem dX5_init_0 : decode cX5_init 0 = .ok (.aload_n 0, 1) := by decide +kernel
theorem dX5_init_1 : decode cX5_init 1 = .ok (.invokespecial 3, 3) := by decide +kernel
theorem dX5_init_4 : decode cX5_init 4 = .ok (.aload_n 0, 1) := by decide +kernel
theorem dX5_init_5 : decode cX5_init 5 = .ok (.new 9, 3) := by decide +kernel
theorem dX5_init_8 : decode cX5_init 8 = .ok (.dup, 1) := by decide +kernel
theorem dX5_init_9 : decode cX5_init 9 = .ok (.sipush 1500, 3) := by decide +kernel
theorem dX5_init_12 : decode cX5_init 12 = .ok (.invokespecial 13, 3) := by decide +kernel
theorem dX5_init_15 : decode cX5_init 15 = .ok (.putfield 16, 3) := by decide +kernel
theorem dX5_init_18 : decode cX5_init 18 = .ok (.aload_n 0, 1) := by decide +kernel
theorem dX5_init_19 : decode cX5_init 19 = .ok (.new 9, 3) := by decide +kernel
theorem dX5_init_22 : decode cX5_init 22 = .ok (.dup, 1) := by decide +kernel
theorem dX5_init_23 : decode cX5_init 23 = .ok (.sipush 30000, 3) := by decide +kernel
theorem dX5_init_26 : decode cX5_init 26 = .ok (.invokespecial 13, 3) := by decide +kernel
theorem dX5_init_29 : decode cX5_init 29 = .ok (.putfield 20, 3) := by decide +kernel
theorem dX5_init_32 : decode cX5_init 32 = .ok (.aload_n 0, 1) := by decide +kernel
theorem dX5_init_33 : decode cX5_init 33 = .ok (.bipush 112, 2) := by decide +kernel
theorem dX5_init_35 : decode cX5_init 35 = .ok (.newarray .int, 2) := by decide +kernel
theorem dX5_init_37 : decode cX5_init 37 = .ok (.putfield 25, 3) := by decide +kernel
theorem dX5_init_40 : decode cX5_init 40 = .ok (.aload_n 0, 1) := by decide +kernel
theorem dX5_init_41 : decode cX5_init 41 = .ok (.new 23, 3) := by decide +kernel
theorem dX5_init_44 : decode cX5_init 44 = .ok (.dup, 1) := by decide +kernel
theorem dX5_init_45 : decode cX5_init 45 = .ok (.invokespecial 29, 3) := by decide +kernel
theorem dX5_init_48 : decode cX5_init 48 = .ok (.putfield 30, 3) := by decide +kernel
theorem dX5_init_51 : decode cX5_init 51 = .ok (.aload_n 0, 1) := by decide +kernel
theorem dX5_init_52 : decode cX5_init 52 = .ok (.new 23, 3) := by decide +kernel
theorem dX5_init_55 : decode cX5_init 55 = .ok (.dup, 1) := by decide +kernel
theorem dX5_init_56 : decode cX5_init 56 = .ok (.invokespecial 29, 3) := by decide +kernel
theorem dX5_init_59 : decode cX5_init 59 = .ok (.putfield 34, 3) := by decide +kernel
theorem dX5_init_62 : decode cX5_init 62 = .ok (.aload_n 0, 1) := by decide +kernel
theorem dX5_init_63 : decode cX5_init 63 = .ok (.new 23, 3) := by decide +kernel
theorem dX5_init_66 : decode cX5_init 66 = .ok (.dup, 1) := by decide +kernel
theorem dX5_init_67 : decode cX5_init 67 = .ok (.invokespecial 29, 3) := by decide +kernel
theorem dX5_init_70 : decode cX5_init 70 = .ok (.putfield 37, 3) := by decide +kernel
theorem dX5_init_73 : decode cX5_init 73 = .ok (.aload_n 0, 1) := by decide +kernel
theorem dX5_init_74 : decode cX5_init 74 = .ok (.new 23, 3) := by decide +kernel
theorem dX5_init_77 : decode cX5_init 77 = .ok (.dup, 1) := by decide +kernel
theorem dX5_init_78 : decode cX5_init 78 = .ok (.invokespecial 29, 3) := by decide +kernel
theorem dX5_init_81 : decode cX5_init 81 = .ok (.putfield 40, 3) := by decide +kernel
theorem dX5_init_84 : decode cX5_init 84 = .ok (.aload_n 0, 1) := by decide +kernel
theorem dX5_init_85 : decode cX5_init 85 = .ok (.new 23, 3) := by decide +kernel
theorem dX5_init_88 : decode cX5_init 88 = .ok (.dup, 1) := by decide +kernel
theorem dX5_init_89 : decode cX5_init 89 = .ok (.invokespecial 29, 3) := by decide +kernel
theorem dX5_init_92 : decode cX5_init 92 = .ok (.putfield 43, 3) := by decide +kernel
theorem dX5_init_95 : decode cX5_init 95 = .ok (.aload_n 0, 1) := by decide +kernel
theorem dX5_init_96 : decode cX5_init 96 = .ok (.new 23, 3) := by decide +kernel
theorem dX5_init_99 : decode cX5_init 99 = .ok (.dup, 1) := by decide +kernel
theorem dX5_init_100 : decode cX5_init 100 = .ok (.invokespecial 29, 3) := by decide +kernel
theorem dX5_init_103 : decode cX5_init 103 = .ok (.putfield 46, 3) := by decide +kernel
theorem dX5_init_106 : decode cX5_init 106 = .ok (.aload_n 0, 1) := by decide +kernel
theorem dX5_init_107 : decode cX5_init 107 = .ok (.new 23, 3) := by decide +kernel
theorem dX5_init_110 : decode cX5_init 110 = .ok (.dup, 1) := by decide +kernel
theorem dX5_init_111 : decode cX5_init 111 = .ok (.invokespecial 29, 3) := by decide +kernel
theorem dX5_init_114 : decode cX5_init 114 = .ok (.putfield 49, 3) := by decide +kernel
theorem dX5_init_117 : decode cX5_init 117 = .ok (.return_, 1) := by decide +kernel
theorem dX6_init_0 : decode cX6_init 0 = .ok (.aload_n 0, 1) := by decide +kernel
theorem dX6_init_1 : decode cX6_init 1 = .ok (.invokespecial 3, 3) := by decide +kernel
theorem dX6_init_4 : decode cX6_init 4 = .ok (.aload_n 0, 1) := by decide +kernel
theorem dX6_init_5 : decode cX6_init 5 = .ok (.sipush 4264, 3) := by decide +kernel
theorem dX6_init_8 : decode cX6_init 8 = .ok (.newarray .int, 2) := by decide +kernel
theorem dX6_init_10 : decode cX6_init 10 = .ok (.putfield 13, 3) := by decide +kernel
theorem dX6_init_13 : decode cX6_init 13 = .ok (.aload_n 0, 1) := by decide +kernel
theorem dX6_init_14 : decode cX6_init 14 = .ok (.sipush 328, 3) := by decide +kernel
theorem dX6_init_17 : decode cX6_init 17 = .ok (.newarray .int, 2) := by decide +kernel
theorem dX6_init_19 : decode cX6_init 19 = .ok (.putfield 17, 3) := by decide +kernel
theorem dX6_init_22 : decode cX6_init 22 = .ok (.aload_n 0, 1) := by decide +kernel
theorem dX6_init_23 : decode cX6_init 23 = .ok (.new 11, 3) := by decide +kernel
theorem dX6_init_26 : decode cX6_init 26 = .ok (.dup, 1) := by decide +kernel
theorem dX6_init_27 : decode cX6_init 27 = .ok (.invokespecial 20, 3) := by decide +kernel
theorem dX6_init_30 : decode cX6_init 30 = .ok (.putfield 21, 3) := by decide +kernel
theorem dX6_init_33 : decode cX6_init 33 = .ok (.aload_n 0, 1) := by decide +kernel
theorem dX6_init_34 : decode cX6_init 34 = .ok (.new 11, 3) := by decide +kernel
theorem dX6_init_37 : decode cX6_init 37 = .ok (.dup, 1) := by decide +kernel
theorem dX6_init_38 : decode cX6_init 38 = .ok (.invokespecial 20, 3) := by decide +kernel
theorem dX6_init_41 : decode cX6_init 41 = .ok (.putfield 25, 3) := by decide +kernel
theorem dX6_init_44 : decode cX6_init 44 = .ok (.aload_n 0, 1) := by decide +kernel
theorem dX6_init_45 : decode cX6_init 45 = .ok (.new 11, 3) := by decide +kernel
theorem dX6_init_48 : decode cX6_init 48 = .ok (.dup, 1) := by decide +kernel
theorem dX6_init_49 : decode cX6_init 49 = .ok (.invokespecial 20, 3) := by decide +kernel
theorem dX6_init_52 : decode cX6_init 52 = .ok (.putfield 28, 3) := by decide +kernel
theorem dX6_init_55 : decode cX6_init 55 = .ok (.aload_n 0, 1) := by decide +kernel
theorem dX6_init_56 : decode cX6_init 56 = .ok (.new 11, 3) := by decide +kernel
theorem dX6_init_59 : decode cX6_init 59 = .ok (.dup, 1) := by decide +kernel
theorem dX6_init_60 : decode cX6_init 60 = .ok (.invokespecial 20, 3) := by decide +kernel
theorem dX6_init_63 : decode cX6_init 63 = .ok (.putfield 31, 3) := by decide +kernel
theorem dX6_init_66 : decode cX6_init 66 = .ok (.aload_n 0, 1) := by decide +kernel
theorem dX6_init_67 : decode cX6_init 67 = .ok (.new 11, 3) := by decide +kernel
theorem dX6_init_70 : decode cX6_init 70 = .ok (.dup, 1) := by decide +kernel
theorem dX6_init_71 : decode cX6_init 71 = .ok (.invokespecial 20, 3) := by decide +kernel
theorem dX6_init_74 : decode cX6_init 74 = .ok (.putfield 34, 3) := by decide +kernel
theorem dX6_init_77 : decode cX6_init 77 = .ok (.aload_n 0, 1) := by decide +kernel
theorem dX6_init_78 : decode cX6_init 78 = .ok (.new 11, 3) := by decide +kernel
theorem dX6_init_81 : decode cX6_init 81 = .ok (.dup, 1) := by decide +kernel
theorem dX6_init_82 : decode cX6_init 82 = .ok (.invokespecial 20, 3) := by decide +kernel
theorem dX6_init_85 : decode cX6_init 85 = .ok (.putfield 37, 3) := by decide +kernel
theorem dX6_init_88 : decode cX6_init 88 = .ok (.return_, 1) := by decide +kernel
theorem dX7_init_0 : decode cX7_init 0 = .ok (.aload_n 0, 1) := by decide +kernel
theorem dX7_init_1 : decode cX7_init 1 = .ok (.invokespecial 3, 3) := by decide +kernel
theorem dX7_init_4 : decode cX7_init 4 = .ok (.aload_n 0, 1) := by decide +kernel
theorem dX7_init_5 : decode cX7_init 5 = .ok (.new 9, 3) := by decide +kernel
theorem dX7_init_8 : decode cX7_init 8 = .ok (.dup, 1) := by decide +kernel
theorem dX7_init_9 : decode cX7_init 9 = .ok (.invokespecial 11, 3) := by decide +kernel
theorem dX7_init_12 : decode cX7_init 12 = .ok (.putfield 12, 3) := by decide +kernel
theorem dX7_init_15 : decode cX7_init 15 = .ok (.aload_n 0, 1) := by decide +kernel
theorem dX7_init_16 : decode cX7_init 16 = .ok (.new 18, 3) := by decide +kernel
theorem dX7_init_19 : decode cX7_init 19 = .ok (.dup, 1) := by decide +kernel
theorem dX7_init_20 : decode cX7_init 20 = .ok (.invokespecial 20, 3) := by decide +kernel
theorem dX7_init_23 : decode cX7_init 23 = .ok (.putfield 21, 3) := by decide +kernel
theorem dX7_init_26 : decode cX7_init 26 = .ok (.aload_n 0, 1) := by decide +kernel
theorem dX7_init_27 : decode cX7_init 27 = .ok (.new 25, 3) := by decide +kernel
theorem dX7_init_30 : decode cX7_init 30 = .ok (.dup, 1) := by decide +kernel
theorem dX7_init_31 : decode cX7_init 31 = .ok (.invokespecial 27, 3) := by decide +kernel
theorem dX7_init_34 : decode cX7_init 34 = .ok (.putfield 28, 3) := by decide +kernel
theorem dX7_init_37 : decode cX7_init 37 = .ok (.aload_n 0, 1) := by decide +kernel
theorem dX7_init_38 : decode cX7_init 38 = .ok (.new 32, 3) := by decide +kernel
theorem dX7_init_41 : decode cX7_init 41 = .ok (.dup, 1) := by decide +kernel
theorem dX7_init_42 : decode cX7_init 42 = .ok (.invokespecial 34, 3) := by decide +kernel
theorem dX7_init_45 : decode cX7_init 45 = .ok (.putfield 35, 3) := by decide +kernel
theorem dX7_init_48 : decode cX7_init 48 = .ok (.aload_n 0, 1) := by decide +kernel
theorem dX7_init_49 : decode cX7_init 49 = .ok (.new 32, 3) := by decide +kernel
theorem dX7_init_52 : decode cX7_init 52 = .ok (.dup, 1) := by decide +kernel
theorem dX7_init_53 : decode cX7_init 53 = .ok (.invokespecial 34, 3) := by decide +kernel
theorem dX7_init_56 : decode cX7_init 56 = .ok (.putfield 39, 3) := by decide +kernel
theorem dX7_init_59 : decode cX7_init 59 = .ok (.aload_n 0, 1) := by decide +kernel
theorem dX7_init_60 : decode cX7_init 60 = .ok (.new 32, 3) := by decide +kernel
theorem dX7_init_63 : decode cX7_init 63 = .ok (.dup, 1) := by decide +kernel
theorem dX7_init_64 : decode cX7_init 64 = .ok (.invokespecial 34, 3) := by decide +kernel
theorem dX7_init_67 : decode cX7_init 67 = .ok (.putfield 42, 3) := by decide +kernel
theorem dX7_init_70 : decode cX7_init 70 = .ok (.aload_n 0, 1) := by decide +kernel
theorem dX7_init_71 : decode cX7_init 71 = .ok (.new 32, 3) := by decide +kernel
theorem dX7_init_74 : decode cX7_init 74 = .ok (.dup, 1) := by decide +kernel
theorem dX7_init_75 : decode cX7_init 75 = .ok (.invokespecial 34, 3) := by decide +kernel
theorem dX7_init_78 : decode cX7_init 78 = .ok (.putfield 45, 3) := by decide +kernel
theorem dX7_init_81 : decode cX7_init 81 = .ok (.aload_n 0, 1) := by decide +kernel
theorem dX7_init_82 : decode cX7_init 82 = .ok (.new 48, 3) := by decide +kernel
theorem dX7_init_85 : decode cX7_init 85 = .ok (.dup, 1) := by decide +kernel
theorem dX7_init_86 : decode cX7_init 86 = .ok (.invokespecial 50, 3) := by decide +kernel
theorem dX7_init_89 : decode cX7_init 89 = .ok (.putfield 51, 3) := by decide +kernel
theorem dX7_init_92 : decode cX7_init 92 = .ok (.return_, 1) := by decide +kernel
theorem dX8_init_0 : decode cX8_init 0 = .ok (.aload_n 0, 1) := by decide +kernel
theorem dX8_init_1 : decode cX8_init 1 = .ok (.invokespecial 3, 3) := by decide +kernel
theorem dX8_init_4 : decode cX8_init 4 = .ok (.aload_n 0, 1) := by decide +kernel
theorem dX8_init_5 : decode cX8_init 5 = .ok (.sipush 2001, 3) := by decide +kernel
theorem dX8_init_8 : decode cX8_init 8 = .ok (.newarray .int, 2) := by decide +kernel
theorem dX8_init_10 : decode cX8_init 10 = .ok (.putfield 11, 3) := by decide +kernel
theorem dX8_init_13 : decode cX8_init 13 = .ok (.aload_n 0, 1) := by decide +kernel
theorem dX8_init_14 : decode cX8_init 14 = .ok (.sipush 2001, 3) := by decide +kernel
theorem dX8_init_17 : decode cX8_init 17 = .ok (.newarray .int, 2) := by decide +kernel
theorem dX8_init_19 : decode cX8_init 19 = .ok (.putfield 15, 3) := by decide +kernel
theorem dX8_init_22 : decode cX8_init 22 = .ok (.aload_n 0, 1) := by decide +kernel
theorem dX8_init_23 : decode cX8_init 23 = .ok (.sipush 2001, 3) := by decide +kernel
theorem dX8_init_26 : decode cX8_init 26 = .ok (.newarray .long, 2) := by decide +kernel
theorem dX8_init_28 : decode cX8_init 28 = .ok (.putfield 18, 3) := by decide +kernel
theorem dX8_init_31 : decode cX8_init 31 = .ok (.return_, 1) := by decide +kernel
theorem dX9_init_0 : decode cX9_init 0 = .ok (.aload_n 0, 1) := by decide +kernel
theorem dX9_init_1 : decode cX9_init 1 = .ok (.invokespecial 5, 3) := by decide +kernel
theorem dX9_init_4 : decode cX9_init 4 = .ok (.aload_n 0, 1) := by decide +kernel
theorem dX9_init_5 : decode cX9_init 5 = .ok (.new 11, 3) := by decide +kernel
theorem dX9_init_8 : decode cX9_init 8 = .ok (.dup, 1) := by decide +kernel
theorem dX9_init_9 : decode cX9_init 9 = .ok (.invokespecial 13, 3) := by decide +kernel
theorem dX9_init_12 : decode cX9_init 12 = .ok (.putfield 14, 3) := by decide +kernel
theorem dX9_init_15 : decode cX9_init 15 = .ok (.aload_n 0, 1) := by decide +kernel
theorem dX9_init_16 : decode cX9_init 16 = .ok (.sipush 128, 3) := by decide +kernel
theorem dX9_init_19 : decode cX9_init 19 = .ok (.newarray .long, 2) := by decide +kernel
theorem dX9_init_21 : decode cX9_init 21 = .ok (.putfield 18, 3) := by decide +kernel
theorem dX9_init_24 : decode cX9_init 24 = .ok (.aload_n 0, 1) := by decide +kernel
theorem dX9_init_25 : decode cX9_init 25 = .ok (.sipush 768, 3) := by decide +kernel
theorem dX9_init_28 : decode cX9_init 28 = .ok (.newarray .int, 2) := by decide +kernel
theorem dX9_init_30 : decode cX9_init 30 = .ok (.putfield 22, 3) := by decide +kernel
theorem dX9_init_33 : decode cX9_init 33 = .ok (.aload_n 0, 1) := by decide +kernel
theorem dX9_init_34 : decode cX9_init 34 = .ok (.sipush 1728, 3) := by decide +kernel
theorem dX9_init_37 : decode cX9_init 37 = .ok (.newarray .int, 2) := by decide +kernel
theorem dX9_init_39 : decode cX9_init 39 = .ok (.putfield 26, 3) := by decide +kernel
theorem dX9_init_42 : decode cX9_init 42 = .ok (.aload_n 0, 1) := by decide +kernel
theorem dX9_init_43 : decode cX9_init 43 = .ok (.bipush 31, 2) := by decide +kernel
theorem dX9_init_45 : decode cX9_init 45 = .ok (.bipush 13, 2) := by decide +kernel
theorem dX9_init_47 : decode cX9_init 47 = .ok (.multianewarray 29 2, 4) := by decide +kernel
theorem dX9_init_51 : decode cX9_init 51 = .ok (.putfield 31, 3) := by decide +kernel
theorem dX9_init_54 : decode cX9_init 54 = .ok (.aload_n 0, 1) := by decide +kernel
theorem dX9_init_55 : decode cX9_init 55 = .ok (.bipush 31, 2) := by decide +kernel
theorem dX9_init_57 : decode cX9_init 57 = .ok (.bipush 13, 2) := by decide +kernel
theorem dX9_init_59 : decode cX9_init 59 = .ok (.multianewarray 29 2, 4) := by decide +kernel
theorem dX9_init_63 : decode cX9_init 63 = .ok (.putfield 34, 3) := by decide +kernel
theorem dX9_init_66 : decode cX9_init 66 = .ok (.aload_n 0, 1) := by decide +kernel
theorem dX9_init_67 : decode cX9_init 67 = .ok (.bipush 31, 2) := by decide +kernel
theorem dX9_init_69 : decode cX9_init 69 = .ok (.bipush 13, 2) := by decide +kernel
theorem dX9_init_71 : decode cX9_init 71 = .ok (.multianewarray 29 2, 4) := by decide +kernel
theorem dX9_init_75 : decode cX9_init 75 = .ok (.putfield 37, 3) := by decide +kernel
theorem dX9_init_78 : decode cX9_init 78 = .ok (.aload_n 0, 1) := by decide +kernel
theorem dX9_init_79 : decode cX9_init 79 = .ok (.bipush 13, 2) := by decide +kernel
theorem dX9_init_81 : decode cX9_init 81 = .ok (.newarray .long, 2) := by decide +kernel
theorem dX9_init_83 : decode cX9_init 83 = .ok (.putfield 40, 3) := by decide +kernel
theorem dX9_init_86 : decode cX9_init 86 = .ok (.aload_n 0, 1) := by decide +kernel
theorem dX9_init_87 : decode cX9_init 87 = .ok (.new 43, 3) := by decide +kernel
theorem dX9_init_90 : decode cX9_init 90 = .ok (.dup, 1) := by decide +kernel
theorem dX9_init_91 : decode cX9_init 91 = .ok (.invokespecial 45, 3) := by decide +kernel
theorem dX9_init_94 : decode cX9_init 94 = .ok (.putfield 46, 3) := by decide +kernel
theorem dX9_init_97 : decode cX9_init 97 = .ok (.return_, 1) := by decide +kernel
end
section
theorem w_232 : Cond.methodLink RX11 1 objectInit ∈ tb := tb_in 232 (by decide +kernel) rfl
theorem w_233 : Cond.instanceMethod objectInit ∈ tb := tb_in 233 (by decide +kernel) rfl
theorem w_234 : Cond.code objectInit ⟨#[0xb1]⟩ 1 none ∈ tb := tb_in 234 (by decide +kernel) rfl
theorem inX10 : ∀ w ∈ u_ws RX10 TX10 3, w ∈ tb := in_r [247, 249, 251] (by decide +kernel) (by decide +kernel)
theorem w_235 : Cond.classLink RX11 7 RX10 ∈ tb := tb_in 235 (by decide +kernel) rfl
theorem w_236 : Cond.instantiable RX10 3 ∈ tb := tb_in 236 (by decide +kernel) rfl
theorem w_205 : Cond.initialized RX10 ∈ tb := tb_in 205 (by decide +kernel) rfl
theorem w_237 : Cond.methodLink RX11 11 yX10_init ∈ tb := tb_in 237 (by decide +kernel) rfl
theorem w_239 : Cond.code yX10_init cX10_init 2 none ∈ tb := tb_in 239 (by decide +kernel) rfl
theorem w_238 : Cond.instanceMethod yX10_init ∈ tb := tb_in 238 (by decide +kernel) rfl
theorem w_240 : Cond.methodLink RX10 3 objectInit ∈ tb := tb_in 240 (by decide +kernel) rfl
theorem w_241 : Cond.methodLink RX10 9 Lib.Math.max.name ∈ tb := tb_in 241 (by decide +kernel) rfl
theorem w_242 : Cond.static Lib.Math.max.name ∈ tb := tb_in 242 (by decide +kernel) rfl
theorem w_206 : Cond.initialized "java/lang/Math" ∈ tb := tb_in 206 (by decide +kernel) rfl
theorem w_243 : Cond.code Lib.Math.max.name Lib.Math.max.code 2 (some .int) ∈ tb := tb_in 243 (by decide +kernel) rfl
theorem w_254 : Cond.arrayClass .byte ∈ tb := tb_in 254 (by decide +kernel) rfl
theorem w_244 : Cond.fieldLink RX10 15 (TX10 0).1 (TX10 0).2.1 (TX10 0).2.2.1 ∈ tb := tb_in 244 (by decide +kernel) rfl
theorem inX11 : ∀ w ∈ u_ws RX11 TX11 11, w ∈ tb := in_r [715, 717, 719, 721, 723, 725, 727, 729, 731, 733, 735] (by decide +kernel) (by decide +kernel)
theorem w_704 : Cond.fieldLink RX11 14 (TX11 0).1 (TX11 0).2.1 (TX11 0).2.2.1 ∈ tb := tb_in 704 (by decide +kernel) rfl
theorem w_705 : Cond.fieldLink RX11 18 (TX11 1).1 (TX11 1).2.1 (TX11 1).2.2.1 ∈ tb := tb_in 705 (by decide +kernel) rfl
theorem inX3 : ∀ w ∈ u_ws RX3 TX3 5, w ∈ tb := in_r [283, 285, 287, 289, 291] (by decide +kernel) (by decide +kernel)
theorem w_255 : Cond.classLink RX11 21 RX3 ∈ tb := tb_in 255 (by decide +kernel) rfl
theorem w_256 : Cond.instantiable RX3 5 ∈ tb := tb_in 256 (by decide +kernel) rfl
theorem w_207 : Cond.initialized RX3 ∈ tb := tb_in 207 (by decide +kernel) rfl
theorem w_257 : Cond.methodLinkNest RX11 23 yX3_init "OptimumHouse" ∈ nst := nst_in 257 (by decide +kernel) rfl
theorem w_259 : Cond.code yX3_init cX3_init 1 none ∈ tb := tb_in 259 (by decide +kernel) rfl
theorem w_258 : Cond.instanceMethod yX3_init ∈ tb := tb_in 258 (by decide +kernel) rfl
theorem w_260 : Cond.methodLink RX3 3 objectInit ∈ tb := tb_in 260 (by decide +kernel) rfl
theorem w_294 : Cond.arrayClass .int ∈ tb := tb_in 294 (by decide +kernel) rfl
theorem w_261 : Cond.fieldLink RX3 11 (TX3 0).1 (TX3 0).2.1 (TX3 0).2.2.1 ∈ tb := tb_in 261 (by decide +kernel) rfl
theorem w_295 : Cond.arrayClass .boolean ∈ tb := tb_in 295 (by decide +kernel) rfl
theorem w_262 : Cond.fieldLink RX3 15 (TX3 1).1 (TX3 1).2.1 (TX3 1).2.2.1 ∈ tb := tb_in 262 (by decide +kernel) rfl
theorem w_709 : Cond.fieldLink RX11 24 (TX11 5).1 (TX11 5).2.1 (TX11 5).2.2.1 ∈ tb := tb_in 709 (by decide +kernel) rfl
theorem w_710 : Cond.fieldLink RX11 28 (TX11 6).1 (TX11 6).2.1 (TX11 6).2.2.1 ∈ tb := tb_in 710 (by decide +kernel) rfl
theorem inX9 : ∀ w ∈ u_ws RX9 TX9 17, w ∈ tb := in_r [346, 348, 350, 352, 354, 356, 358, 360, 362, 364, 366, 368, 370, 372, 374, 376, 378] (by decide +kernel) (by decide +kernel)
theorem w_296 : Cond.classLink RX11 31 RX9 ∈ tb := tb_in 296 (by decide +kernel) rfl
theorem w_297 : Cond.instantiable RX9 17 ∈ tb := tb_in 297 (by decide +kernel) rfl
theorem w_208 : Cond.initialized RX9 ∈ tb := tb_in 208 (by decide +kernel) rfl
theorem w_298 : Cond.methodLinkNest RX11 33 yX9_init "OptimumHouse" ∈ nst := nst_in 298 (by decide +kernel) rfl
theorem w_300 : Cond.code yX9_init cX9_init 1 none ∈ tb := tb_in 300 (by decide +kernel) rfl
theorem w_299 : Cond.instanceMethod yX9_init ∈ tb := tb_in 299 (by decide +kernel) rfl
theorem w_301 : Cond.methodLink RX9 5 objectInit ∈ tb := tb_in 301 (by decide +kernel) rfl
theorem inX8 : ∀ w ∈ u_ws RX8 TX8 5, w ∈ tb := in_r [313, 315, 317, 319, 321] (by decide +kernel) (by decide +kernel)
theorem w_302 : Cond.classLink RX9 11 RX8 ∈ tb := tb_in 302 (by decide +kernel) rfl
theorem w_303 : Cond.instantiable RX8 5 ∈ tb := tb_in 303 (by decide +kernel) rfl
theorem w_209 : Cond.initialized RX8 ∈ tb := tb_in 209 (by decide +kernel) rfl
theorem w_304 : Cond.methodLinkNest RX9 13 yX8_init "OptimumHouse" ∈ nst := nst_in 304 (by decide +kernel) rfl
theorem w_306 : Cond.code yX8_init cX8_init 1 none ∈ tb := tb_in 306 (by decide +kernel) rfl
theorem w_305 : Cond.instanceMethod yX8_init ∈ tb := tb_in 305 (by decide +kernel) rfl
theorem w_307 : Cond.methodLink RX8 3 objectInit ∈ tb := tb_in 307 (by decide +kernel) rfl
theorem w_308 : Cond.fieldLink RX8 11 (TX8 0).1 (TX8 0).2.1 (TX8 0).2.2.1 ∈ tb := tb_in 308 (by decide +kernel) rfl
theorem w_309 : Cond.fieldLink RX8 15 (TX8 1).1 (TX8 1).2.1 (TX8 1).2.2.1 ∈ tb := tb_in 309 (by decide +kernel) rfl
theorem w_324 : Cond.arrayClass .long ∈ tb := tb_in 324 (by decide +kernel) rfl
theorem w_310 : Cond.fieldLink RX8 18 (TX8 2).1 (TX8 2).2.1 (TX8 2).2.2.1 ∈ tb := tb_in 310 (by decide +kernel) rfl
theorem w_329 : Cond.fieldLink RX9 14 (TX9 0).1 (TX9 0).2.1 (TX9 0).2.2.1 ∈ tb := tb_in 329 (by decide +kernel) rfl
theorem w_330 : Cond.fieldLink RX9 18 (TX9 1).1 (TX9 1).2.1 (TX9 1).2.2.1 ∈ tb := tb_in 330 (by decide +kernel) rfl
theorem w_331 : Cond.fieldLink RX9 22 (TX9 2).1 (TX9 2).2.1 (TX9 2).2.2.1 ∈ tb := tb_in 331 (by decide +kernel) rfl
theorem w_332 : Cond.fieldLink RX9 26 (TX9 3).1 (TX9 3).2.1 (TX9 3).2.2.1 ∈ tb := tb_in 332 (by decide +kernel) rfl
theorem w_325 : Cond.classLink RX9 29 ("[" ++ (FieldType.array .long).toString) ∈ tb := tb_in 325 (by decide +kernel) rfl
theorem w_333 : Cond.fieldLink RX9 31 (TX9 4).1 (TX9 4).2.1 (TX9 4).2.2.1 ∈ tb := tb_in 333 (by decide +kernel) rfl
theorem w_334 : Cond.fieldLink RX9 34 (TX9 5).1 (TX9 5).2.1 (TX9 5).2.2.1 ∈ tb := tb_in 334 (by decide +kernel) rfl
theorem w_335 : Cond.fieldLink RX9 37 (TX9 6).1 (TX9 6).2.1 (TX9 6).2.2.1 ∈ tb := tb_in 335 (by decide +kernel) rfl
theorem w_336 : Cond.fieldLink RX9 40 (TX9 7).1 (TX9 7).2.1 (TX9 7).2.2.1 ∈ tb := tb_in 336 (by decide +kernel) rfl
theorem w_327 : Cond.classLink RX9 43 RX3 ∈ tb := tb_in 327 (by decide +kernel) rfl
theorem w_328 : Cond.methodLinkNest RX9 45 yX3_init "OptimumHouse" ∈ nst := nst_in 328 (by decide +kernel) rfl
theorem w_337 : Cond.fieldLink RX9 46 (TX9 8).1 (TX9 8).2.1 (TX9 8).2.2.1 ∈ tb := tb_in 337 (by decide +kernel) rfl
theorem w_706 : Cond.fieldLink RX11 34 (TX11 2).1 (TX11 2).2.1 (TX11 2).2.2.1 ∈ tb := tb_in 706 (by decide +kernel) rfl
theorem inX7 : ∀ w ∈ u_ws RX7 TX7 17, w ∈ tb := in_r [581, 583, 585, 587, 589, 591, 593, 595, 597, 599, 601, 603, 605, 607, 609, 611, 613] (by decide +kernel) (by decide +kernel)
theorem w_381 : Cond.classLink RX11 38 RX7 ∈ tb := tb_in 381 (by decide +kernel) rfl
theorem w_382 : Cond.instantiable RX7 17 ∈ tb := tb_in 382 (by decide +kernel) rfl
theorem w_210 : Cond.initialized RX7 ∈ tb := tb_in 210 (by decide +kernel) rfl
theorem w_383 : Cond.methodLinkNest RX11 40 yX7_init "OptimumHouse" ∈ nst := nst_in 383 (by decide +kernel) rfl
theorem w_385 : Cond.code yX7_init cX7_init 1 none ∈ tb := tb_in 385 (by decide +kernel) rfl
theorem w_384 : Cond.instanceMethod yX7_init ∈ tb := tb_in 384 (by decide +kernel) rfl
theorem w_386 : Cond.methodLink RX7 3 objectInit ∈ tb := tb_in 386 (by decide +kernel) rfl
theorem inX6 : ∀ w ∈ u_ws RX6 TX6 10, w ∈ tb := in_r [426, 428, 430, 432, 434, 436, 438, 440, 442, 444] (by decide +kernel) (by decide +kernel)
theorem w_387 : Cond.classLink RX7 9 RX6 ∈ tb := tb_in 387 (by decide +kernel) rfl
theorem w_388 : Cond.instantiable RX6 10 ∈ tb := tb_in 388 (by decide +kernel) rfl
theorem w_211 : Cond.initialized RX6 ∈ tb := tb_in 211 (by decide +kernel) rfl
theorem w_389 : Cond.methodLinkNest RX7 11 yX6_init "OptimumHouse" ∈ nst := nst_in 389 (by decide +kernel) rfl
theorem w_391 : Cond.code yX6_init cX6_init 1 none ∈ tb := tb_in 391 (by decide +kernel) rfl
theorem w_390 : Cond.instanceMethod yX6_init ∈ tb := tb_in 390 (by decide +kernel) rfl
theorem w_392 : Cond.methodLink RX6 3 objectInit ∈ tb := tb_in 392 (by decide +kernel) rfl
theorem w_416 : Cond.fieldLink RX6 13 (TX6 0).1 (TX6 0).2.1 (TX6 0).2.2.1 ∈ tb := tb_in 416 (by decide +kernel) rfl
theorem w_417 : Cond.fieldLink RX6 17 (TX6 1).1 (TX6 1).2.1 (TX6 1).2.2.1 ∈ tb := tb_in 417 (by decide +kernel) rfl
theorem inX0 : ∀ w ∈ u_ws RX0 TX0 3, w ∈ tb := in_r [409, 411, 413] (by decide +kernel) (by decide +kernel)
theorem w_393 : Cond.classLink RX6 11 RX0 ∈ tb := tb_in 393 (by decide +kernel) rfl
theorem w_394 : Cond.instantiable RX0 3 ∈ tb := tb_in 394 (by decide +kernel) rfl
theorem w_212 : Cond.initialized RX0 ∈ tb := tb_in 212 (by decide +kernel) rfl
theorem w_395 : Cond.methodLinkNest RX6 20 yX0_init "OptimumHouse" ∈ nst := nst_in 395 (by decide +kernel) rfl
theorem w_397 : Cond.code yX0_init cX0_init 1 none ∈ tb := tb_in 397 (by decide +kernel) rfl
theorem w_396 : Cond.instanceMethod yX0_init ∈ tb := tb_in 396 (by decide +kernel) rfl
theorem w_398 : Cond.methodLink RX0 1 objectInit ∈ tb := tb_in 398 (by decide +kernel) rfl
theorem w_399 : Cond.fieldLink RX0 9 (TX0 0).1 (TX0 0).2.1 (TX0 0).2.2.1 ∈ tb := tb_in 399 (by decide +kernel) rfl
theorem w_418 : Cond.fieldLink RX6 21 (TX6 2).1 (TX6 2).2.1 (TX6 2).2.2.1 ∈ tb := tb_in 418 (by decide +kernel) rfl
theorem w_419 : Cond.fieldLink RX6 25 (TX6 3).1 (TX6 3).2.1 (TX6 3).2.2.1 ∈ tb := tb_in 419 (by decide +kernel) rfl
theorem w_420 : Cond.fieldLink RX6 28 (TX6 4).1 (TX6 4).2.1 (TX6 4).2.2.1 ∈ tb := tb_in 420 (by decide +kernel) rfl
theorem w_421 : Cond.fieldLink RX6 31 (TX6 5).1 (TX6 5).2.1 (TX6 5).2.2.1 ∈ tb := tb_in 421 (by decide +kernel) rfl
theorem w_422 : Cond.fieldLink RX6 34 (TX6 6).1 (TX6 6).2.1 (TX6 6).2.2.1 ∈ tb := tb_in 422 (by decide +kernel) rfl
theorem w_423 : Cond.fieldLink RX6 37 (TX6 7).1 (TX6 7).2.1 (TX6 7).2.2.1 ∈ tb := tb_in 423 (by decide +kernel) rfl
theorem w_562 : Cond.fieldLink RX7 12 (TX7 0).1 (TX7 0).2.1 (TX7 0).2.2.1 ∈ tb := tb_in 562 (by decide +kernel) rfl
theorem inX2 : ∀ w ∈ u_ws RX2 TX2 20, w ∈ tb := in_r [476, 478, 480, 482, 484, 486, 488, 490, 492, 494, 496, 498, 500, 502, 504, 506, 508, 510, 512, 514] (by decide +kernel) (by decide +kernel)
theorem w_447 : Cond.classLink RX7 18 RX2 ∈ tb := tb_in 447 (by decide +kernel) rfl
theorem w_448 : Cond.instantiable RX2 20 ∈ tb := tb_in 448 (by decide +kernel) rfl
theorem w_213 : Cond.initialized RX2 ∈ tb := tb_in 213 (by decide +kernel) rfl
theorem w_449 : Cond.methodLinkNest RX7 20 yX2_init "OptimumHouse" ∈ nst := nst_in 449 (by decide +kernel) rfl
theorem w_451 : Cond.code yX2_init cX2_init 1 none ∈ tb := tb_in 451 (by decide +kernel) rfl
theorem w_450 : Cond.instanceMethod yX2_init ∈ tb := tb_in 450 (by decide +kernel) rfl
theorem w_452 : Cond.methodLink RX2 7 objectInit ∈ tb := tb_in 452 (by decide +kernel) rfl
theorem w_456 : Cond.fieldLink RX2 13 (TX2 0).1 (TX2 0).2.1 (TX2 0).2.2.1 ∈ tb := tb_in 456 (by decide +kernel) rfl
theorem w_457 : Cond.fieldLink RX2 17 (TX2 1).1 (TX2 1).2.1 (TX2 1).2.2.1 ∈ tb := tb_in 457 (by decide +kernel) rfl
theorem w_458 : Cond.fieldLink RX2 20 (TX2 2).1 (TX2 2).2.1 (TX2 2).2.2.1 ∈ tb := tb_in 458 (by decide +kernel) rfl
theorem w_459 : Cond.fieldLink RX2 23 (TX2 3).1 (TX2 3).2.1 (TX2 3).2.2.1 ∈ tb := tb_in 459 (by decide +kernel) rfl
theorem w_453 : Cond.constant RX2 26 102220 ∈ tb := tb_in 453 (by decide +kernel) rfl
theorem w_460 : Cond.fieldLink RX2 27 (TX2 4).1 (TX2 4).2.1 (TX2 4).2.2.1 ∈ tb := tb_in 460 (by decide +kernel) rfl
theorem w_454 : Cond.classLink RX2 3 RX0 ∈ tb := tb_in 454 (by decide +kernel) rfl
theorem w_455 : Cond.methodLinkNest RX2 30 yX0_init "OptimumHouse" ∈ nst := nst_in 455 (by decide +kernel) rfl
theorem w_461 : Cond.fieldLink RX2 31 (TX2 5).1 (TX2 5).2.1 (TX2 5).2.2.1 ∈ tb := tb_in 461 (by decide +kernel) rfl
theorem w_462 : Cond.fieldLink RX2 35 (TX2 6).1 (TX2 6).2.1 (TX2 6).2.2.1 ∈ tb := tb_in 462 (by decide +kernel) rfl
theorem w_463 : Cond.fieldLink RX2 38 (TX2 7).1 (TX2 7).2.1 (TX2 7).2.2.1 ∈ tb := tb_in 463 (by decide +kernel) rfl
theorem w_464 : Cond.fieldLink RX2 41 (TX2 8).1 (TX2 8).2.1 (TX2 8).2.2.1 ∈ tb := tb_in 464 (by decide +kernel) rfl
theorem w_465 : Cond.fieldLink RX2 44 (TX2 9).1 (TX2 9).2.1 (TX2 9).2.2.1 ∈ tb := tb_in 465 (by decide +kernel) rfl
theorem w_466 : Cond.fieldLink RX2 47 (TX2 10).1 (TX2 10).2.1 (TX2 10).2.2.1 ∈ tb := tb_in 466 (by decide +kernel) rfl
theorem w_467 : Cond.fieldLink RX2 50 (TX2 11).1 (TX2 11).2.1 (TX2 11).2.2.1 ∈ tb := tb_in 467 (by decide +kernel) rfl
theorem w_468 : Cond.fieldLink RX2 53 (TX2 12).1 (TX2 12).2.1 (TX2 12).2.2.1 ∈ tb := tb_in 468 (by decide +kernel) rfl
theorem w_563 : Cond.fieldLink RX7 21 (TX7 1).1 (TX7 1).2.1 (TX7 1).2.2.1 ∈ tb := tb_in 563 (by decide +kernel) rfl
theorem inX5 : ∀ w ∈ u_ws RX5 TX5 10, w ∈ tb := in_r [537, 539, 541, 543, 545, 547, 549, 551, 553, 555] (by decide +kernel) (by decide +kernel)
theorem w_517 : Cond.classLink RX7 25 RX5 ∈ tb := tb_in 517 (by decide +kernel) rfl
theorem w_518 : Cond.instantiable RX5 10 ∈ tb := tb_in 518 (by decide +kernel) rfl
theorem w_214 : Cond.initialized RX5 ∈ tb := tb_in 214 (by decide +kernel) rfl
theorem w_519 : Cond.methodLinkNest RX7 27 yX5_init "OptimumHouse" ∈ nst := nst_in 519 (by decide +kernel) rfl
theorem w_521 : Cond.code yX5_init cX5_init 1 none ∈ tb := tb_in 521 (by decide +kernel) rfl
theorem w_520 : Cond.instanceMethod yX5_init ∈ tb := tb_in 520 (by decide +kernel) rfl
theorem w_522 : Cond.methodLink RX5 3 objectInit ∈ tb := tb_in 522 (by decide +kernel) rfl
theorem w_523 : Cond.classLink RX5 9 RX10 ∈ tb := tb_in 523 (by decide +kernel) rfl
theorem w_524 : Cond.methodLink RX5 13 yX10_init ∈ tb := tb_in 524 (by decide +kernel) rfl
theorem w_527 : Cond.fieldLink RX5 16 (TX5 0).1 (TX5 0).2.1 (TX5 0).2.2.1 ∈ tb := tb_in 527 (by decide +kernel) rfl
theorem w_528 : Cond.fieldLink RX5 20 (TX5 1).1 (TX5 1).2.1 (TX5 1).2.2.1 ∈ tb := tb_in 528 (by decide +kernel) rfl
theorem w_529 : Cond.fieldLink RX5 25 (TX5 2).1 (TX5 2).2.1 (TX5 2).2.2.1 ∈ tb := tb_in 529 (by decide +kernel) rfl
theorem w_525 : Cond.classLink RX5 23 RX0 ∈ tb := tb_in 525 (by decide +kernel) rfl
theorem w_526 : Cond.methodLinkNest RX5 29 yX0_init "OptimumHouse" ∈ nst := nst_in 526 (by decide +kernel) rfl
theorem w_530 : Cond.fieldLink RX5 30 (TX5 3).1 (TX5 3).2.1 (TX5 3).2.2.1 ∈ tb := tb_in 530 (by decide +kernel) rfl
theorem w_531 : Cond.fieldLink RX5 34 (TX5 4).1 (TX5 4).2.1 (TX5 4).2.2.1 ∈ tb := tb_in 531 (by decide +kernel) rfl
theorem w_532 : Cond.fieldLink RX5 37 (TX5 5).1 (TX5 5).2.1 (TX5 5).2.2.1 ∈ tb := tb_in 532 (by decide +kernel) rfl
theorem w_533 : Cond.fieldLink RX5 40 (TX5 6).1 (TX5 6).2.1 (TX5 6).2.2.1 ∈ tb := tb_in 533 (by decide +kernel) rfl
theorem w_534 : Cond.fieldLink RX5 43 (TX5 7).1 (TX5 7).2.1 (TX5 7).2.2.1 ∈ tb := tb_in 534 (by decide +kernel) rfl
theorem w_535 : Cond.fieldLink RX5 46 (TX5 8).1 (TX5 8).2.1 (TX5 8).2.2.1 ∈ tb := tb_in 535 (by decide +kernel) rfl
theorem w_536 : Cond.fieldLink RX5 49 (TX5 9).1 (TX5 9).2.1 (TX5 9).2.2.1 ∈ tb := tb_in 536 (by decide +kernel) rfl
theorem w_565 : Cond.fieldLink RX7 28 (TX7 2).1 (TX7 2).2.1 (TX7 2).2.2.1 ∈ tb := tb_in 565 (by decide +kernel) rfl
theorem w_558 : Cond.classLink RX7 32 RX0 ∈ tb := tb_in 558 (by decide +kernel) rfl
theorem w_559 : Cond.methodLinkNest RX7 34 yX0_init "OptimumHouse" ∈ nst := nst_in 559 (by decide +kernel) rfl
theorem w_567 : Cond.fieldLink RX7 35 (TX7 3).1 (TX7 3).2.1 (TX7 3).2.2.1 ∈ tb := tb_in 567 (by decide +kernel) rfl
theorem w_568 : Cond.fieldLink RX7 39 (TX7 4).1 (TX7 4).2.1 (TX7 4).2.2.1 ∈ tb := tb_in 568 (by decide +kernel) rfl
theorem w_569 : Cond.fieldLink RX7 42 (TX7 5).1 (TX7 5).2.1 (TX7 5).2.2.1 ∈ tb := tb_in 569 (by decide +kernel) rfl
theorem w_570 : Cond.fieldLink RX7 45 (TX7 6).1 (TX7 6).2.1 (TX7 6).2.2.1 ∈ tb := tb_in 570 (by decide +kernel) rfl
theorem w_560 : Cond.classLink RX7 48 RX3 ∈ tb := tb_in 560 (by decide +kernel) rfl
theorem w_561 : Cond.methodLinkNest RX7 50 yX3_init "OptimumHouse" ∈ nst := nst_in 561 (by decide +kernel) rfl
theorem w_571 : Cond.fieldLink RX7 51 (TX7 7).1 (TX7 7).2.1 (TX7 7).2.2.1 ∈ tb := tb_in 571 (by decide +kernel) rfl
theorem w_707 : Cond.fieldLink RX11 41 (TX11 3).1 (TX11 3).2.1 (TX11 3).2.2.1 ∈ tb := tb_in 707 (by decide +kernel) rfl
theorem inX1 : ∀ w ∈ u_ws RX1 TX1 18, w ∈ tb := in_r [667, 669, 671, 673, 675, 677, 679, 681, 683, 685, 687, 689, 691, 693, 695, 697, 699, 701] (by decide +kernel) (by decide +kernel)
theorem w_616 : Cond.classLink RX11 45 RX1 ∈ tb := tb_in 616 (by decide +kernel) rfl
theorem w_617 : Cond.instantiable RX1 18 ∈ tb := tb_in 617 (by decide +kernel) rfl
theorem w_215 : Cond.initialized RX1 ∈ tb := tb_in 215 (by decide +kernel) rfl
theorem w_618 : Cond.methodLinkNest RX11 47 yX1_init "OptimumHouse" ∈ nst := nst_in 618 (by decide +kernel) rfl
theorem w_620 : Cond.code yX1_init cX1_init 1 none ∈ tb := tb_in 620 (by decide +kernel) rfl
theorem w_619 : Cond.instanceMethod yX1_init ∈ tb := tb_in 619 (by decide +kernel) rfl
theorem w_621 : Cond.methodLink RX1 3 objectInit ∈ tb := tb_in 621 (by decide +kernel) rfl
theorem inX4 : ∀ w ∈ u_ws RX4 TX4 4, w ∈ tb := in_r [634, 636, 638, 640] (by decide +kernel) (by decide +kernel)
theorem w_622 : Cond.classLink RX1 9 RX4 ∈ tb := tb_in 622 (by decide +kernel) rfl
theorem w_623 : Cond.instantiable RX4 4 ∈ tb := tb_in 623 (by decide +kernel) rfl
theorem w_216 : Cond.initialized RX4 ∈ tb := tb_in 216 (by decide +kernel) rfl
theorem w_624 : Cond.methodLinkNest RX1 11 yX4_init "OptimumHouse" ∈ nst := nst_in 624 (by decide +kernel) rfl
theorem w_626 : Cond.code yX4_init cX4_init 1 none ∈ tb := tb_in 626 (by decide +kernel) rfl
theorem w_625 : Cond.instanceMethod yX4_init ∈ tb := tb_in 625 (by decide +kernel) rfl
theorem w_627 : Cond.methodLink RX4 3 objectInit ∈ tb := tb_in 627 (by decide +kernel) rfl
theorem w_628 : Cond.classLink RX4 9 RX10 ∈ tb := tb_in 628 (by decide +kernel) rfl
theorem w_629 : Cond.methodLink RX4 11 yX10_init ∈ tb := tb_in 629 (by decide +kernel) rfl
theorem w_630 : Cond.fieldLink RX4 14 (TX4 0).1 (TX4 0).2.1 (TX4 0).2.2.1 ∈ tb := tb_in 630 (by decide +kernel) rfl
theorem w_631 : Cond.fieldLink RX4 20 (TX4 1).1 (TX4 1).2.1 (TX4 1).2.2.1 ∈ tb := tb_in 631 (by decide +kernel) rfl
theorem w_649 : Cond.fieldLink RX1 12 (TX1 0).1 (TX1 0).2.1 (TX1 0).2.2.1 ∈ tb := tb_in 649 (by decide +kernel) rfl
theorem w_643 : Cond.classLink RX1 18 RX6 ∈ tb := tb_in 643 (by decide +kernel) rfl
theorem w_644 : Cond.methodLinkNest RX1 20 yX6_init "OptimumHouse" ∈ nst := nst_in 644 (by decide +kernel) rfl
theorem w_650 : Cond.fieldLink RX1 21 (TX1 1).1 (TX1 1).2.1 (TX1 1).2.2.1 ∈ tb := tb_in 650 (by decide +kernel) rfl
theorem w_651 : Cond.fieldLink RX1 27 (TX1 2).1 (TX1 2).2.1 (TX1 2).2.2.1 ∈ tb := tb_in 651 (by decide +kernel) rfl
theorem w_645 : Cond.classLink RX1 25 RX0 ∈ tb := tb_in 645 (by decide +kernel) rfl
theorem w_646 : Cond.methodLinkNest RX1 31 yX0_init "OptimumHouse" ∈ nst := nst_in 646 (by decide +kernel) rfl
theorem w_652 : Cond.fieldLink RX1 32 (TX1 3).1 (TX1 3).2.1 (TX1 3).2.2.1 ∈ tb := tb_in 652 (by decide +kernel) rfl
theorem w_653 : Cond.fieldLink RX1 36 (TX1 4).1 (TX1 4).2.1 (TX1 4).2.2.1 ∈ tb := tb_in 653 (by decide +kernel) rfl
theorem w_654 : Cond.fieldLink RX1 39 (TX1 5).1 (TX1 5).2.1 (TX1 5).2.2.1 ∈ tb := tb_in 654 (by decide +kernel) rfl
theorem w_655 : Cond.fieldLink RX1 42 (TX1 6).1 (TX1 6).2.1 (TX1 6).2.2.1 ∈ tb := tb_in 655 (by decide +kernel) rfl
theorem w_656 : Cond.fieldLink RX1 45 (TX1 7).1 (TX1 7).2.1 (TX1 7).2.2.1 ∈ tb := tb_in 656 (by decide +kernel) rfl
theorem w_657 : Cond.fieldLink RX1 48 (TX1 8).1 (TX1 8).2.1 (TX1 8).2.2.1 ∈ tb := tb_in 657 (by decide +kernel) rfl
theorem w_658 : Cond.fieldLink RX1 51 (TX1 9).1 (TX1 9).2.1 (TX1 9).2.2.1 ∈ tb := tb_in 658 (by decide +kernel) rfl
theorem w_659 : Cond.fieldLink RX1 54 (TX1 10).1 (TX1 10).2.1 (TX1 10).2.2.1 ∈ tb := tb_in 659 (by decide +kernel) rfl
theorem w_660 : Cond.fieldLink RX1 57 (TX1 11).1 (TX1 11).2.1 (TX1 11).2.2.1 ∈ tb := tb_in 660 (by decide +kernel) rfl
theorem w_661 : Cond.fieldLink RX1 60 (TX1 12).1 (TX1 12).2.1 (TX1 12).2.2.1 ∈ tb := tb_in 661 (by decide +kernel) rfl
theorem w_662 : Cond.fieldLink RX1 63 (TX1 13).1 (TX1 13).2.1 (TX1 13).2.2.1 ∈ tb := tb_in 662 (by decide +kernel) rfl
theorem w_647 : Cond.classLink RX1 66 RX3 ∈ tb := tb_in 647 (by decide +kernel) rfl
theorem w_648 : Cond.methodLinkNest RX1 68 yX3_init "OptimumHouse" ∈ nst := nst_in 648 (by decide +kernel) rfl
theorem w_664 : Cond.fieldLink RX1 69 (TX1 15).1 (TX1 15).2.1 (TX1 15).2.2.1 ∈ tb := tb_in 664 (by decide +kernel) rfl
theorem w_708 : Cond.fieldLink RX11 48 (TX11 4).1 (TX11 4).2.1 (TX11 4).2.2.1 ∈ tb := tb_in 708 (by decide +kernel) rfl
theorem w_714 : Cond.fieldLink RX11 52 (TX11 10).1 (TX11 10).2.1 (TX11 10).2.2.1 ∈ tb := tb_in 714 (by decide +kernel) rfl
theorem w_1957 : Cond.methodLink RX12 3 objectInit ∈ tb := tb_in 1957 (by decide +kernel) rfl
theorem inX12 : ∀ w ∈ u_ws RX12 TX12 105, w ∈ tb := in_r [2066, 2068, 2070, 2072, 2074, 2076, 2078, 2080, 2082, 2084, 2086, 2088, 2090, 2092, 2094, 2096, 2098, 2100, 2102, 2104, 2106, 2108, 2110, 2112, 2114, 2116, 2118, 2120, 2122, 2124, 2126, 2128, 2130, 2132, 2134, 2136, 2138, 2140, 2142, 2144, 2146, 2148, 2150, 2152, 2154, 2156, 2158, 2160, 2162, 2164, 2166, 2168, 2170, 2172, 2174, 2176, 2178, 2180, 2182, 2184, 2186, 2188, 2190, 2192, 2194, 2196, 2198, 2200, 2202, 2204, 2206, 2208, 2210, 2212, 2214, 2216, 2218, 2220, 2222, 2224, 2226, 2228, 2230, 2232, 2234, 2236, 2238, 2240, 2242, 2244, 2246, 2248, 2250, 2252, 2254, 2256, 2258, 2260, 2262, 2264, 2266, 2268, 2270, 2272, 2274] (by decide +kernel) (by decide +kernel)
theorem w_1961 : Cond.fieldLink RX12 9 (TX12 0).1 (TX12 0).2.1 (TX12 0).2.2.1 ∈ tb := tb_in 1961 (by decide +kernel) rfl
theorem w_1963 : Cond.fieldLink RX12 13 (TX12 2).1 (TX12 2).2.1 (TX12 2).2.2.1 ∈ tb := tb_in 1963 (by decide +kernel) rfl
theorem w_1964 : Cond.fieldLink RX12 17 (TX12 3).1 (TX12 3).2.1 (TX12 3).2.2.1 ∈ tb := tb_in 1964 (by decide +kernel) rfl
theorem w_1965 : Cond.fieldLink RX12 20 (TX12 4).1 (TX12 4).2.1 (TX12 4).2.2.1 ∈ tb := tb_in 1965 (by decide +kernel) rfl
theorem w_1966 : Cond.fieldLink RX12 23 (TX12 5).1 (TX12 5).2.1 (TX12 5).2.2.1 ∈ tb := tb_in 1966 (by decide +kernel) rfl
theorem w_1968 : Cond.fieldLink RX12 26 (TX12 7).1 (TX12 7).2.1 (TX12 7).2.2.1 ∈ tb := tb_in 1968 (by decide +kernel) rfl
theorem w_1969 : Cond.fieldLink RX12 29 (TX12 8).1 (TX12 8).2.1 (TX12 8).2.2.1 ∈ tb := tb_in 1969 (by decide +kernel) rfl
theorem w_1970 : Cond.fieldLink RX12 32 (TX12 9).1 (TX12 9).2.1 (TX12 9).2.2.1 ∈ tb := tb_in 1970 (by decide +kernel) rfl
theorem w_1971 : Cond.fieldLink RX12 35 (TX12 10).1 (TX12 10).2.1 (TX12 10).2.2.1 ∈ tb := tb_in 1971 (by decide +kernel) rfl
theorem w_1972 : Cond.fieldLink RX12 38 (TX12 11).1 (TX12 11).2.1 (TX12 11).2.2.1 ∈ tb := tb_in 1972 (by decide +kernel) rfl
theorem w_1973 : Cond.fieldLink RX12 41 (TX12 12).1 (TX12 12).2.1 (TX12 12).2.2.1 ∈ tb := tb_in 1973 (by decide +kernel) rfl
theorem w_1974 : Cond.fieldLink RX12 44 (TX12 13).1 (TX12 13).2.1 (TX12 13).2.2.1 ∈ tb := tb_in 1974 (by decide +kernel) rfl
theorem w_1976 : Cond.fieldLink RX12 47 (TX12 15).1 (TX12 15).2.1 (TX12 15).2.2.1 ∈ tb := tb_in 1976 (by decide +kernel) rfl
theorem w_1977 : Cond.fieldLink RX12 50 (TX12 16).1 (TX12 16).2.1 (TX12 16).2.2.1 ∈ tb := tb_in 1977 (by decide +kernel) rfl
theorem w_1978 : Cond.fieldLink RX12 53 (TX12 17).1 (TX12 17).2.1 (TX12 17).2.2.1 ∈ tb := tb_in 1978 (by decide +kernel) rfl
theorem w_1979 : Cond.fieldLink RX12 56 (TX12 18).1 (TX12 18).2.1 (TX12 18).2.2.1 ∈ tb := tb_in 1979 (by decide +kernel) rfl
theorem w_1987 : Cond.fieldLink RX12 59 (TX12 26).1 (TX12 26).2.1 (TX12 26).2.2.1 ∈ tb := tb_in 1987 (by decide +kernel) rfl
theorem w_1988 : Cond.fieldLink RX12 62 (TX12 27).1 (TX12 27).2.1 (TX12 27).2.2.1 ∈ tb := tb_in 1988 (by decide +kernel) rfl
theorem w_1989 : Cond.fieldLink RX12 65 (TX12 28).1 (TX12 28).2.1 (TX12 28).2.2.1 ∈ tb := tb_in 1989 (by decide +kernel) rfl
theorem w_1990 : Cond.fieldLink RX12 68 (TX12 29).1 (TX12 29).2.1 (TX12 29).2.2.1 ∈ tb := tb_in 1990 (by decide +kernel) rfl
theorem w_1991 : Cond.fieldLink RX12 71 (TX12 30).1 (TX12 30).2.1 (TX12 30).2.2.1 ∈ tb := tb_in 1991 (by decide +kernel) rfl
theorem w_1992 : Cond.fieldLink RX12 74 (TX12 31).1 (TX12 31).2.1 (TX12 31).2.2.1 ∈ tb := tb_in 1992 (by decide +kernel) rfl
theorem w_1998 : Cond.fieldLink RX12 77 (TX12 37).1 (TX12 37).2.1 (TX12 37).2.2.1 ∈ tb := tb_in 1998 (by decide +kernel) rfl
theorem w_1999 : Cond.fieldLink RX12 81 (TX12 38).1 (TX12 38).2.1 (TX12 38).2.2.1 ∈ tb := tb_in 1999 (by decide +kernel) rfl
theorem w_2000 : Cond.fieldLink RX12 85 (TX12 39).1 (TX12 39).2.1 (TX12 39).2.2.1 ∈ tb := tb_in 2000 (by decide +kernel) rfl
theorem w_2002 : Cond.fieldLink RX12 88 (TX12 41).1 (TX12 41).2.1 (TX12 41).2.2.1 ∈ tb := tb_in 2002 (by decide +kernel) rfl
theorem w_2005 : Cond.fieldLink RX12 91 (TX12 44).1 (TX12 44).2.1 (TX12 44).2.2.1 ∈ tb := tb_in 2005 (by decide +kernel) rfl
theorem w_2011 : Cond.fieldLink RX12 94 (TX12 50).1 (TX12 50).2.1 (TX12 50).2.2.1 ∈ tb := tb_in 2011 (by decide +kernel) rfl
theorem w_2012 : Cond.fieldLink RX12 97 (TX12 51).1 (TX12 51).2.1 (TX12 51).2.2.1 ∈ tb := tb_in 2012 (by decide +kernel) rfl
theorem w_2013 : Cond.fieldLink RX12 100 (TX12 52).1 (TX12 52).2.1 (TX12 52).2.2.1 ∈ tb := tb_in 2013 (by decide +kernel) rfl
theorem w_2014 : Cond.fieldLink RX12 103 (TX12 53).1 (TX12 53).2.1 (TX12 53).2.2.1 ∈ tb := tb_in 2014 (by decide +kernel) rfl
theorem w_2015 : Cond.fieldLink RX12 106 (TX12 54).1 (TX12 54).2.1 (TX12 54).2.2.1 ∈ tb := tb_in 2015 (by decide +kernel) rfl
theorem w_2016 : Cond.fieldLink RX12 109 (TX12 55).1 (TX12 55).2.1 (TX12 55).2.2.1 ∈ tb := tb_in 2016 (by decide +kernel) rfl
theorem w_2017 : Cond.fieldLink RX12 112 (TX12 56).1 (TX12 56).2.1 (TX12 56).2.2.1 ∈ tb := tb_in 2017 (by decide +kernel) rfl
theorem w_2018 : Cond.fieldLink RX12 115 (TX12 57).1 (TX12 57).2.1 (TX12 57).2.2.1 ∈ tb := tb_in 2018 (by decide +kernel) rfl
theorem w_1958 : Cond.constant RX12 118 216480 ∈ tb := tb_in 1958 (by decide +kernel) rfl
theorem w_2034 : Cond.fieldLink RX12 119 (TX12 73).1 (TX12 73).2.1 (TX12 73).2.2.1 ∈ tb := tb_in 2034 (by decide +kernel) rfl
theorem w_2035 : Cond.fieldLink RX12 122 (TX12 74).1 (TX12 74).2.1 (TX12 74).2.2.1 ∈ tb := tb_in 2035 (by decide +kernel) rfl
theorem w_2036 : Cond.fieldLink RX12 125 (TX12 75).1 (TX12 75).2.1 (TX12 75).2.2.1 ∈ tb := tb_in 2036 (by decide +kernel) rfl
theorem w_2037 : Cond.fieldLink RX12 128 (TX12 76).1 (TX12 76).2.1 (TX12 76).2.2.1 ∈ tb := tb_in 2037 (by decide +kernel) rfl
theorem w_2038 : Cond.fieldLink RX12 131 (TX12 77).1 (TX12 77).2.1 (TX12 77).2.2.1 ∈ tb := tb_in 2038 (by decide +kernel) rfl
theorem w_2041 : Cond.fieldLink RX12 134 (TX12 80).1 (TX12 80).2.1 (TX12 80).2.2.1 ∈ tb := tb_in 2041 (by decide +kernel) rfl
theorem w_2042 : Cond.fieldLink RX12 137 (TX12 81).1 (TX12 81).2.1 (TX12 81).2.2.1 ∈ tb := tb_in 2042 (by decide +kernel) rfl
theorem w_2043 : Cond.fieldLink RX12 140 (TX12 82).1 (TX12 82).2.1 (TX12 82).2.2.1 ∈ tb := tb_in 2043 (by decide +kernel) rfl
theorem w_1959 : Cond.constant RX12 143 34000 ∈ tb := tb_in 1959 (by decide +kernel) rfl
theorem w_2044 : Cond.fieldLink RX12 144 (TX12 83).1 (TX12 83).2.1 (TX12 83).2.2.1 ∈ tb := tb_in 2044 (by decide +kernel) rfl
theorem w_1960 : Cond.constant RX12 147 36000 ∈ tb := tb_in 1960 (by decide +kernel) rfl
theorem w_2046 : Cond.fieldLink RX12 148 (TX12 85).1 (TX12 85).2.1 (TX12 85).2.2.1 ∈ tb := tb_in 2046 (by decide +kernel) rfl
theorem w_2048 : Cond.fieldLink RX12 151 (TX12 87).1 (TX12 87).2.1 (TX12 87).2.2.1 ∈ tb := tb_in 2048 (by decide +kernel) rfl
theorem w_2049 : Cond.fieldLink RX12 154 (TX12 88).1 (TX12 88).2.1 (TX12 88).2.2.1 ∈ tb := tb_in 2049 (by decide +kernel) rfl
theorem w_2050 : Cond.fieldLink RX12 157 (TX12 89).1 (TX12 89).2.1 (TX12 89).2.2.1 ∈ tb := tb_in 2050 (by decide +kernel) rfl
theorem w_2051 : Cond.fieldLink RX12 160 (TX12 90).1 (TX12 90).2.1 (TX12 90).2.2.1 ∈ tb := tb_in 2051 (by decide +kernel) rfl
theorem w_2052 : Cond.fieldLink RX12 163 (TX12 91).1 (TX12 91).2.1 (TX12 91).2.2.1 ∈ tb := tb_in 2052 (by decide +kernel) rfl
theorem w_2053 : Cond.fieldLink RX12 166 (TX12 92).1 (TX12 92).2.1 (TX12 92).2.2.1 ∈ tb := tb_in 2053 (by decide +kernel) rfl
theorem w_2054 : Cond.fieldLink RX12 169 (TX12 93).1 (TX12 93).2.1 (TX12 93).2.2.1 ∈ tb := tb_in 2054 (by decide +kernel) rfl
theorem w_2055 : Cond.fieldLink RX12 172 (TX12 94).1 (TX12 94).2.1 (TX12 94).2.2.1 ∈ tb := tb_in 2055 (by decide +kernel) rfl
theorem w_2056 : Cond.fieldLink RX12 175 (TX12 95).1 (TX12 95).2.1 (TX12 95).2.2.1 ∈ tb := tb_in 2056 (by decide +kernel) rfl
theorem w_2057 : Cond.fieldLink RX12 178 (TX12 96).1 (TX12 96).2.1 (TX12 96).2.2.1 ∈ tb := tb_in 2057 (by decide +kernel) rfl
theorem w_2058 : Cond.fieldLink RX12 181 (TX12 97).1 (TX12 97).2.1 (TX12 97).2.2.1 ∈ tb := tb_in 2058 (by decide +kernel) rfl
theorem w_2059 : Cond.fieldLink RX12 184 (TX12 98).1 (TX12 98).2.1 (TX12 98).2.2.1 ∈ tb := tb_in 2059 (by decide +kernel) rfl
theorem w_2060 : Cond.fieldLink RX12 187 (TX12 99).1 (TX12 99).2.1 (TX12 99).2.2.1 ∈ tb := tb_in 2060 (by decide +kernel) rfl
theorem w_2062 : Cond.fieldLink RX12 190 (TX12 101).1 (TX12 101).2.1 (TX12 101).2.2.1 ∈ tb := tb_in 2062 (by decide +kernel) rfl
theorem w_2063 : Cond.fieldLink RX12 193 (TX12 102).1 (TX12 102).2.1 (TX12 102).2.2.1 ∈ tb := tb_in 2063 (by decide +kernel) rfl
theorem w_2064 : Cond.fieldLink RX12 196 (TX12 103).1 (TX12 103).2.1 (TX12 103).2.2.1 ∈ tb := tb_in 2064 (by decide +kernel) rfl
theorem w_2065 : Cond.fieldLink RX12 199 (TX12 104).1 (TX12 104).2.1 (TX12 104).2.2.1 ∈ tb := tb_in 2065 (by decide +kernel) rfl
section RW
variable {p : Program} {l : Launch} {e : Env} {R : Room} {s : State} {m : MethodId} {args : Array Value} {below : List Frame} {meth : Method} {c : Code} {H : Heap} {locs : List Loc} {cells slots : Nat} {Q : State → Prop}
variable {cc : ByteArray} {pc nL : Nat} {ls : Array Slot} {rest st0 : List Value} {G : sG} {n : Nat} {S : sS}
theorem n_X11_7 (Cx : sC G p m c cc nL s args RX11) (hW : sW G n S H) (ht : tau n = .inl 10) (hcells : cells + 1 ≤ R.cells) (hslots : slots + 3 ≤ R.slots) (hdg : decode cc pc = .ok (.new 7, 3)) (kk : ∀ H1 : Heap, sW G (n + 1) S H1 → W p l e R s m args below meth c H1 locs (cells + 1) (slots + 3) Q (F0 m (pc + 3) ls (.ref (G.2.2.1 + n) :: rest))) : W p l e R s m args below meth c H locs cells slots Q (F0 m pc ls rest) :=
  sNew (ci := 10) Cx inX10 tyX10_ok rfl w_235 w_236 w_205 hW ht (by decide) hcells hslots hdg kk
theorem c_X11_11 (Cx : sC G p m c cc nL s args RX11) {rm : Room} {mc ms : Nat} (h1 : rm.cells = mc) (h2 : rm.slots = ms) (h3 : rm.frames + 1 ≤ R.frames ∧ 8 + (2 + 11) + rm.locals ≤ R.locals) : CallB R s args RX11 11 yX10_init cX10_init 2 none (.code yX10_init cX10_init 2 none :: tb) rm mc ms 1 ∧ yX10_init.name = "<init>" ∧ (Cond.instanceMethod yX10_init).before args s = true :=
  sCI Cx 1 w_237 w_238 w_205 w_239 rfl (by decide +kernel) h1 h2 h3
theorem p_X10_15 (Cx : sC G p m c cc nL s args RX10) (hin2 : meth.name = "<init>") (hW : sW G n S H) (hL : sL G locs) {k : Nat} (hk : k < n) (ht : tau k = .inl 10) {v : Nat} (hdg : decode cc pc = .ok (.putfield 15, 3)) (kk : ∀ (H1 : Heap) (locs1 : List Loc), sW G n (sR S k 0 (.ref v)) H1 → sL G locs1 → W p l e R s m args below meth c H1 locs1 cells slots Q (F0 m (pc + 3) ls rest)) : W p l e R s m args below meth c H locs cells slots Q (F0 m pc ls (.ref v :: .ref (G.2.2.1 + k) :: rest)) :=
  sPutF Cx inX10 tyX10 tyX10_ok nmX10 rfl 0 (by decide) w_244 rfl rfl hin2 hW hL hk ht rfl rfl sR_off sR_on hdg kk
theorem p_X11_14 (Cx : sC G p m c cc nL s args RX11) (hin2 : meth.name = "<init>") (hW : sW G n S H) (hL : sL G locs) {k : Nat} (hk : k < n) (ht : tau k = .inl 11) {v : Nat} (hdg : decode cc pc = .ok (.putfield 14, 3)) (kk : ∀ (H1 : Heap) (locs1 : List Loc), sW G n (sR S k 0 (.ref v)) H1 → sL G locs1 → W p l e R s m args below meth c H1 locs1 cells slots Q (F0 m (pc + 3) ls rest)) : W p l e R s m args below meth c H locs cells slots Q (F0 m pc ls (.ref v :: .ref (G.2.2.1 + k) :: rest)) :=
  sPutF Cx inX11 tyX11 tyX11_ok nmX11 rfl 0 (by decide) w_704 rfl rfl hin2 hW hL hk ht rfl rfl sR_off sR_on hdg kk
theorem p_X11_18 (Cx : sC G p m c cc nL s args RX11) (hin2 : meth.name = "<init>") (hW : sW G n S H) (hL : sL G locs) {k : Nat} (hk : k < n) (ht : tau k = .inl 11) {v : Nat} (hdg : decode cc pc = .ok (.putfield 18, 3)) (kk : ∀ (H1 : Heap) (locs1 : List Loc), sW G n (sR S k 1 (.ref v)) H1 → sL G locs1 → W p l e R s m args below meth c H1 locs1 cells slots Q (F0 m (pc + 3) ls rest)) : W p l e R s m args below meth c H locs cells slots Q (F0 m pc ls (.ref v :: .ref (G.2.2.1 + k) :: rest)) :=
  sPutF Cx inX11 tyX11 tyX11_ok nmX11 rfl 1 (by decide) w_705 rfl rfl hin2 hW hL hk ht rfl rfl sR_off sR_on hdg kk
theorem n_X11_21 (Cx : sC G p m c cc nL s args RX11) (hW : sW G n S H) (ht : tau n = .inl 3) (hcells : cells + 1 ≤ R.cells) (hslots : slots + 5 ≤ R.slots) (hdg : decode cc pc = .ok (.new 21, 3)) (kk : ∀ H1 : Heap, sW G (n + 1) S H1 → W p l e R s m args below meth c H1 locs (cells + 1) (slots + 5) Q (F0 m (pc + 3) ls (.ref (G.2.2.1 + n) :: rest))) : W p l e R s m args below meth c H locs cells slots Q (F0 m pc ls rest) :=
  sNew (ci := 3) Cx inX3 tyX3_ok rfl w_255 w_256 w_207 hW ht (by decide) hcells hslots hdg kk
theorem c_X11_23 (Cx : sC G p m c cc nL s args RX11) {rm : Room} {mc ms : Nat} (h1 : rm.cells = mc) (h2 : rm.slots = ms) (h3 : rm.frames + 1 ≤ R.frames ∧ 8 + (1 + 11) + rm.locals ≤ R.locals) : va_CN R s args RX11 23 yX3_init "OptimumHouse" cX3_init 1 none (.code yX3_init cX3_init 1 none :: tb) rm mc ms 0 ∧ yX3_init.name = "<init>" ∧ (Cond.instanceMethod yX3_init).before args s = true :=
  ⟨sCN Cx 0 w_257 w_207 w_259 (by decide +kernel) h1 h2 h3, rfl, Cx.1.2.2.2.2 _ w_258⟩
theorem p_X3_11 (Cx : sC G p m c cc nL s args RX3) (hin2 : meth.name = "<init>") (hW : sW G n S H) (hL : sL G locs) {k : Nat} (hk : k < n) (ht : tau k = .inl 3) {v : Nat} (hdg : decode cc pc = .ok (.putfield 11, 3)) (kk : ∀ (H1 : Heap) (locs1 : List Loc), sW G n (sR S k 0 (.ref v)) H1 → sL G locs1 → W p l e R s m args below meth c H1 locs1 cells slots Q (F0 m (pc + 3) ls rest)) : W p l e R s m args below meth c H locs cells slots Q (F0 m pc ls (.ref v :: .ref (G.2.2.1 + k) :: rest)) :=
  sPutF Cx inX3 tyX3 tyX3_ok nmX3 rfl 0 (by decide) w_261 rfl rfl hin2 hW hL hk ht rfl rfl sR_off sR_on hdg kk
theorem p_X3_15 (Cx : sC G p m c cc nL s args RX3) (hin2 : meth.name = "<init>") (hW : sW G n S H) (hL : sL G locs) {k : Nat} (hk : k < n) (ht : tau k = .inl 3) {v : Nat} (hdg : decode cc pc = .ok (.putfield 15, 3)) (kk : ∀ (H1 : Heap) (locs1 : List Loc), sW G n (sR S k 1 (.ref v)) H1 → sL G locs1 → W p l e R s m args below meth c H1 locs1 cells slots Q (F0 m (pc + 3) ls rest)) : W p l e R s m args below meth c H locs cells slots Q (F0 m pc ls (.ref v :: .ref (G.2.2.1 + k) :: rest)) :=
  sPutF Cx inX3 tyX3 tyX3_ok nmX3 rfl 1 (by decide) w_262 rfl rfl hin2 hW hL hk ht rfl rfl sR_off sR_on hdg kk
theorem p_X11_24 (Cx : sC G p m c cc nL s args RX11) (hW : sW G n S H) (hL : sL G locs) {k : Nat} (hk : k < n) (ht : tau k = .inl 11) {v : Nat} (hdg : decode cc pc = .ok (.putfield 24, 3)) (kk : ∀ (H1 : Heap) (locs1 : List Loc), sW G n (sR S k 5 (.ref v)) H1 → sL G locs1 → W p l e R s m args below meth c H1 locs1 cells slots Q (F0 m (pc + 3) ls rest)) : W p l e R s m args below meth c H locs cells slots Q (F0 m pc ls (.ref v :: .ref (G.2.2.1 + k) :: rest)) :=
  sPut Cx inX11 tyX11 tyX11_ok nmX11 rfl 5 (by decide) w_709 rfl hW hL hk ht rfl rfl sR_off sR_on hdg kk
theorem p_X11_28 (Cx : sC G p m c cc nL s args RX11) (hW : sW G n S H) (hL : sL G locs) {k : Nat} (hk : k < n) (ht : tau k = .inl 11) {v : Nat} (hdg : decode cc pc = .ok (.putfield 28, 3)) (kk : ∀ (H1 : Heap) (locs1 : List Loc), sW G n (sR S k 6 (.ref v)) H1 → sL G locs1 → W p l e R s m args below meth c H1 locs1 cells slots Q (F0 m (pc + 3) ls rest)) : W p l e R s m args below meth c H locs cells slots Q (F0 m pc ls (.ref v :: .ref (G.2.2.1 + k) :: rest)) :=
  sPut Cx inX11 tyX11 tyX11_ok nmX11 rfl 6 (by decide) w_710 rfl hW hL hk ht rfl rfl sR_off sR_on hdg kk
theorem n_X11_31 (Cx : sC G p m c cc nL s args RX11) (hW : sW G n S H) (ht : tau n = .inl 9) (hcells : cells + 1 ≤ R.cells) (hslots : slots + 17 ≤ R.slots) (hdg : decode cc pc = .ok (.new 31, 3)) (kk : ∀ H1 : Heap, sW G (n + 1) S H1 → W p l e R s m args below meth c H1 locs (cells + 1) (slots + 17) Q (F0 m (pc + 3) ls (.ref (G.2.2.1 + n) :: rest))) : W p l e R s m args below meth c H locs cells slots Q (F0 m pc ls rest) :=
  sNew (ci := 9) Cx inX9 tyX9_ok rfl w_296 w_297 w_208 hW ht (by decide) hcells hslots hdg kk
theorem c_X11_33 (Cx : sC G p m c cc nL s args RX11) {rm : Room} {mc ms : Nat} (h1 : rm.cells = mc) (h2 : rm.slots = ms) (h3 : rm.frames + 1 ≤ R.frames ∧ 8 + (1 + 11) + rm.locals ≤ R.locals) : va_CN R s args RX11 33 yX9_init "OptimumHouse" cX9_init 1 none (.code yX9_init cX9_init 1 none :: tb) rm mc ms 0 ∧ yX9_init.name = "<init>" ∧ (Cond.instanceMethod yX9_init).before args s = true :=
  ⟨sCN Cx 0 w_298 w_208 w_300 (by decide +kernel) h1 h2 h3, rfl, Cx.1.2.2.2.2 _ w_299⟩
theorem n_X9_11 (Cx : sC G p m c cc nL s args RX9) (hW : sW G n S H) (ht : tau n = .inl 8) (hcells : cells + 1 ≤ R.cells) (hslots : slots + 5 ≤ R.slots) (hdg : decode cc pc = .ok (.new 11, 3)) (kk : ∀ H1 : Heap, sW G (n + 1) S H1 → W p l e R s m args below meth c H1 locs (cells + 1) (slots + 5) Q (F0 m (pc + 3) ls (.ref (G.2.2.1 + n) :: rest))) : W p l e R s m args below meth c H locs cells slots Q (F0 m pc ls rest) :=
  sNew (ci := 8) Cx inX8 tyX8_ok rfl w_302 w_303 w_209 hW ht (by decide) hcells hslots hdg kk
theorem c_X9_13 (Cx : sC G p m c cc nL s args RX9) {rm : Room} {mc ms : Nat} (h1 : rm.cells = mc) (h2 : rm.slots = ms) (h3 : rm.frames + 1 ≤ R.frames ∧ 8 + (1 + 11) + rm.locals ≤ R.locals) : va_CN R s args RX9 13 yX8_init "OptimumHouse" cX8_init 1 none (.code yX8_init cX8_init 1 none :: tb) rm mc ms 0 ∧ yX8_init.name = "<init>" ∧ (Cond.instanceMethod yX8_init).before args s = true :=
  ⟨sCN Cx 0 w_304 w_209 w_306 (by decide +kernel) h1 h2 h3, rfl, Cx.1.2.2.2.2 _ w_305⟩
theorem p_X8_11 (Cx : sC G p m c cc nL s args RX8) (hin2 : meth.name = "<init>") (hW : sW G n S H) (hL : sL G locs) {k : Nat} (hk : k < n) (ht : tau k = .inl 8) {v : Nat} (hdg : decode cc pc = .ok (.putfield 11, 3)) (kk : ∀ (H1 : Heap) (locs1 : List Loc), sW G n (sR S k 0 (.ref v)) H1 → sL G locs1 → W p l e R s m args below meth c H1 locs1 cells slots Q (F0 m (pc + 3) ls rest)) : W p l e R s m args below meth c H locs cells slots Q (F0 m pc ls (.ref v :: .ref (G.2.2.1 + k) :: rest)) :=
  sPutF Cx inX8 tyX8 tyX8_ok nmX8 rfl 0 (by decide) w_308 rfl rfl hin2 hW hL hk ht rfl rfl sR_off sR_on hdg kk
theorem p_X8_15 (Cx : sC G p m c cc nL s args RX8) (hin2 : meth.name = "<init>") (hW : sW G n S H) (hL : sL G locs) {k : Nat} (hk : k < n) (ht : tau k = .inl 8) {v : Nat} (hdg : decode cc pc = .ok (.putfield 15, 3)) (kk : ∀ (H1 : Heap) (locs1 : List Loc), sW G n (sR S k 1 (.ref v)) H1 → sL G locs1 → W p l e R s m args below meth c H1 locs1 cells slots Q (F0 m (pc + 3) ls rest)) : W p l e R s m args below meth c H locs cells slots Q (F0 m pc ls (.ref v :: .ref (G.2.2.1 + k) :: rest)) :=
  sPutF Cx inX8 tyX8 tyX8_ok nmX8 rfl 1 (by decide) w_309 rfl rfl hin2 hW hL hk ht rfl rfl sR_off sR_on hdg kk
theorem p_X8_18 (Cx : sC G p m c cc nL s args RX8) (hin2 : meth.name = "<init>") (hW : sW G n S H) (hL : sL G locs) {k : Nat} (hk : k < n) (ht : tau k = .inl 8) {v : Nat} (hdg : decode cc pc = .ok (.putfield 18, 3)) (kk : ∀ (H1 : Heap) (locs1 : List Loc), sW G n (sR S k 2 (.ref v)) H1 → sL G locs1 → W p l e R s m args below meth c H1 locs1 cells slots Q (F0 m (pc + 3) ls rest)) : W p l e R s m args below meth c H locs cells slots Q (F0 m pc ls (.ref v :: .ref (G.2.2.1 + k) :: rest)) :=
  sPutF Cx inX8 tyX8 tyX8_ok nmX8 rfl 2 (by decide) w_310 rfl rfl hin2 hW hL hk ht rfl rfl sR_off sR_on hdg kk
theorem p_X9_14 (Cx : sC G p m c cc nL s args RX9) (hin2 : meth.name = "<init>") (hW : sW G n S H) (hL : sL G locs) {k : Nat} (hk : k < n) (ht : tau k = .inl 9) {v : Nat} (hdg : decode cc pc = .ok (.putfield 14, 3)) (kk : ∀ (H1 : Heap) (locs1 : List Loc), sW G n (sR S k 0 (.ref v)) H1 → sL G locs1 → W p l e R s m args below meth c H1 locs1 cells slots Q (F0 m (pc + 3) ls rest)) : W p l e R s m args below meth c H locs cells slots Q (F0 m pc ls (.ref v :: .ref (G.2.2.1 + k) :: rest)) :=
  sPutF Cx inX9 tyX9 tyX9_ok nmX9 rfl 0 (by decide) w_329 rfl rfl hin2 hW hL hk ht rfl rfl sR_off sR_on hdg kk
theorem p_X9_18 (Cx : sC G p m c cc nL s args RX9) (hin2 : meth.name = "<init>") (hW : sW G n S H) (hL : sL G locs) {k : Nat} (hk : k < n) (ht : tau k = .inl 9) {v : Nat} (hdg : decode cc pc = .ok (.putfield 18, 3)) (kk : ∀ (H1 : Heap) (locs1 : List Loc), sW G n (sR S k 1 (.ref v)) H1 → sL G locs1 → W p l e R s m args below meth c H1 locs1 cells slots Q (F0 m (pc + 3) ls rest)) : W p l e R s m args below meth c H locs cells slots Q (F0 m pc ls (.ref v :: .ref (G.2.2.1 + k) :: rest)) :=
  sPutF Cx inX9 tyX9 tyX9_ok nmX9 rfl 1 (by decide) w_330 rfl rfl hin2 hW hL hk ht rfl rfl sR_off sR_on hdg kk
theorem p_X9_22 (Cx : sC G p m c cc nL s args RX9) (hin2 : meth.name = "<init>") (hW : sW G n S H) (hL : sL G locs) {k : Nat} (hk : k < n) (ht : tau k = .inl 9) {v : Nat} (hdg : decode cc pc = .ok (.putfield 22, 3)) (kk : ∀ (H1 : Heap) (locs1 : List Loc), sW G n (sR S k 2 (.ref v)) H1 → sL G locs1 → W p l e R s m args below meth c H1 locs1 cells slots Q (F0 m (pc + 3) ls rest)) : W p l e R s m args below meth c H locs cells slots Q (F0 m pc ls (.ref v :: .ref (G.2.2.1 + k) :: rest)) :=
  sPutF Cx inX9 tyX9 tyX9_ok nmX9 rfl 2 (by decide) w_331 rfl rfl hin2 hW hL hk ht rfl rfl sR_off sR_on hdg kk
theorem p_X9_26 (Cx : sC G p m c cc nL s args RX9) (hin2 : meth.name = "<init>") (hW : sW G n S H) (hL : sL G locs) {k : Nat} (hk : k < n) (ht : tau k = .inl 9) {v : Nat} (hdg : decode cc pc = .ok (.putfield 26, 3)) (kk : ∀ (H1 : Heap) (locs1 : List Loc), sW G n (sR S k 3 (.ref v)) H1 → sL G locs1 → W p l e R s m args below meth c H1 locs1 cells slots Q (F0 m (pc + 3) ls rest)) : W p l e R s m args below meth c H locs cells slots Q (F0 m pc ls (.ref v :: .ref (G.2.2.1 + k) :: rest)) :=
  sPutF Cx inX9 tyX9 tyX9_ok nmX9 rfl 3 (by decide) w_332 rfl rfl hin2 hW hL hk ht rfl rfl sR_off sR_on hdg kk
theorem p_X9_31 (Cx : sC G p m c cc nL s args RX9) (hin2 : meth.name = "<init>") (hW : sW G n S H) (hL : sL G locs) {k : Nat} (hk : k < n) (ht : tau k = .inl 9) {v : Nat} (hdg : decode cc pc = .ok (.putfield 31, 3)) (kk : ∀ (H1 : Heap) (locs1 : List Loc), sW G n (sR S k 4 (.ref v)) H1 → sL G locs1 → W p l e R s m args below meth c H1 locs1 cells slots Q (F0 m (pc + 3) ls rest)) : W p l e R s m args below meth c H locs cells slots Q (F0 m pc ls (.ref v :: .ref (G.2.2.1 + k) :: rest)) :=
  sPutF Cx inX9 tyX9 tyX9_ok nmX9 rfl 4 (by decide) w_333 rfl rfl hin2 hW hL hk ht rfl rfl sR_off sR_on hdg kk
theorem p_X9_34 (Cx : sC G p m c cc nL s args RX9) (hin2 : meth.name = "<init>") (hW : sW G n S H) (hL : sL G locs) {k : Nat} (hk : k < n) (ht : tau k = .inl 9) {v : Nat} (hdg : decode cc pc = .ok (.putfield 34, 3)) (kk : ∀ (H1 : Heap) (locs1 : List Loc), sW G n (sR S k 5 (.ref v)) H1 → sL G locs1 → W p l e R s m args below meth c H1 locs1 cells slots Q (F0 m (pc + 3) ls rest)) : W p l e R s m args below meth c H locs cells slots Q (F0 m pc ls (.ref v :: .ref (G.2.2.1 + k) :: rest)) :=
  sPutF Cx inX9 tyX9 tyX9_ok nmX9 rfl 5 (by decide) w_334 rfl rfl hin2 hW hL hk ht rfl rfl sR_off sR_on hdg kk
theorem p_X9_37 (Cx : sC G p m c cc nL s args RX9) (hin2 : meth.name = "<init>") (hW : sW G n S H) (hL : sL G locs) {k : Nat} (hk : k < n) (ht : tau k = .inl 9) {v : Nat} (hdg : decode cc pc = .ok (.putfield 37, 3)) (kk : ∀ (H1 : Heap) (locs1 : List Loc), sW G n (sR S k 6 (.ref v)) H1 → sL G locs1 → W p l e R s m args below meth c H1 locs1 cells slots Q (F0 m (pc + 3) ls rest)) : W p l e R s m args below meth c H locs cells slots Q (F0 m pc ls (.ref v :: .ref (G.2.2.1 + k) :: rest)) :=
  sPutF Cx inX9 tyX9 tyX9_ok nmX9 rfl 6 (by decide) w_335 rfl rfl hin2 hW hL hk ht rfl rfl sR_off sR_on hdg kk
theorem p_X9_40 (Cx : sC G p m c cc nL s args RX9) (hin2 : meth.name = "<init>") (hW : sW G n S H) (hL : sL G locs) {k : Nat} (hk : k < n) (ht : tau k = .inl 9) {v : Nat} (hdg : decode cc pc = .ok (.putfield 40, 3)) (kk : ∀ (H1 : Heap) (locs1 : List Loc), sW G n (sR S k 7 (.ref v)) H1 → sL G locs1 → W p l e R s m args below meth c H1 locs1 cells slots Q (F0 m (pc + 3) ls rest)) : W p l e R s m args below meth c H locs cells slots Q (F0 m pc ls (.ref v :: .ref (G.2.2.1 + k) :: rest)) :=
  sPutF Cx inX9 tyX9 tyX9_ok nmX9 rfl 7 (by decide) w_336 rfl rfl hin2 hW hL hk ht rfl rfl sR_off sR_on hdg kk
theorem n_X9_43 (Cx : sC G p m c cc nL s args RX9) (hW : sW G n S H) (ht : tau n = .inl 3) (hcells : cells + 1 ≤ R.cells) (hslots : slots + 5 ≤ R.slots) (hdg : decode cc pc = .ok (.new 43, 3)) (kk : ∀ H1 : Heap, sW G (n + 1) S H1 → W p l e R s m args below meth c H1 locs (cells + 1) (slots + 5) Q (F0 m (pc + 3) ls (.ref (G.2.2.1 + n) :: rest))) : W p l e R s m args below meth c H locs cells slots Q (F0 m pc ls rest) :=
  sNew (ci := 3) Cx inX3 tyX3_ok rfl w_327 w_256 w_207 hW ht (by decide) hcells hslots hdg kk
theorem c_X9_45 (Cx : sC G p m c cc nL s args RX9) {rm : Room} {mc ms : Nat} (h1 : rm.cells = mc) (h2 : rm.slots = ms) (h3 : rm.frames + 1 ≤ R.frames ∧ 8 + (1 + 11) + rm.locals ≤ R.locals) : va_CN R s args RX9 45 yX3_init "OptimumHouse" cX3_init 1 none (.code yX3_init cX3_init 1 none :: tb) rm mc ms 0 ∧ yX3_init.name = "<init>" ∧ (Cond.instanceMethod yX3_init).before args s = true :=
  ⟨sCN Cx 0 w_328 w_207 w_259 (by decide +kernel) h1 h2 h3, rfl, Cx.1.2.2.2.2 _ w_258⟩
theorem p_X9_46 (Cx : sC G p m c cc nL s args RX9) (hW : sW G n S H) (hL : sL G locs) {k : Nat} (hk : k < n) (ht : tau k = .inl 9) {v : Nat} (hdg : decode cc pc = .ok (.putfield 46, 3)) (kk : ∀ (H1 : Heap) (locs1 : List Loc), sW G n (sR S k 8 (.ref v)) H1 → sL G locs1 → W p l e R s m args below meth c H1 locs1 cells slots Q (F0 m (pc + 3) ls rest)) : W p l e R s m args below meth c H locs cells slots Q (F0 m pc ls (.ref v :: .ref (G.2.2.1 + k) :: rest)) :=
  sPut Cx inX9 tyX9 tyX9_ok nmX9 rfl 8 (by decide) w_337 rfl hW hL hk ht rfl rfl sR_off sR_on hdg kk
theorem p_X11_34 (Cx : sC G p m c cc nL s args RX11) (hin2 : meth.name = "<init>") (hW : sW G n S H) (hL : sL G locs) {k : Nat} (hk : k < n) (ht : tau k = .inl 11) {v : Nat} (hdg : decode cc pc = .ok (.putfield 34, 3)) (kk : ∀ (H1 : Heap) (locs1 : List Loc), sW G n (sR S k 2 (.ref v)) H1 → sL G locs1 → W p l e R s m args below meth c H1 locs1 cells slots Q (F0 m (pc + 3) ls rest)) : W p l e R s m args below meth c H locs cells slots Q (F0 m pc ls (.ref v :: .ref (G.2.2.1 + k) :: rest)) :=
  sPutF Cx inX11 tyX11 tyX11_ok nmX11 rfl 2 (by decide) w_706 rfl rfl hin2 hW hL hk ht rfl rfl sR_off sR_on hdg kk
theorem n_X11_38 (Cx : sC G p m c cc nL s args RX11) (hW : sW G n S H) (ht : tau n = .inl 7) (hcells : cells + 1 ≤ R.cells) (hslots : slots + 17 ≤ R.slots) (hdg : decode cc pc = .ok (.new 38, 3)) (kk : ∀ H1 : Heap, sW G (n + 1) S H1 → W p l e R s m args below meth c H1 locs (cells + 1) (slots + 17) Q (F0 m (pc + 3) ls (.ref (G.2.2.1 + n) :: rest))) : W p l e R s m args below meth c H locs cells slots Q (F0 m pc ls rest) :=
  sNew (ci := 7) Cx inX7 tyX7_ok rfl w_381 w_382 w_210 hW ht (by decide) hcells hslots hdg kk
theorem c_X11_40 (Cx : sC G p m c cc nL s args RX11) {rm : Room} {mc ms : Nat} (h1 : rm.cells = mc) (h2 : rm.slots = ms) (h3 : rm.frames + 1 ≤ R.frames ∧ 8 + (1 + 11) + rm.locals ≤ R.locals) : va_CN R s args RX11 40 yX7_init "OptimumHouse" cX7_init 1 none (.code yX7_init cX7_init 1 none :: tb) rm mc ms 0 ∧ yX7_init.name = "<init>" ∧ (Cond.instanceMethod yX7_init).before args s = true :=
  ⟨sCN Cx 0 w_383 w_210 w_385 (by decide +kernel) h1 h2 h3, rfl, Cx.1.2.2.2.2 _ w_384⟩
theorem n_X7_9 (Cx : sC G p m c cc nL s args RX7) (hW : sW G n S H) (ht : tau n = .inl 6) (hcells : cells + 1 ≤ R.cells) (hslots : slots + 10 ≤ R.slots) (hdg : decode cc pc = .ok (.new 9, 3)) (kk : ∀ H1 : Heap, sW G (n + 1) S H1 → W p l e R s m args below meth c H1 locs (cells + 1) (slots + 10) Q (F0 m (pc + 3) ls (.ref (G.2.2.1 + n) :: rest))) : W p l e R s m args below meth c H locs cells slots Q (F0 m pc ls rest) :=
  sNew (ci := 6) Cx inX6 tyX6_ok rfl w_387 w_388 w_211 hW ht (by decide) hcells hslots hdg kk
theorem c_X7_11 (Cx : sC G p m c cc nL s args RX7) {rm : Room} {mc ms : Nat} (h1 : rm.cells = mc) (h2 : rm.slots = ms) (h3 : rm.frames + 1 ≤ R.frames ∧ 8 + (1 + 11) + rm.locals ≤ R.locals) : va_CN R s args RX7 11 yX6_init "OptimumHouse" cX6_init 1 none (.code yX6_init cX6_init 1 none :: tb) rm mc ms 0 ∧ yX6_init.name = "<init>" ∧ (Cond.instanceMethod yX6_init).before args s = true :=
  ⟨sCN Cx 0 w_389 w_211 w_391 (by decide +kernel) h1 h2 h3, rfl, Cx.1.2.2.2.2 _ w_390⟩
theorem p_X6_13 (Cx : sC G p m c cc nL s args RX6) (hin2 : meth.name = "<init>") (hW : sW G n S H) (hL : sL G locs) {k : Nat} (hk : k < n) (ht : tau k = .inl 6) {v : Nat} (hdg : decode cc pc = .ok (.putfield 13, 3)) (kk : ∀ (H1 : Heap) (locs1 : List Loc), sW G n (sR S k 0 (.ref v)) H1 → sL G locs1 → W p l e R s m args below meth c H1 locs1 cells slots Q (F0 m (pc + 3) ls rest)) : W p l e R s m args below meth c H locs cells slots Q (F0 m pc ls (.ref v :: .ref (G.2.2.1 + k) :: rest)) :=
  sPutF Cx inX6 tyX6 tyX6_ok nmX6 rfl 0 (by decide) w_416 rfl rfl hin2 hW hL hk ht rfl rfl sR_off sR_on hdg kk
theorem p_X6_17 (Cx : sC G p m c cc nL s args RX6) (hin2 : meth.name = "<init>") (hW : sW G n S H) (hL : sL G locs) {k : Nat} (hk : k < n) (ht : tau k = .inl 6) {v : Nat} (hdg : decode cc pc = .ok (.putfield 17, 3)) (kk : ∀ (H1 : Heap) (locs1 : List Loc), sW G n (sR S k 1 (.ref v)) H1 → sL G locs1 → W p l e R s m args below meth c H1 locs1 cells slots Q (F0 m (pc + 3) ls rest)) : W p l e R s m args below meth c H locs cells slots Q (F0 m pc ls (.ref v :: .ref (G.2.2.1 + k) :: rest)) :=
  sPutF Cx inX6 tyX6 tyX6_ok nmX6 rfl 1 (by decide) w_417 rfl rfl hin2 hW hL hk ht rfl rfl sR_off sR_on hdg kk
theorem n_X6_11 (Cx : sC G p m c cc nL s args RX6) (hW : sW G n S H) (ht : tau n = .inl 0) (hcells : cells + 1 ≤ R.cells) (hslots : slots + 3 ≤ R.slots) (hdg : decode cc pc = .ok (.new 11, 3)) (kk : ∀ H1 : Heap, sW G (n + 1) S H1 → W p l e R s m args below meth c H1 locs (cells + 1) (slots + 3) Q (F0 m (pc + 3) ls (.ref (G.2.2.1 + n) :: rest))) : W p l e R s m args below meth c H locs cells slots Q (F0 m pc ls rest) :=
  sNew (ci := 0) Cx inX0 tyX0_ok rfl w_393 w_394 w_212 hW ht (by decide) hcells hslots hdg kk
theorem c_X6_20 (Cx : sC G p m c cc nL s args RX6) {rm : Room} {mc ms : Nat} (h1 : rm.cells = mc) (h2 : rm.slots = ms) (h3 : rm.frames + 1 ≤ R.frames ∧ 8 + (1 + 11) + rm.locals ≤ R.locals) : va_CN R s args RX6 20 yX0_init "OptimumHouse" cX0_init 1 none (.code yX0_init cX0_init 1 none :: tb) rm mc ms 0 ∧ yX0_init.name = "<init>" ∧ (Cond.instanceMethod yX0_init).before args s = true :=
  ⟨sCN Cx 0 w_395 w_212 w_397 (by decide +kernel) h1 h2 h3, rfl, Cx.1.2.2.2.2 _ w_396⟩
theorem p_X0_9 (Cx : sC G p m c cc nL s args RX0) (hin2 : meth.name = "<init>") (hW : sW G n S H) (hL : sL G locs) {k : Nat} (hk : k < n) (ht : tau k = .inl 0) {v : Nat} (hdg : decode cc pc = .ok (.putfield 9, 3)) (kk : ∀ (H1 : Heap) (locs1 : List Loc), sW G n (sR S k 0 (.ref v)) H1 → sL G locs1 → W p l e R s m args below meth c H1 locs1 cells slots Q (F0 m (pc + 3) ls rest)) : W p l e R s m args below meth c H locs cells slots Q (F0 m pc ls (.ref v :: .ref (G.2.2.1 + k) :: rest)) :=
  sPutF Cx inX0 tyX0 tyX0_ok nmX0 rfl 0 (by decide) w_399 rfl rfl hin2 hW hL hk ht rfl rfl sR_off sR_on hdg kk
theorem p_X6_21 (Cx : sC G p m c cc nL s args RX6) (hin2 : meth.name = "<init>") (hW : sW G n S H) (hL : sL G locs) {k : Nat} (hk : k < n) (ht : tau k = .inl 6) {v : Nat} (hdg : decode cc pc = .ok (.putfield 21, 3)) (kk : ∀ (H1 : Heap) (locs1 : List Loc), sW G n (sR S k 2 (.ref v)) H1 → sL G locs1 → W p l e R s m args below meth c H1 locs1 cells slots Q (F0 m (pc + 3) ls rest)) : W p l e R s m args below meth c H locs cells slots Q (F0 m pc ls (.ref v :: .ref (G.2.2.1 + k) :: rest)) :=
  sPutF Cx inX6 tyX6 tyX6_ok nmX6 rfl 2 (by decide) w_418 rfl rfl hin2 hW hL hk ht rfl rfl sR_off sR_on hdg kk
theorem p_X6_25 (Cx : sC G p m c cc nL s args RX6) (hin2 : meth.name = "<init>") (hW : sW G n S H) (hL : sL G locs) {k : Nat} (hk : k < n) (ht : tau k = .inl 6) {v : Nat} (hdg : decode cc pc = .ok (.putfield 25, 3)) (kk : ∀ (H1 : Heap) (locs1 : List Loc), sW G n (sR S k 3 (.ref v)) H1 → sL G locs1 → W p l e R s m args below meth c H1 locs1 cells slots Q (F0 m (pc + 3) ls rest)) : W p l e R s m args below meth c H locs cells slots Q (F0 m pc ls (.ref v :: .ref (G.2.2.1 + k) :: rest)) :=
  sPutF Cx inX6 tyX6 tyX6_ok nmX6 rfl 3 (by decide) w_419 rfl rfl hin2 hW hL hk ht rfl rfl sR_off sR_on hdg kk
theorem p_X6_28 (Cx : sC G p m c cc nL s args RX6) (hin2 : meth.name = "<init>") (hW : sW G n S H) (hL : sL G locs) {k : Nat} (hk : k < n) (ht : tau k = .inl 6) {v : Nat} (hdg : decode cc pc = .ok (.putfield 28, 3)) (kk : ∀ (H1 : Heap) (locs1 : List Loc), sW G n (sR S k 4 (.ref v)) H1 → sL G locs1 → W p l e R s m args below meth c H1 locs1 cells slots Q (F0 m (pc + 3) ls rest)) : W p l e R s m args below meth c H locs cells slots Q (F0 m pc ls (.ref v :: .ref (G.2.2.1 + k) :: rest)) :=
  sPutF Cx inX6 tyX6 tyX6_ok nmX6 rfl 4 (by decide) w_420 rfl rfl hin2 hW hL hk ht rfl rfl sR_off sR_on hdg kk
theorem p_X6_31 (Cx : sC G p m c cc nL s args RX6) (hin2 : meth.name = "<init>") (hW : sW G n S H) (hL : sL G locs) {k : Nat} (hk : k < n) (ht : tau k = .inl 6) {v : Nat} (hdg : decode cc pc = .ok (.putfield 31, 3)) (kk : ∀ (H1 : Heap) (locs1 : List Loc), sW G n (sR S k 5 (.ref v)) H1 → sL G locs1 → W p l e R s m args below meth c H1 locs1 cells slots Q (F0 m (pc + 3) ls rest)) : W p l e R s m args below meth c H locs cells slots Q (F0 m pc ls (.ref v :: .ref (G.2.2.1 + k) :: rest)) :=
  sPutF Cx inX6 tyX6 tyX6_ok nmX6 rfl 5 (by decide) w_421 rfl rfl hin2 hW hL hk ht rfl rfl sR_off sR_on hdg kk
theorem p_X6_34 (Cx : sC G p m c cc nL s args RX6) (hin2 : meth.name = "<init>") (hW : sW G n S H) (hL : sL G locs) {k : Nat} (hk : k < n) (ht : tau k = .inl 6) {v : Nat} (hdg : decode cc pc = .ok (.putfield 34, 3)) (kk : ∀ (H1 : Heap) (locs1 : List Loc), sW G n (sR S k 6 (.ref v)) H1 → sL G locs1 → W p l e R s m args below meth c H1 locs1 cells slots Q (F0 m (pc + 3) ls rest)) : W p l e R s m args below meth c H locs cells slots Q (F0 m pc ls (.ref v :: .ref (G.2.2.1 + k) :: rest)) :=
  sPutF Cx inX6 tyX6 tyX6_ok nmX6 rfl 6 (by decide) w_422 rfl rfl hin2 hW hL hk ht rfl rfl sR_off sR_on hdg kk
theorem p_X6_37 (Cx : sC G p m c cc nL s args RX6) (hin2 : meth.name = "<init>") (hW : sW G n S H) (hL : sL G locs) {k : Nat} (hk : k < n) (ht : tau k = .inl 6) {v : Nat} (hdg : decode cc pc = .ok (.putfield 37, 3)) (kk : ∀ (H1 : Heap) (locs1 : List Loc), sW G n (sR S k 7 (.ref v)) H1 → sL G locs1 → W p l e R s m args below meth c H1 locs1 cells slots Q (F0 m (pc + 3) ls rest)) : W p l e R s m args below meth c H locs cells slots Q (F0 m pc ls (.ref v :: .ref (G.2.2.1 + k) :: rest)) :=
  sPutF Cx inX6 tyX6 tyX6_ok nmX6 rfl 7 (by decide) w_423 rfl rfl hin2 hW hL hk ht rfl rfl sR_off sR_on hdg kk
theorem p_X7_12 (Cx : sC G p m c cc nL s args RX7) (hin2 : meth.name = "<init>") (hW : sW G n S H) (hL : sL G locs) {k : Nat} (hk : k < n) (ht : tau k = .inl 7) {v : Nat} (hdg : decode cc pc = .ok (.putfield 12, 3)) (kk : ∀ (H1 : Heap) (locs1 : List Loc), sW G n (sR S k 0 (.ref v)) H1 → sL G locs1 → W p l e R s m args below meth c H1 locs1 cells slots Q (F0 m (pc + 3) ls rest)) : W p l e R s m args below meth c H locs cells slots Q (F0 m pc ls (.ref v :: .ref (G.2.2.1 + k) :: rest)) :=
  sPutF Cx inX7 tyX7 tyX7_ok nmX7 rfl 0 (by decide) w_562 rfl rfl hin2 hW hL hk ht rfl rfl sR_off sR_on hdg kk
theorem n_X7_18 (Cx : sC G p m c cc nL s args RX7) (hW : sW G n S H) (ht : tau n = .inl 2) (hcells : cells + 1 ≤ R.cells) (hslots : slots + 20 ≤ R.slots) (hdg : decode cc pc = .ok (.new 18, 3)) (kk : ∀ H1 : Heap, sW G (n + 1) S H1 → W p l e R s m args below meth c H1 locs (cells + 1) (slots + 20) Q (F0 m (pc + 3) ls (.ref (G.2.2.1 + n) :: rest))) : W p l e R s m args below meth c H locs cells slots Q (F0 m pc ls rest) :=
  sNew (ci := 2) Cx inX2 tyX2_ok rfl w_447 w_448 w_213 hW ht (by decide) hcells hslots hdg kk
theorem c_X7_20 (Cx : sC G p m c cc nL s args RX7) {rm : Room} {mc ms : Nat} (h1 : rm.cells = mc) (h2 : rm.slots = ms) (h3 : rm.frames + 1 ≤ R.frames ∧ 8 + (1 + 11) + rm.locals ≤ R.locals) : va_CN R s args RX7 20 yX2_init "OptimumHouse" cX2_init 1 none (.code yX2_init cX2_init 1 none :: tb) rm mc ms 0 ∧ yX2_init.name = "<init>" ∧ (Cond.instanceMethod yX2_init).before args s = true :=
  ⟨sCN Cx 0 w_449 w_213 w_451 (by decide +kernel) h1 h2 h3, rfl, Cx.1.2.2.2.2 _ w_450⟩
theorem p_X2_13 (Cx : sC G p m c cc nL s args RX2) (hW : sW G n S H) (hL : sL G locs) {k : Nat} (hk : k < n) (ht : tau k = .inl 2) {v : Nat} (hdg : decode cc pc = .ok (.putfield 13, 3)) (kk : ∀ (H1 : Heap) (locs1 : List Loc), sW G n (sR S k 0 (.ref v)) H1 → sL G locs1 → W p l e R s m args below meth c H1 locs1 cells slots Q (F0 m (pc + 3) ls rest)) : W p l e R s m args below meth c H locs cells slots Q (F0 m pc ls (.ref v :: .ref (G.2.2.1 + k) :: rest)) :=
  sPut Cx inX2 tyX2 tyX2_ok nmX2 rfl 0 (by decide) w_456 rfl hW hL hk ht rfl rfl sR_off sR_on hdg kk
theorem p_X2_17 (Cx : sC G p m c cc nL s args RX2) (hW : sW G n S H) (hL : sL G locs) {k : Nat} (hk : k < n) (ht : tau k = .inl 2) {v : Nat} (hdg : decode cc pc = .ok (.putfield 17, 3)) (kk : ∀ (H1 : Heap) (locs1 : List Loc), sW G n (sR S k 1 (.ref v)) H1 → sL G locs1 → W p l e R s m args below meth c H1 locs1 cells slots Q (F0 m (pc + 3) ls rest)) : W p l e R s m args below meth c H locs cells slots Q (F0 m pc ls (.ref v :: .ref (G.2.2.1 + k) :: rest)) :=
  sPut Cx inX2 tyX2 tyX2_ok nmX2 rfl 1 (by decide) w_457 rfl hW hL hk ht rfl rfl sR_off sR_on hdg kk
theorem p_X2_20 (Cx : sC G p m c cc nL s args RX2) (hin2 : meth.name = "<init>") (hW : sW G n S H) (hL : sL G locs) {k : Nat} (hk : k < n) (ht : tau k = .inl 2) {v : Nat} (hdg : decode cc pc = .ok (.putfield 20, 3)) (kk : ∀ (H1 : Heap) (locs1 : List Loc), sW G n (sR S k 2 (.ref v)) H1 → sL G locs1 → W p l e R s m args below meth c H1 locs1 cells slots Q (F0 m (pc + 3) ls rest)) : W p l e R s m args below meth c H locs cells slots Q (F0 m pc ls (.ref v :: .ref (G.2.2.1 + k) :: rest)) :=
  sPutF Cx inX2 tyX2 tyX2_ok nmX2 rfl 2 (by decide) w_458 rfl rfl hin2 hW hL hk ht rfl rfl sR_off sR_on hdg kk
theorem p_X2_23 (Cx : sC G p m c cc nL s args RX2) (hin2 : meth.name = "<init>") (hW : sW G n S H) (hL : sL G locs) {k : Nat} (hk : k < n) (ht : tau k = .inl 2) {v : Nat} (hdg : decode cc pc = .ok (.putfield 23, 3)) (kk : ∀ (H1 : Heap) (locs1 : List Loc), sW G n (sR S k 3 (.ref v)) H1 → sL G locs1 → W p l e R s m args below meth c H1 locs1 cells slots Q (F0 m (pc + 3) ls rest)) : W p l e R s m args below meth c H locs cells slots Q (F0 m pc ls (.ref v :: .ref (G.2.2.1 + k) :: rest)) :=
  sPutF Cx inX2 tyX2 tyX2_ok nmX2 rfl 3 (by decide) w_459 rfl rfl hin2 hW hL hk ht rfl rfl sR_off sR_on hdg kk
theorem p_X2_27 (Cx : sC G p m c cc nL s args RX2) (hin2 : meth.name = "<init>") (hW : sW G n S H) (hL : sL G locs) {k : Nat} (hk : k < n) (ht : tau k = .inl 2) {v : Nat} (hdg : decode cc pc = .ok (.putfield 27, 3)) (kk : ∀ (H1 : Heap) (locs1 : List Loc), sW G n (sR S k 4 (.ref v)) H1 → sL G locs1 → W p l e R s m args below meth c H1 locs1 cells slots Q (F0 m (pc + 3) ls rest)) : W p l e R s m args below meth c H locs cells slots Q (F0 m pc ls (.ref v :: .ref (G.2.2.1 + k) :: rest)) :=
  sPutF Cx inX2 tyX2 tyX2_ok nmX2 rfl 4 (by decide) w_460 rfl rfl hin2 hW hL hk ht rfl rfl sR_off sR_on hdg kk
theorem n_X2_3 (Cx : sC G p m c cc nL s args RX2) (hW : sW G n S H) (ht : tau n = .inl 0) (hcells : cells + 1 ≤ R.cells) (hslots : slots + 3 ≤ R.slots) (hdg : decode cc pc = .ok (.new 3, 3)) (kk : ∀ H1 : Heap, sW G (n + 1) S H1 → W p l e R s m args below meth c H1 locs (cells + 1) (slots + 3) Q (F0 m (pc + 3) ls (.ref (G.2.2.1 + n) :: rest))) : W p l e R s m args below meth c H locs cells slots Q (F0 m pc ls rest) :=
  sNew (ci := 0) Cx inX0 tyX0_ok rfl w_454 w_394 w_212 hW ht (by decide) hcells hslots hdg kk
theorem c_X2_30 (Cx : sC G p m c cc nL s args RX2) {rm : Room} {mc ms : Nat} (h1 : rm.cells = mc) (h2 : rm.slots = ms) (h3 : rm.frames + 1 ≤ R.frames ∧ 8 + (1 + 11) + rm.locals ≤ R.locals) : va_CN R s args RX2 30 yX0_init "OptimumHouse" cX0_init 1 none (.code yX0_init cX0_init 1 none :: tb) rm mc ms 0 ∧ yX0_init.name = "<init>" ∧ (Cond.instanceMethod yX0_init).before args s = true :=
  ⟨sCN Cx 0 w_455 w_212 w_397 (by decide +kernel) h1 h2 h3, rfl, Cx.1.2.2.2.2 _ w_396⟩
theorem p_X2_31 (Cx : sC G p m c cc nL s args RX2) (hin2 : meth.name = "<init>") (hW : sW G n S H) (hL : sL G locs) {k : Nat} (hk : k < n) (ht : tau k = .inl 2) {v : Nat} (hdg : decode cc pc = .ok (.putfield 31, 3)) (kk : ∀ (H1 : Heap) (locs1 : List Loc), sW G n (sR S k 5 (.ref v)) H1 → sL G locs1 → W p l e R s m args below meth c H1 locs1 cells slots Q (F0 m (pc + 3) ls rest)) : W p l e R s m args below meth c H locs cells slots Q (F0 m pc ls (.ref v :: .ref (G.2.2.1 + k) :: rest)) :=
  sPutF Cx inX2 tyX2 tyX2_ok nmX2 rfl 5 (by decide) w_461 rfl rfl hin2 hW hL hk ht rfl rfl sR_off sR_on hdg kk
theorem p_X2_35 (Cx : sC G p m c cc nL s args RX2) (hin2 : meth.name = "<init>") (hW : sW G n S H) (hL : sL G locs) {k : Nat} (hk : k < n) (ht : tau k = .inl 2) {v : Nat} (hdg : decode cc pc = .ok (.putfield 35, 3)) (kk : ∀ (H1 : Heap) (locs1 : List Loc), sW G n (sR S k 6 (.ref v)) H1 → sL G locs1 → W p l e R s m args below meth c H1 locs1 cells slots Q (F0 m (pc + 3) ls rest)) : W p l e R s m args below meth c H locs cells slots Q (F0 m pc ls (.ref v :: .ref (G.2.2.1 + k) :: rest)) :=
  sPutF Cx inX2 tyX2 tyX2_ok nmX2 rfl 6 (by decide) w_462 rfl rfl hin2 hW hL hk ht rfl rfl sR_off sR_on hdg kk
theorem p_X2_38 (Cx : sC G p m c cc nL s args RX2) (hin2 : meth.name = "<init>") (hW : sW G n S H) (hL : sL G locs) {k : Nat} (hk : k < n) (ht : tau k = .inl 2) {v : Nat} (hdg : decode cc pc = .ok (.putfield 38, 3)) (kk : ∀ (H1 : Heap) (locs1 : List Loc), sW G n (sR S k 7 (.ref v)) H1 → sL G locs1 → W p l e R s m args below meth c H1 locs1 cells slots Q (F0 m (pc + 3) ls rest)) : W p l e R s m args below meth c H locs cells slots Q (F0 m pc ls (.ref v :: .ref (G.2.2.1 + k) :: rest)) :=
  sPutF Cx inX2 tyX2 tyX2_ok nmX2 rfl 7 (by decide) w_463 rfl rfl hin2 hW hL hk ht rfl rfl sR_off sR_on hdg kk
theorem p_X2_41 (Cx : sC G p m c cc nL s args RX2) (hin2 : meth.name = "<init>") (hW : sW G n S H) (hL : sL G locs) {k : Nat} (hk : k < n) (ht : tau k = .inl 2) {v : Nat} (hdg : decode cc pc = .ok (.putfield 41, 3)) (kk : ∀ (H1 : Heap) (locs1 : List Loc), sW G n (sR S k 8 (.ref v)) H1 → sL G locs1 → W p l e R s m args below meth c H1 locs1 cells slots Q (F0 m (pc + 3) ls rest)) : W p l e R s m args below meth c H locs cells slots Q (F0 m pc ls (.ref v :: .ref (G.2.2.1 + k) :: rest)) :=
  sPutF Cx inX2 tyX2 tyX2_ok nmX2 rfl 8 (by decide) w_464 rfl rfl hin2 hW hL hk ht rfl rfl sR_off sR_on hdg kk
theorem p_X2_44 (Cx : sC G p m c cc nL s args RX2) (hin2 : meth.name = "<init>") (hW : sW G n S H) (hL : sL G locs) {k : Nat} (hk : k < n) (ht : tau k = .inl 2) {v : Nat} (hdg : decode cc pc = .ok (.putfield 44, 3)) (kk : ∀ (H1 : Heap) (locs1 : List Loc), sW G n (sR S k 9 (.ref v)) H1 → sL G locs1 → W p l e R s m args below meth c H1 locs1 cells slots Q (F0 m (pc + 3) ls rest)) : W p l e R s m args below meth c H locs cells slots Q (F0 m pc ls (.ref v :: .ref (G.2.2.1 + k) :: rest)) :=
  sPutF Cx inX2 tyX2 tyX2_ok nmX2 rfl 9 (by decide) w_465 rfl rfl hin2 hW hL hk ht rfl rfl sR_off sR_on hdg kk
theorem p_X2_47 (Cx : sC G p m c cc nL s args RX2) (hin2 : meth.name = "<init>") (hW : sW G n S H) (hL : sL G locs) {k : Nat} (hk : k < n) (ht : tau k = .inl 2) {v : Nat} (hdg : decode cc pc = .ok (.putfield 47, 3)) (kk : ∀ (H1 : Heap) (locs1 : List Loc), sW G n (sR S k 10 (.ref v)) H1 → sL G locs1 → W p l e R s m args below meth c H1 locs1 cells slots Q (F0 m (pc + 3) ls rest)) : W p l e R s m args below meth c H locs cells slots Q (F0 m pc ls (.ref v :: .ref (G.2.2.1 + k) :: rest)) :=
  sPutF Cx inX2 tyX2 tyX2_ok nmX2 rfl 10 (by decide) w_466 rfl rfl hin2 hW hL hk ht rfl rfl sR_off sR_on hdg kk
theorem p_X2_50 (Cx : sC G p m c cc nL s args RX2) (hin2 : meth.name = "<init>") (hW : sW G n S H) (hL : sL G locs) {k : Nat} (hk : k < n) (ht : tau k = .inl 2) {v : Nat} (hdg : decode cc pc = .ok (.putfield 50, 3)) (kk : ∀ (H1 : Heap) (locs1 : List Loc), sW G n (sR S k 11 (.ref v)) H1 → sL G locs1 → W p l e R s m args below meth c H1 locs1 cells slots Q (F0 m (pc + 3) ls rest)) : W p l e R s m args below meth c H locs cells slots Q (F0 m pc ls (.ref v :: .ref (G.2.2.1 + k) :: rest)) :=
  sPutF Cx inX2 tyX2 tyX2_ok nmX2 rfl 11 (by decide) w_467 rfl rfl hin2 hW hL hk ht rfl rfl sR_off sR_on hdg kk
theorem p_X2_53 (Cx : sC G p m c cc nL s args RX2) (hin2 : meth.name = "<init>") (hW : sW G n S H) (hL : sL G locs) {k : Nat} (hk : k < n) (ht : tau k = .inl 2) {v : Nat} (hdg : decode cc pc = .ok (.putfield 53, 3)) (kk : ∀ (H1 : Heap) (locs1 : List Loc), sW G n (sR S k 12 (.ref v)) H1 → sL G locs1 → W p l e R s m args below meth c H1 locs1 cells slots Q (F0 m (pc + 3) ls rest)) : W p l e R s m args below meth c H locs cells slots Q (F0 m pc ls (.ref v :: .ref (G.2.2.1 + k) :: rest)) :=
  sPutF Cx inX2 tyX2 tyX2_ok nmX2 rfl 12 (by decide) w_468 rfl rfl hin2 hW hL hk ht rfl rfl sR_off sR_on hdg kk
theorem p_X7_21 (Cx : sC G p m c cc nL s args RX7) (hin2 : meth.name = "<init>") (hW : sW G n S H) (hL : sL G locs) {k : Nat} (hk : k < n) (ht : tau k = .inl 7) {v : Nat} (hdg : decode cc pc = .ok (.putfield 21, 3)) (kk : ∀ (H1 : Heap) (locs1 : List Loc), sW G n (sR S k 1 (.ref v)) H1 → sL G locs1 → W p l e R s m args below meth c H1 locs1 cells slots Q (F0 m (pc + 3) ls rest)) : W p l e R s m args below meth c H locs cells slots Q (F0 m pc ls (.ref v :: .ref (G.2.2.1 + k) :: rest)) :=
  sPutF Cx inX7 tyX7 tyX7_ok nmX7 rfl 1 (by decide) w_563 rfl rfl hin2 hW hL hk ht rfl rfl sR_off sR_on hdg kk
theorem n_X7_25 (Cx : sC G p m c cc nL s args RX7) (hW : sW G n S H) (ht : tau n = .inl 5) (hcells : cells + 1 ≤ R.cells) (hslots : slots + 10 ≤ R.slots) (hdg : decode cc pc = .ok (.new 25, 3)) (kk : ∀ H1 : Heap, sW G (n + 1) S H1 → W p l e R s m args below meth c H1 locs (cells + 1) (slots + 10) Q (F0 m (pc + 3) ls (.ref (G.2.2.1 + n) :: rest))) : W p l e R s m args below meth c H locs cells slots Q (F0 m pc ls rest) :=
  sNew (ci := 5) Cx inX5 tyX5_ok rfl w_517 w_518 w_214 hW ht (by decide) hcells hslots hdg kk
theorem c_X7_27 (Cx : sC G p m c cc nL s args RX7) {rm : Room} {mc ms : Nat} (h1 : rm.cells = mc) (h2 : rm.slots = ms) (h3 : rm.frames + 1 ≤ R.frames ∧ 8 + (1 + 11) + rm.locals ≤ R.locals) : va_CN R s args RX7 27 yX5_init "OptimumHouse" cX5_init 1 none (.code yX5_init cX5_init 1 none :: tb) rm mc ms 0 ∧ yX5_init.name = "<init>" ∧ (Cond.instanceMethod yX5_init).before args s = true :=
  ⟨sCN Cx 0 w_519 w_214 w_521 (by decide +kernel) h1 h2 h3, rfl, Cx.1.2.2.2.2 _ w_520⟩
theorem n_X5_9 (Cx : sC G p m c cc nL s args RX5) (hW : sW G n S H) (ht : tau n = .inl 10) (hcells : cells + 1 ≤ R.cells) (hslots : slots + 3 ≤ R.slots) (hdg : decode cc pc = .ok (.new 9, 3)) (kk : ∀ H1 : Heap, sW G (n + 1) S H1 → W p l e R s m args below meth c H1 locs (cells + 1) (slots + 3) Q (F0 m (pc + 3) ls (.ref (G.2.2.1 + n) :: rest))) : W p l e R s m args below meth c H locs cells slots Q (F0 m pc ls rest) :=
  sNew (ci := 10) Cx inX10 tyX10_ok rfl w_523 w_236 w_205 hW ht (by decide) hcells hslots hdg kk
theorem c_X5_13 (Cx : sC G p m c cc nL s args RX5) {rm : Room} {mc ms : Nat} (h1 : rm.cells = mc) (h2 : rm.slots = ms) (h3 : rm.frames + 1 ≤ R.frames ∧ 8 + (2 + 11) + rm.locals ≤ R.locals) : CallB R s args RX5 13 yX10_init cX10_init 2 none (.code yX10_init cX10_init 2 none :: tb) rm mc ms 1 ∧ yX10_init.name = "<init>" ∧ (Cond.instanceMethod yX10_init).before args s = true :=
  sCI Cx 1 w_524 w_238 w_205 w_239 rfl (by decide +kernel) h1 h2 h3
theorem p_X5_16 (Cx : sC G p m c cc nL s args RX5) (hin2 : meth.name = "<init>") (hW : sW G n S H) (hL : sL G locs) {k : Nat} (hk : k < n) (ht : tau k = .inl 5) {v : Nat} (hdg : decode cc pc = .ok (.putfield 16, 3)) (kk : ∀ (H1 : Heap) (locs1 : List Loc), sW G n (sR S k 0 (.ref v)) H1 → sL G locs1 → W p l e R s m args below meth c H1 locs1 cells slots Q (F0 m (pc + 3) ls rest)) : W p l e R s m args below meth c H locs cells slots Q (F0 m pc ls (.ref v :: .ref (G.2.2.1 + k) :: rest)) :=
  sPutF Cx inX5 tyX5 tyX5_ok nmX5 rfl 0 (by decide) w_527 rfl rfl hin2 hW hL hk ht rfl rfl sR_off sR_on hdg kk
theorem p_X5_20 (Cx : sC G p m c cc nL s args RX5) (hin2 : meth.name = "<init>") (hW : sW G n S H) (hL : sL G locs) {k : Nat} (hk : k < n) (ht : tau k = .inl 5) {v : Nat} (hdg : decode cc pc = .ok (.putfield 20, 3)) (kk : ∀ (H1 : Heap) (locs1 : List Loc), sW G n (sR S k 1 (.ref v)) H1 → sL G locs1 → W p l e R s m args below meth c H1 locs1 cells slots Q (F0 m (pc + 3) ls rest)) : W p l e R s m args below meth c H locs cells slots Q (F0 m pc ls (.ref v :: .ref (G.2.2.1 + k) :: rest)) :=
  sPutF Cx inX5 tyX5 tyX5_ok nmX5 rfl 1 (by decide) w_528 rfl rfl hin2 hW hL hk ht rfl rfl sR_off sR_on hdg kk
theorem p_X5_25 (Cx : sC G p m c cc nL s args RX5) (hin2 : meth.name = "<init>") (hW : sW G n S H) (hL : sL G locs) {k : Nat} (hk : k < n) (ht : tau k = .inl 5) {v : Nat} (hdg : decode cc pc = .ok (.putfield 25, 3)) (kk : ∀ (H1 : Heap) (locs1 : List Loc), sW G n (sR S k 2 (.ref v)) H1 → sL G locs1 → W p l e R s m args below meth c H1 locs1 cells slots Q (F0 m (pc + 3) ls rest)) : W p l e R s m args below meth c H locs cells slots Q (F0 m pc ls (.ref v :: .ref (G.2.2.1 + k) :: rest)) :=
  sPutF Cx inX5 tyX5 tyX5_ok nmX5 rfl 2 (by decide) w_529 rfl rfl hin2 hW hL hk ht rfl rfl sR_off sR_on hdg kk
theorem n_X5_23 (Cx : sC G p m c cc nL s args RX5) (hW : sW G n S H) (ht : tau n = .inl 0) (hcells : cells + 1 ≤ R.cells) (hslots : slots + 3 ≤ R.slots) (hdg : decode cc pc = .ok (.new 23, 3)) (kk : ∀ H1 : Heap, sW G (n + 1) S H1 → W p l e R s m args below meth c H1 locs (cells + 1) (slots + 3) Q (F0 m (pc + 3) ls (.ref (G.2.2.1 + n) :: rest))) : W p l e R s m args below meth c H locs cells slots Q (F0 m pc ls rest) :=
  sNew (ci := 0) Cx inX0 tyX0_ok rfl w_525 w_394 w_212 hW ht (by decide) hcells hslots hdg kk
theorem c_X5_29 (Cx : sC G p m c cc nL s args RX5) {rm : Room} {mc ms : Nat} (h1 : rm.cells = mc) (h2 : rm.slots = ms) (h3 : rm.frames + 1 ≤ R.frames ∧ 8 + (1 + 11) + rm.locals ≤ R.locals) : va_CN R s args RX5 29 yX0_init "OptimumHouse" cX0_init 1 none (.code yX0_init cX0_init 1 none :: tb) rm mc ms 0 ∧ yX0_init.name = "<init>" ∧ (Cond.instanceMethod yX0_init).before args s = true :=
  ⟨sCN Cx 0 w_526 w_212 w_397 (by decide +kernel) h1 h2 h3, rfl, Cx.1.2.2.2.2 _ w_396⟩
theorem p_X5_30 (Cx : sC G p m c cc nL s args RX5) (hin2 : meth.name = "<init>") (hW : sW G n S H) (hL : sL G locs) {k : Nat} (hk : k < n) (ht : tau k = .inl 5) {v : Nat} (hdg : decode cc pc = .ok (.putfield 30, 3)) (kk : ∀ (H1 : Heap) (locs1 : List Loc), sW G n (sR S k 3 (.ref v)) H1 → sL G locs1 → W p l e R s m args below meth c H1 locs1 cells slots Q (F0 m (pc + 3) ls rest)) : W p l e R s m args below meth c H locs cells slots Q (F0 m pc ls (.ref v :: .ref (G.2.2.1 + k) :: rest)) :=
  sPutF Cx inX5 tyX5 tyX5_ok nmX5 rfl 3 (by decide) w_530 rfl rfl hin2 hW hL hk ht rfl rfl sR_off sR_on hdg kk
theorem p_X5_34 (Cx : sC G p m c cc nL s args RX5) (hin2 : meth.name = "<init>") (hW : sW G n S H) (hL : sL G locs) {k : Nat} (hk : k < n) (ht : tau k = .inl 5) {v : Nat} (hdg : decode cc pc = .ok (.putfield 34, 3)) (kk : ∀ (H1 : Heap) (locs1 : List Loc), sW G n (sR S k 4 (.ref v)) H1 → sL G locs1 → W p l e R s m args below meth c H1 locs1 cells slots Q (F0 m (pc + 3) ls rest)) : W p l e R s m args below meth c H locs cells slots Q (F0 m pc ls (.ref v :: .ref (G.2.2.1 + k) :: rest)) :=
  sPutF Cx inX5 tyX5 tyX5_ok nmX5 rfl 4 (by decide) w_531 rfl rfl hin2 hW hL hk ht rfl rfl sR_off sR_on hdg kk
theorem p_X5_37 (Cx : sC G p m c cc nL s args RX5) (hin2 : meth.name = "<init>") (hW : sW G n S H) (hL : sL G locs) {k : Nat} (hk : k < n) (ht : tau k = .inl 5) {v : Nat} (hdg : decode cc pc = .ok (.putfield 37, 3)) (kk : ∀ (H1 : Heap) (locs1 : List Loc), sW G n (sR S k 5 (.ref v)) H1 → sL G locs1 → W p l e R s m args below meth c H1 locs1 cells slots Q (F0 m (pc + 3) ls rest)) : W p l e R s m args below meth c H locs cells slots Q (F0 m pc ls (.ref v :: .ref (G.2.2.1 + k) :: rest)) :=
  sPutF Cx inX5 tyX5 tyX5_ok nmX5 rfl 5 (by decide) w_532 rfl rfl hin2 hW hL hk ht rfl rfl sR_off sR_on hdg kk
theorem p_X5_40 (Cx : sC G p m c cc nL s args RX5) (hin2 : meth.name = "<init>") (hW : sW G n S H) (hL : sL G locs) {k : Nat} (hk : k < n) (ht : tau k = .inl 5) {v : Nat} (hdg : decode cc pc = .ok (.putfield 40, 3)) (kk : ∀ (H1 : Heap) (locs1 : List Loc), sW G n (sR S k 6 (.ref v)) H1 → sL G locs1 → W p l e R s m args below meth c H1 locs1 cells slots Q (F0 m (pc + 3) ls rest)) : W p l e R s m args below meth c H locs cells slots Q (F0 m pc ls (.ref v :: .ref (G.2.2.1 + k) :: rest)) :=
  sPutF Cx inX5 tyX5 tyX5_ok nmX5 rfl 6 (by decide) w_533 rfl rfl hin2 hW hL hk ht rfl rfl sR_off sR_on hdg kk
theorem p_X5_43 (Cx : sC G p m c cc nL s args RX5) (hin2 : meth.name = "<init>") (hW : sW G n S H) (hL : sL G locs) {k : Nat} (hk : k < n) (ht : tau k = .inl 5) {v : Nat} (hdg : decode cc pc = .ok (.putfield 43, 3)) (kk : ∀ (H1 : Heap) (locs1 : List Loc), sW G n (sR S k 7 (.ref v)) H1 → sL G locs1 → W p l e R s m args below meth c H1 locs1 cells slots Q (F0 m (pc + 3) ls rest)) : W p l e R s m args below meth c H locs cells slots Q (F0 m pc ls (.ref v :: .ref (G.2.2.1 + k) :: rest)) :=
  sPutF Cx inX5 tyX5 tyX5_ok nmX5 rfl 7 (by decide) w_534 rfl rfl hin2 hW hL hk ht rfl rfl sR_off sR_on hdg kk
theorem p_X5_46 (Cx : sC G p m c cc nL s args RX5) (hin2 : meth.name = "<init>") (hW : sW G n S H) (hL : sL G locs) {k : Nat} (hk : k < n) (ht : tau k = .inl 5) {v : Nat} (hdg : decode cc pc = .ok (.putfield 46, 3)) (kk : ∀ (H1 : Heap) (locs1 : List Loc), sW G n (sR S k 8 (.ref v)) H1 → sL G locs1 → W p l e R s m args below meth c H1 locs1 cells slots Q (F0 m (pc + 3) ls rest)) : W p l e R s m args below meth c H locs cells slots Q (F0 m pc ls (.ref v :: .ref (G.2.2.1 + k) :: rest)) :=
  sPutF Cx inX5 tyX5 tyX5_ok nmX5 rfl 8 (by decide) w_535 rfl rfl hin2 hW hL hk ht rfl rfl sR_off sR_on hdg kk
theorem p_X5_49 (Cx : sC G p m c cc nL s args RX5) (hin2 : meth.name = "<init>") (hW : sW G n S H) (hL : sL G locs) {k : Nat} (hk : k < n) (ht : tau k = .inl 5) {v : Nat} (hdg : decode cc pc = .ok (.putfield 49, 3)) (kk : ∀ (H1 : Heap) (locs1 : List Loc), sW G n (sR S k 9 (.ref v)) H1 → sL G locs1 → W p l e R s m args below meth c H1 locs1 cells slots Q (F0 m (pc + 3) ls rest)) : W p l e R s m args below meth c H locs cells slots Q (F0 m pc ls (.ref v :: .ref (G.2.2.1 + k) :: rest)) :=
  sPutF Cx inX5 tyX5 tyX5_ok nmX5 rfl 9 (by decide) w_536 rfl rfl hin2 hW hL hk ht rfl rfl sR_off sR_on hdg kk
theorem p_X7_28 (Cx : sC G p m c cc nL s args RX7) (hin2 : meth.name = "<init>") (hW : sW G n S H) (hL : sL G locs) {k : Nat} (hk : k < n) (ht : tau k = .inl 7) {v : Nat} (hdg : decode cc pc = .ok (.putfield 28, 3)) (kk : ∀ (H1 : Heap) (locs1 : List Loc), sW G n (sR S k 2 (.ref v)) H1 → sL G locs1 → W p l e R s m args below meth c H1 locs1 cells slots Q (F0 m (pc + 3) ls rest)) : W p l e R s m args below meth c H locs cells slots Q (F0 m pc ls (.ref v :: .ref (G.2.2.1 + k) :: rest)) :=
  sPutF Cx inX7 tyX7 tyX7_ok nmX7 rfl 2 (by decide) w_565 rfl rfl hin2 hW hL hk ht rfl rfl sR_off sR_on hdg kk
theorem n_X7_32 (Cx : sC G p m c cc nL s args RX7) (hW : sW G n S H) (ht : tau n = .inl 0) (hcells : cells + 1 ≤ R.cells) (hslots : slots + 3 ≤ R.slots) (hdg : decode cc pc = .ok (.new 32, 3)) (kk : ∀ H1 : Heap, sW G (n + 1) S H1 → W p l e R s m args below meth c H1 locs (cells + 1) (slots + 3) Q (F0 m (pc + 3) ls (.ref (G.2.2.1 + n) :: rest))) : W p l e R s m args below meth c H locs cells slots Q (F0 m pc ls rest) :=
  sNew (ci := 0) Cx inX0 tyX0_ok rfl w_558 w_394 w_212 hW ht (by decide) hcells hslots hdg kk
theorem c_X7_34 (Cx : sC G p m c cc nL s args RX7) {rm : Room} {mc ms : Nat} (h1 : rm.cells = mc) (h2 : rm.slots = ms) (h3 : rm.frames + 1 ≤ R.frames ∧ 8 + (1 + 11) + rm.locals ≤ R.locals) : va_CN R s args RX7 34 yX0_init "OptimumHouse" cX0_init 1 none (.code yX0_init cX0_init 1 none :: tb) rm mc ms 0 ∧ yX0_init.name = "<init>" ∧ (Cond.instanceMethod yX0_init).before args s = true :=
  ⟨sCN Cx 0 w_559 w_212 w_397 (by decide +kernel) h1 h2 h3, rfl, Cx.1.2.2.2.2 _ w_396⟩
theorem p_X7_35 (Cx : sC G p m c cc nL s args RX7) (hin2 : meth.name = "<init>") (hW : sW G n S H) (hL : sL G locs) {k : Nat} (hk : k < n) (ht : tau k = .inl 7) {v : Nat} (hdg : decode cc pc = .ok (.putfield 35, 3)) (kk : ∀ (H1 : Heap) (locs1 : List Loc), sW G n (sR S k 3 (.ref v)) H1 → sL G locs1 → W p l e R s m args below meth c H1 locs1 cells slots Q (F0 m (pc + 3) ls rest)) : W p l e R s m args below meth c H locs cells slots Q (F0 m pc ls (.ref v :: .ref (G.2.2.1 + k) :: rest)) :=
  sPutF Cx inX7 tyX7 tyX7_ok nmX7 rfl 3 (by decide) w_567 rfl rfl hin2 hW hL hk ht rfl rfl sR_off sR_on hdg kk
theorem p_X7_39 (Cx : sC G p m c cc nL s args RX7) (hin2 : meth.name = "<init>") (hW : sW G n S H) (hL : sL G locs) {k : Nat} (hk : k < n) (ht : tau k = .inl 7) {v : Nat} (hdg : decode cc pc = .ok (.putfield 39, 3)) (kk : ∀ (H1 : Heap) (locs1 : List Loc), sW G n (sR S k 4 (.ref v)) H1 → sL G locs1 → W p l e R s m args below meth c H1 locs1 cells slots Q (F0 m (pc + 3) ls rest)) : W p l e R s m args below meth c H locs cells slots Q (F0 m pc ls (.ref v :: .ref (G.2.2.1 + k) :: rest)) :=
  sPutF Cx inX7 tyX7 tyX7_ok nmX7 rfl 4 (by decide) w_568 rfl rfl hin2 hW hL hk ht rfl rfl sR_off sR_on hdg kk
theorem p_X7_42 (Cx : sC G p m c cc nL s args RX7) (hin2 : meth.name = "<init>") (hW : sW G n S H) (hL : sL G locs) {k : Nat} (hk : k < n) (ht : tau k = .inl 7) {v : Nat} (hdg : decode cc pc = .ok (.putfield 42, 3)) (kk : ∀ (H1 : Heap) (locs1 : List Loc), sW G n (sR S k 5 (.ref v)) H1 → sL G locs1 → W p l e R s m args below meth c H1 locs1 cells slots Q (F0 m (pc + 3) ls rest)) : W p l e R s m args below meth c H locs cells slots Q (F0 m pc ls (.ref v :: .ref (G.2.2.1 + k) :: rest)) :=
  sPutF Cx inX7 tyX7 tyX7_ok nmX7 rfl 5 (by decide) w_569 rfl rfl hin2 hW hL hk ht rfl rfl sR_off sR_on hdg kk
theorem p_X7_45 (Cx : sC G p m c cc nL s args RX7) (hin2 : meth.name = "<init>") (hW : sW G n S H) (hL : sL G locs) {k : Nat} (hk : k < n) (ht : tau k = .inl 7) {v : Nat} (hdg : decode cc pc = .ok (.putfield 45, 3)) (kk : ∀ (H1 : Heap) (locs1 : List Loc), sW G n (sR S k 6 (.ref v)) H1 → sL G locs1 → W p l e R s m args below meth c H1 locs1 cells slots Q (F0 m (pc + 3) ls rest)) : W p l e R s m args below meth c H locs cells slots Q (F0 m pc ls (.ref v :: .ref (G.2.2.1 + k) :: rest)) :=
  sPutF Cx inX7 tyX7 tyX7_ok nmX7 rfl 6 (by decide) w_570 rfl rfl hin2 hW hL hk ht rfl rfl sR_off sR_on hdg kk
theorem n_X7_48 (Cx : sC G p m c cc nL s args RX7) (hW : sW G n S H) (ht : tau n = .inl 3) (hcells : cells + 1 ≤ R.cells) (hslots : slots + 5 ≤ R.slots) (hdg : decode cc pc = .ok (.new 48, 3)) (kk : ∀ H1 : Heap, sW G (n + 1) S H1 → W p l e R s m args below meth c H1 locs (cells + 1) (slots + 5) Q (F0 m (pc + 3) ls (.ref (G.2.2.1 + n) :: rest))) : W p l e R s m args below meth c H locs cells slots Q (F0 m pc ls rest) :=
  sNew (ci := 3) Cx inX3 tyX3_ok rfl w_560 w_256 w_207 hW ht (by decide) hcells hslots hdg kk
theorem c_X7_50 (Cx : sC G p m c cc nL s args RX7) {rm : Room} {mc ms : Nat} (h1 : rm.cells = mc) (h2 : rm.slots = ms) (h3 : rm.frames + 1 ≤ R.frames ∧ 8 + (1 + 11) + rm.locals ≤ R.locals) : va_CN R s args RX7 50 yX3_init "OptimumHouse" cX3_init 1 none (.code yX3_init cX3_init 1 none :: tb) rm mc ms 0 ∧ yX3_init.name = "<init>" ∧ (Cond.instanceMethod yX3_init).before args s = true :=
  ⟨sCN Cx 0 w_561 w_207 w_259 (by decide +kernel) h1 h2 h3, rfl, Cx.1.2.2.2.2 _ w_258⟩
theorem p_X7_51 (Cx : sC G p m c cc nL s args RX7) (hW : sW G n S H) (hL : sL G locs) {k : Nat} (hk : k < n) (ht : tau k = .inl 7) {v : Nat} (hdg : decode cc pc = .ok (.putfield 51, 3)) (kk : ∀ (H1 : Heap) (locs1 : List Loc), sW G n (sR S k 7 (.ref v)) H1 → sL G locs1 → W p l e R s m args below meth c H1 locs1 cells slots Q (F0 m (pc + 3) ls rest)) : W p l e R s m args below meth c H locs cells slots Q (F0 m pc ls (.ref v :: .ref (G.2.2.1 + k) :: rest)) :=
  sPut Cx inX7 tyX7 tyX7_ok nmX7 rfl 7 (by decide) w_571 rfl hW hL hk ht rfl rfl sR_off sR_on hdg kk
theorem p_X11_41 (Cx : sC G p m c cc nL s args RX11) (hin2 : meth.name = "<init>") (hW : sW G n S H) (hL : sL G locs) {k : Nat} (hk : k < n) (ht : tau k = .inl 11) {v : Nat} (hdg : decode cc pc = .ok (.putfield 41, 3)) (kk : ∀ (H1 : Heap) (locs1 : List Loc), sW G n (sR S k 3 (.ref v)) H1 → sL G locs1 → W p l e R s m args below meth c H1 locs1 cells slots Q (F0 m (pc + 3) ls rest)) : W p l e R s m args below meth c H locs cells slots Q (F0 m pc ls (.ref v :: .ref (G.2.2.1 + k) :: rest)) :=
  sPutF Cx inX11 tyX11 tyX11_ok nmX11 rfl 3 (by decide) w_707 rfl rfl hin2 hW hL hk ht rfl rfl sR_off sR_on hdg kk
theorem n_X11_45 (Cx : sC G p m c cc nL s args RX11) (hW : sW G n S H) (ht : tau n = .inl 1) (hcells : cells + 1 ≤ R.cells) (hslots : slots + 18 ≤ R.slots) (hdg : decode cc pc = .ok (.new 45, 3)) (kk : ∀ H1 : Heap, sW G (n + 1) S H1 → W p l e R s m args below meth c H1 locs (cells + 1) (slots + 18) Q (F0 m (pc + 3) ls (.ref (G.2.2.1 + n) :: rest))) : W p l e R s m args below meth c H locs cells slots Q (F0 m pc ls rest) :=
  sNew (ci := 1) Cx inX1 tyX1_ok rfl w_616 w_617 w_215 hW ht (by decide) hcells hslots hdg kk
theorem c_X11_47 (Cx : sC G p m c cc nL s args RX11) {rm : Room} {mc ms : Nat} (h1 : rm.cells = mc) (h2 : rm.slots = ms) (h3 : rm.frames + 1 ≤ R.frames ∧ 8 + (1 + 11) + rm.locals ≤ R.locals) : va_CN R s args RX11 47 yX1_init "OptimumHouse" cX1_init 1 none (.code yX1_init cX1_init 1 none :: tb) rm mc ms 0 ∧ yX1_init.name = "<init>" ∧ (Cond.instanceMethod yX1_init).before args s = true :=
  ⟨sCN Cx 0 w_618 w_215 w_620 (by decide +kernel) h1 h2 h3, rfl, Cx.1.2.2.2.2 _ w_619⟩
theorem n_X1_9 (Cx : sC G p m c cc nL s args RX1) (hW : sW G n S H) (ht : tau n = .inl 4) (hcells : cells + 1 ≤ R.cells) (hslots : slots + 4 ≤ R.slots) (hdg : decode cc pc = .ok (.new 9, 3)) (kk : ∀ H1 : Heap, sW G (n + 1) S H1 → W p l e R s m args below meth c H1 locs (cells + 1) (slots + 4) Q (F0 m (pc + 3) ls (.ref (G.2.2.1 + n) :: rest))) : W p l e R s m args below meth c H locs cells slots Q (F0 m pc ls rest) :=
  sNew (ci := 4) Cx inX4 tyX4_ok rfl w_622 w_623 w_216 hW ht (by decide) hcells hslots hdg kk
theorem c_X1_11 (Cx : sC G p m c cc nL s args RX1) {rm : Room} {mc ms : Nat} (h1 : rm.cells = mc) (h2 : rm.slots = ms) (h3 : rm.frames + 1 ≤ R.frames ∧ 8 + (1 + 11) + rm.locals ≤ R.locals) : va_CN R s args RX1 11 yX4_init "OptimumHouse" cX4_init 1 none (.code yX4_init cX4_init 1 none :: tb) rm mc ms 0 ∧ yX4_init.name = "<init>" ∧ (Cond.instanceMethod yX4_init).before args s = true :=
  ⟨sCN Cx 0 w_624 w_216 w_626 (by decide +kernel) h1 h2 h3, rfl, Cx.1.2.2.2.2 _ w_625⟩
theorem n_X4_9 (Cx : sC G p m c cc nL s args RX4) (hW : sW G n S H) (ht : tau n = .inl 10) (hcells : cells + 1 ≤ R.cells) (hslots : slots + 3 ≤ R.slots) (hdg : decode cc pc = .ok (.new 9, 3)) (kk : ∀ H1 : Heap, sW G (n + 1) S H1 → W p l e R s m args below meth c H1 locs (cells + 1) (slots + 3) Q (F0 m (pc + 3) ls (.ref (G.2.2.1 + n) :: rest))) : W p l e R s m args below meth c H locs cells slots Q (F0 m pc ls rest) :=
  sNew (ci := 10) Cx inX10 tyX10_ok rfl w_628 w_236 w_205 hW ht (by decide) hcells hslots hdg kk
theorem c_X4_11 (Cx : sC G p m c cc nL s args RX4) {rm : Room} {mc ms : Nat} (h1 : rm.cells = mc) (h2 : rm.slots = ms) (h3 : rm.frames + 1 ≤ R.frames ∧ 8 + (2 + 11) + rm.locals ≤ R.locals) : CallB R s args RX4 11 yX10_init cX10_init 2 none (.code yX10_init cX10_init 2 none :: tb) rm mc ms 1 ∧ yX10_init.name = "<init>" ∧ (Cond.instanceMethod yX10_init).before args s = true :=
  sCI Cx 1 w_629 w_238 w_205 w_239 rfl (by decide +kernel) h1 h2 h3
theorem p_X4_14 (Cx : sC G p m c cc nL s args RX4) (hW : sW G n S H) (hL : sL G locs) {k : Nat} (hk : k < n) (ht : tau k = .inl 4) {v : Nat} (hdg : decode cc pc = .ok (.putfield 14, 3)) (kk : ∀ (H1 : Heap) (locs1 : List Loc), sW G n (sR S k 0 (.ref v)) H1 → sL G locs1 → W p l e R s m args below meth c H1 locs1 cells slots Q (F0 m (pc + 3) ls rest)) : W p l e R s m args below meth c H locs cells slots Q (F0 m pc ls (.ref v :: .ref (G.2.2.1 + k) :: rest)) :=
  sPut Cx inX4 tyX4 tyX4_ok nmX4 rfl 0 (by decide) w_630 rfl hW hL hk ht rfl rfl sR_off sR_on hdg kk
theorem p_X4_20 (Cx : sC G p m c cc nL s args RX4) (hin2 : meth.name = "<init>") (hW : sW G n S H) (hL : sL G locs) {k : Nat} (hk : k < n) (ht : tau k = .inl 4) {v : Nat} (hdg : decode cc pc = .ok (.putfield 20, 3)) (kk : ∀ (H1 : Heap) (locs1 : List Loc), sW G n (sR S k 1 (.ref v)) H1 → sL G locs1 → W p l e R s m args below meth c H1 locs1 cells slots Q (F0 m (pc + 3) ls rest)) : W p l e R s m args below meth c H locs cells slots Q (F0 m pc ls (.ref v :: .ref (G.2.2.1 + k) :: rest)) :=
  sPutF Cx inX4 tyX4 tyX4_ok nmX4 rfl 1 (by decide) w_631 rfl rfl hin2 hW hL hk ht rfl rfl sR_off sR_on hdg kk
theorem p_X1_12 (Cx : sC G p m c cc nL s args RX1) (hin2 : meth.name = "<init>") (hW : sW G n S H) (hL : sL G locs) {k : Nat} (hk : k < n) (ht : tau k = .inl 1) {v : Nat} (hdg : decode cc pc = .ok (.putfield 12, 3)) (kk : ∀ (H1 : Heap) (locs1 : List Loc), sW G n (sR S k 0 (.ref v)) H1 → sL G locs1 → W p l e R s m args below meth c H1 locs1 cells slots Q (F0 m (pc + 3) ls rest)) : W p l e R s m args below meth c H locs cells slots Q (F0 m pc ls (.ref v :: .ref (G.2.2.1 + k) :: rest)) :=
  sPutF Cx inX1 tyX1 tyX1_ok nmX1 rfl 0 (by decide) w_649 rfl rfl hin2 hW hL hk ht rfl rfl sR_off sR_on hdg kk
theorem n_X1_18 (Cx : sC G p m c cc nL s args RX1) (hW : sW G n S H) (ht : tau n = .inl 6) (hcells : cells + 1 ≤ R.cells) (hslots : slots + 10 ≤ R.slots) (hdg : decode cc pc = .ok (.new 18, 3)) (kk : ∀ H1 : Heap, sW G (n + 1) S H1 → W p l e R s m args below meth c H1 locs (cells + 1) (slots + 10) Q (F0 m (pc + 3) ls (.ref (G.2.2.1 + n) :: rest))) : W p l e R s m args below meth c H locs cells slots Q (F0 m pc ls rest) :=
  sNew (ci := 6) Cx inX6 tyX6_ok rfl w_643 w_388 w_211 hW ht (by decide) hcells hslots hdg kk
theorem c_X1_20 (Cx : sC G p m c cc nL s args RX1) {rm : Room} {mc ms : Nat} (h1 : rm.cells = mc) (h2 : rm.slots = ms) (h3 : rm.frames + 1 ≤ R.frames ∧ 8 + (1 + 11) + rm.locals ≤ R.locals) : va_CN R s args RX1 20 yX6_init "OptimumHouse" cX6_init 1 none (.code yX6_init cX6_init 1 none :: tb) rm mc ms 0 ∧ yX6_init.name = "<init>" ∧ (Cond.instanceMethod yX6_init).before args s = true :=
  ⟨sCN Cx 0 w_644 w_211 w_391 (by decide +kernel) h1 h2 h3, rfl, Cx.1.2.2.2.2 _ w_390⟩
theorem p_X1_21 (Cx : sC G p m c cc nL s args RX1) (hin2 : meth.name = "<init>") (hW : sW G n S H) (hL : sL G locs) {k : Nat} (hk : k < n) (ht : tau k = .inl 1) {v : Nat} (hdg : decode cc pc = .ok (.putfield 21, 3)) (kk : ∀ (H1 : Heap) (locs1 : List Loc), sW G n (sR S k 1 (.ref v)) H1 → sL G locs1 → W p l e R s m args below meth c H1 locs1 cells slots Q (F0 m (pc + 3) ls rest)) : W p l e R s m args below meth c H locs cells slots Q (F0 m pc ls (.ref v :: .ref (G.2.2.1 + k) :: rest)) :=
  sPutF Cx inX1 tyX1 tyX1_ok nmX1 rfl 1 (by decide) w_650 rfl rfl hin2 hW hL hk ht rfl rfl sR_off sR_on hdg kk
theorem p_X1_27 (Cx : sC G p m c cc nL s args RX1) (hin2 : meth.name = "<init>") (hW : sW G n S H) (hL : sL G locs) {k : Nat} (hk : k < n) (ht : tau k = .inl 1) {v : Nat} (hdg : decode cc pc = .ok (.putfield 27, 3)) (kk : ∀ (H1 : Heap) (locs1 : List Loc), sW G n (sR S k 2 (.ref v)) H1 → sL G locs1 → W p l e R s m args below meth c H1 locs1 cells slots Q (F0 m (pc + 3) ls rest)) : W p l e R s m args below meth c H locs cells slots Q (F0 m pc ls (.ref v :: .ref (G.2.2.1 + k) :: rest)) :=
  sPutF Cx inX1 tyX1 tyX1_ok nmX1 rfl 2 (by decide) w_651 rfl rfl hin2 hW hL hk ht rfl rfl sR_off sR_on hdg kk
theorem n_X1_25 (Cx : sC G p m c cc nL s args RX1) (hW : sW G n S H) (ht : tau n = .inl 0) (hcells : cells + 1 ≤ R.cells) (hslots : slots + 3 ≤ R.slots) (hdg : decode cc pc = .ok (.new 25, 3)) (kk : ∀ H1 : Heap, sW G (n + 1) S H1 → W p l e R s m args below meth c H1 locs (cells + 1) (slots + 3) Q (F0 m (pc + 3) ls (.ref (G.2.2.1 + n) :: rest))) : W p l e R s m args below meth c H locs cells slots Q (F0 m pc ls rest) :=
  sNew (ci := 0) Cx inX0 tyX0_ok rfl w_645 w_394 w_212 hW ht (by decide) hcells hslots hdg kk
theorem c_X1_31 (Cx : sC G p m c cc nL s args RX1) {rm : Room} {mc ms : Nat} (h1 : rm.cells = mc) (h2 : rm.slots = ms) (h3 : rm.frames + 1 ≤ R.frames ∧ 8 + (1 + 11) + rm.locals ≤ R.locals) : va_CN R s args RX1 31 yX0_init "OptimumHouse" cX0_init 1 none (.code yX0_init cX0_init 1 none :: tb) rm mc ms 0 ∧ yX0_init.name = "<init>" ∧ (Cond.instanceMethod yX0_init).before args s = true :=
  ⟨sCN Cx 0 w_646 w_212 w_397 (by decide +kernel) h1 h2 h3, rfl, Cx.1.2.2.2.2 _ w_396⟩
theorem p_X1_32 (Cx : sC G p m c cc nL s args RX1) (hin2 : meth.name = "<init>") (hW : sW G n S H) (hL : sL G locs) {k : Nat} (hk : k < n) (ht : tau k = .inl 1) {v : Nat} (hdg : decode cc pc = .ok (.putfield 32, 3)) (kk : ∀ (H1 : Heap) (locs1 : List Loc), sW G n (sR S k 3 (.ref v)) H1 → sL G locs1 → W p l e R s m args below meth c H1 locs1 cells slots Q (F0 m (pc + 3) ls rest)) : W p l e R s m args below meth c H locs cells slots Q (F0 m pc ls (.ref v :: .ref (G.2.2.1 + k) :: rest)) :=
  sPutF Cx inX1 tyX1 tyX1_ok nmX1 rfl 3 (by decide) w_652 rfl rfl hin2 hW hL hk ht rfl rfl sR_off sR_on hdg kk
theorem p_X1_36 (Cx : sC G p m c cc nL s args RX1) (hin2 : meth.name = "<init>") (hW : sW G n S H) (hL : sL G locs) {k : Nat} (hk : k < n) (ht : tau k = .inl 1) {v : Nat} (hdg : decode cc pc = .ok (.putfield 36, 3)) (kk : ∀ (H1 : Heap) (locs1 : List Loc), sW G n (sR S k 4 (.ref v)) H1 → sL G locs1 → W p l e R s m args below meth c H1 locs1 cells slots Q (F0 m (pc + 3) ls rest)) : W p l e R s m args below meth c H locs cells slots Q (F0 m pc ls (.ref v :: .ref (G.2.2.1 + k) :: rest)) :=
  sPutF Cx inX1 tyX1 tyX1_ok nmX1 rfl 4 (by decide) w_653 rfl rfl hin2 hW hL hk ht rfl rfl sR_off sR_on hdg kk
theorem p_X1_39 (Cx : sC G p m c cc nL s args RX1) (hin2 : meth.name = "<init>") (hW : sW G n S H) (hL : sL G locs) {k : Nat} (hk : k < n) (ht : tau k = .inl 1) {v : Nat} (hdg : decode cc pc = .ok (.putfield 39, 3)) (kk : ∀ (H1 : Heap) (locs1 : List Loc), sW G n (sR S k 5 (.ref v)) H1 → sL G locs1 → W p l e R s m args below meth c H1 locs1 cells slots Q (F0 m (pc + 3) ls rest)) : W p l e R s m args below meth c H locs cells slots Q (F0 m pc ls (.ref v :: .ref (G.2.2.1 + k) :: rest)) :=
  sPutF Cx inX1 tyX1 tyX1_ok nmX1 rfl 5 (by decide) w_654 rfl rfl hin2 hW hL hk ht rfl rfl sR_off sR_on hdg kk
theorem p_X1_42 (Cx : sC G p m c cc nL s args RX1) (hin2 : meth.name = "<init>") (hW : sW G n S H) (hL : sL G locs) {k : Nat} (hk : k < n) (ht : tau k = .inl 1) {v : Nat} (hdg : decode cc pc = .ok (.putfield 42, 3)) (kk : ∀ (H1 : Heap) (locs1 : List Loc), sW G n (sR S k 6 (.ref v)) H1 → sL G locs1 → W p l e R s m args below meth c H1 locs1 cells slots Q (F0 m (pc + 3) ls rest)) : W p l e R s m args below meth c H locs cells slots Q (F0 m pc ls (.ref v :: .ref (G.2.2.1 + k) :: rest)) :=
  sPutF Cx inX1 tyX1 tyX1_ok nmX1 rfl 6 (by decide) w_655 rfl rfl hin2 hW hL hk ht rfl rfl sR_off sR_on hdg kk
theorem p_X1_45 (Cx : sC G p m c cc nL s args RX1) (hin2 : meth.name = "<init>") (hW : sW G n S H) (hL : sL G locs) {k : Nat} (hk : k < n) (ht : tau k = .inl 1) {v : Nat} (hdg : decode cc pc = .ok (.putfield 45, 3)) (kk : ∀ (H1 : Heap) (locs1 : List Loc), sW G n (sR S k 7 (.ref v)) H1 → sL G locs1 → W p l e R s m args below meth c H1 locs1 cells slots Q (F0 m (pc + 3) ls rest)) : W p l e R s m args below meth c H locs cells slots Q (F0 m pc ls (.ref v :: .ref (G.2.2.1 + k) :: rest)) :=
  sPutF Cx inX1 tyX1 tyX1_ok nmX1 rfl 7 (by decide) w_656 rfl rfl hin2 hW hL hk ht rfl rfl sR_off sR_on hdg kk
theorem p_X1_48 (Cx : sC G p m c cc nL s args RX1) (hin2 : meth.name = "<init>") (hW : sW G n S H) (hL : sL G locs) {k : Nat} (hk : k < n) (ht : tau k = .inl 1) {v : Nat} (hdg : decode cc pc = .ok (.putfield 48, 3)) (kk : ∀ (H1 : Heap) (locs1 : List Loc), sW G n (sR S k 8 (.ref v)) H1 → sL G locs1 → W p l e R s m args below meth c H1 locs1 cells slots Q (F0 m (pc + 3) ls rest)) : W p l e R s m args below meth c H locs cells slots Q (F0 m pc ls (.ref v :: .ref (G.2.2.1 + k) :: rest)) :=
  sPutF Cx inX1 tyX1 tyX1_ok nmX1 rfl 8 (by decide) w_657 rfl rfl hin2 hW hL hk ht rfl rfl sR_off sR_on hdg kk
theorem p_X1_51 (Cx : sC G p m c cc nL s args RX1) (hin2 : meth.name = "<init>") (hW : sW G n S H) (hL : sL G locs) {k : Nat} (hk : k < n) (ht : tau k = .inl 1) {v : Nat} (hdg : decode cc pc = .ok (.putfield 51, 3)) (kk : ∀ (H1 : Heap) (locs1 : List Loc), sW G n (sR S k 9 (.ref v)) H1 → sL G locs1 → W p l e R s m args below meth c H1 locs1 cells slots Q (F0 m (pc + 3) ls rest)) : W p l e R s m args below meth c H locs cells slots Q (F0 m pc ls (.ref v :: .ref (G.2.2.1 + k) :: rest)) :=
  sPutF Cx inX1 tyX1 tyX1_ok nmX1 rfl 9 (by decide) w_658 rfl rfl hin2 hW hL hk ht rfl rfl sR_off sR_on hdg kk
theorem p_X1_54 (Cx : sC G p m c cc nL s args RX1) (hin2 : meth.name = "<init>") (hW : sW G n S H) (hL : sL G locs) {k : Nat} (hk : k < n) (ht : tau k = .inl 1) {v : Nat} (hdg : decode cc pc = .ok (.putfield 54, 3)) (kk : ∀ (H1 : Heap) (locs1 : List Loc), sW G n (sR S k 10 (.ref v)) H1 → sL G locs1 → W p l e R s m args below meth c H1 locs1 cells slots Q (F0 m (pc + 3) ls rest)) : W p l e R s m args below meth c H locs cells slots Q (F0 m pc ls (.ref v :: .ref (G.2.2.1 + k) :: rest)) :=
  sPutF Cx inX1 tyX1 tyX1_ok nmX1 rfl 10 (by decide) w_659 rfl rfl hin2 hW hL hk ht rfl rfl sR_off sR_on hdg kk
theorem p_X1_57 (Cx : sC G p m c cc nL s args RX1) (hin2 : meth.name = "<init>") (hW : sW G n S H) (hL : sL G locs) {k : Nat} (hk : k < n) (ht : tau k = .inl 1) {v : Nat} (hdg : decode cc pc = .ok (.putfield 57, 3)) (kk : ∀ (H1 : Heap) (locs1 : List Loc), sW G n (sR S k 11 (.ref v)) H1 → sL G locs1 → W p l e R s m args below meth c H1 locs1 cells slots Q (F0 m (pc + 3) ls rest)) : W p l e R s m args below meth c H locs cells slots Q (F0 m pc ls (.ref v :: .ref (G.2.2.1 + k) :: rest)) :=
  sPutF Cx inX1 tyX1 tyX1_ok nmX1 rfl 11 (by decide) w_660 rfl rfl hin2 hW hL hk ht rfl rfl sR_off sR_on hdg kk
theorem p_X1_60 (Cx : sC G p m c cc nL s args RX1) (hin2 : meth.name = "<init>") (hW : sW G n S H) (hL : sL G locs) {k : Nat} (hk : k < n) (ht : tau k = .inl 1) {v : Nat} (hdg : decode cc pc = .ok (.putfield 60, 3)) (kk : ∀ (H1 : Heap) (locs1 : List Loc), sW G n (sR S k 12 (.ref v)) H1 → sL G locs1 → W p l e R s m args below meth c H1 locs1 cells slots Q (F0 m (pc + 3) ls rest)) : W p l e R s m args below meth c H locs cells slots Q (F0 m pc ls (.ref v :: .ref (G.2.2.1 + k) :: rest)) :=
  sPutF Cx inX1 tyX1 tyX1_ok nmX1 rfl 12 (by decide) w_661 rfl rfl hin2 hW hL hk ht rfl rfl sR_off sR_on hdg kk
theorem p_X1_63 (Cx : sC G p m c cc nL s args RX1) (hin2 : meth.name = "<init>") (hW : sW G n S H) (hL : sL G locs) {k : Nat} (hk : k < n) (ht : tau k = .inl 1) {v : Nat} (hdg : decode cc pc = .ok (.putfield 63, 3)) (kk : ∀ (H1 : Heap) (locs1 : List Loc), sW G n (sR S k 13 (.ref v)) H1 → sL G locs1 → W p l e R s m args below meth c H1 locs1 cells slots Q (F0 m (pc + 3) ls rest)) : W p l e R s m args below meth c H locs cells slots Q (F0 m pc ls (.ref v :: .ref (G.2.2.1 + k) :: rest)) :=
  sPutF Cx inX1 tyX1 tyX1_ok nmX1 rfl 13 (by decide) w_662 rfl rfl hin2 hW hL hk ht rfl rfl sR_off sR_on hdg kk
theorem n_X1_66 (Cx : sC G p m c cc nL s args RX1) (hW : sW G n S H) (ht : tau n = .inl 3) (hcells : cells + 1 ≤ R.cells) (hslots : slots + 5 ≤ R.slots) (hdg : decode cc pc = .ok (.new 66, 3)) (kk : ∀ H1 : Heap, sW G (n + 1) S H1 → W p l e R s m args below meth c H1 locs (cells + 1) (slots + 5) Q (F0 m (pc + 3) ls (.ref (G.2.2.1 + n) :: rest))) : W p l e R s m args below meth c H locs cells slots Q (F0 m pc ls rest) :=
  sNew (ci := 3) Cx inX3 tyX3_ok rfl w_647 w_256 w_207 hW ht (by decide) hcells hslots hdg kk
theorem c_X1_68 (Cx : sC G p m c cc nL s args RX1) {rm : Room} {mc ms : Nat} (h1 : rm.cells = mc) (h2 : rm.slots = ms) (h3 : rm.frames + 1 ≤ R.frames ∧ 8 + (1 + 11) + rm.locals ≤ R.locals) : va_CN R s args RX1 68 yX3_init "OptimumHouse" cX3_init 1 none (.code yX3_init cX3_init 1 none :: tb) rm mc ms 0 ∧ yX3_init.name = "<init>" ∧ (Cond.instanceMethod yX3_init).before args s = true :=
  ⟨sCN Cx 0 w_648 w_207 w_259 (by decide +kernel) h1 h2 h3, rfl, Cx.1.2.2.2.2 _ w_258⟩
theorem p_X1_69 (Cx : sC G p m c cc nL s args RX1) (hW : sW G n S H) (hL : sL G locs) {k : Nat} (hk : k < n) (ht : tau k = .inl 1) {v : Nat} (hdg : decode cc pc = .ok (.putfield 69, 3)) (kk : ∀ (H1 : Heap) (locs1 : List Loc), sW G n (sR S k 15 (.ref v)) H1 → sL G locs1 → W p l e R s m args below meth c H1 locs1 cells slots Q (F0 m (pc + 3) ls rest)) : W p l e R s m args below meth c H locs cells slots Q (F0 m pc ls (.ref v :: .ref (G.2.2.1 + k) :: rest)) :=
  sPut Cx inX1 tyX1 tyX1_ok nmX1 rfl 15 (by decide) w_664 rfl hW hL hk ht rfl rfl sR_off sR_on hdg kk
theorem p_X11_48 (Cx : sC G p m c cc nL s args RX11) (hin2 : meth.name = "<init>") (hW : sW G n S H) (hL : sL G locs) {k : Nat} (hk : k < n) (ht : tau k = .inl 11) {v : Nat} (hdg : decode cc pc = .ok (.putfield 48, 3)) (kk : ∀ (H1 : Heap) (locs1 : List Loc), sW G n (sR S k 4 (.ref v)) H1 → sL G locs1 → W p l e R s m args below meth c H1 locs1 cells slots Q (F0 m (pc + 3) ls rest)) : W p l e R s m args below meth c H locs cells slots Q (F0 m pc ls (.ref v :: .ref (G.2.2.1 + k) :: rest)) :=
  sPutF Cx inX11 tyX11 tyX11_ok nmX11 rfl 4 (by decide) w_708 rfl rfl hin2 hW hL hk ht rfl rfl sR_off sR_on hdg kk
theorem p_X11_52 (Cx : sC G p m c cc nL s args RX11) (hW : sW G n S H) (hL : sL G locs) {k : Nat} (hk : k < n) (ht : tau k = .inl 11) {v : Int32} (hdg : decode cc pc = .ok (.putfield 52, 3)) (kk : ∀ (H1 : Heap) (locs1 : List Loc), sW G n (sI S k 10 v) H1 → sL G locs1 → W p l e R s m args below meth c H1 locs1 cells slots Q (F0 m (pc + 3) ls rest)) : W p l e R s m args below meth c H locs cells slots Q (F0 m pc ls (.int v :: .ref (G.2.2.1 + k) :: rest)) :=
  sPut Cx inX11 tyX11 tyX11_ok nmX11 rfl 10 (by decide) w_714 rfl hW hL hk ht rfl rfl sI_off (congrArg Value.int sI_on) hdg kk
theorem p_X12_9 (Cx : sC G p m c cc nL s args RX12) (hin2 : meth.name = "<init>") (hW : sW G n S H) (hL : sL G locs) {k : Nat} (hk : k < n) (ht : tau k = .inl 12) {v : Nat} (hdg : decode cc pc = .ok (.putfield 9, 3)) (kk : ∀ (H1 : Heap) (locs1 : List Loc), sW G n (sR S k 0 (.ref v)) H1 → sL G locs1 → W p l e R s m args below meth c H1 locs1 cells slots Q (F0 m (pc + 3) ls rest)) : W p l e R s m args below meth c H locs cells slots Q (F0 m pc ls (.ref v :: .ref (G.2.2.1 + k) :: rest)) :=
  sPutF Cx inX12 tyX12 tyX12_ok nmX12 rfl 0 (by decide) w_1961 rfl rfl hin2 hW hL hk ht rfl rfl sR_off sR_on hdg kk
theorem p_X12_13 (Cx : sC G p m c cc nL s args RX12) (hin2 : meth.name = "<init>") (hW : sW G n S H) (hL : sL G locs) {k : Nat} (hk : k < n) (ht : tau k = .inl 12) {v : Nat} (hdg : decode cc pc = .ok (.putfield 13, 3)) (kk : ∀ (H1 : Heap) (locs1 : List Loc), sW G n (sR S k 2 (.ref v)) H1 → sL G locs1 → W p l e R s m args below meth c H1 locs1 cells slots Q (F0 m (pc + 3) ls rest)) : W p l e R s m args below meth c H locs cells slots Q (F0 m pc ls (.ref v :: .ref (G.2.2.1 + k) :: rest)) :=
  sPutF Cx inX12 tyX12 tyX12_ok nmX12 rfl 2 (by decide) w_1963 rfl rfl hin2 hW hL hk ht rfl rfl sR_off sR_on hdg kk
theorem p_X12_17 (Cx : sC G p m c cc nL s args RX12) (hin2 : meth.name = "<init>") (hW : sW G n S H) (hL : sL G locs) {k : Nat} (hk : k < n) (ht : tau k = .inl 12) {v : Nat} (hdg : decode cc pc = .ok (.putfield 17, 3)) (kk : ∀ (H1 : Heap) (locs1 : List Loc), sW G n (sR S k 3 (.ref v)) H1 → sL G locs1 → W p l e R s m args below meth c H1 locs1 cells slots Q (F0 m (pc + 3) ls rest)) : W p l e R s m args below meth c H locs cells slots Q (F0 m pc ls (.ref v :: .ref (G.2.2.1 + k) :: rest)) :=
  sPutF Cx inX12 tyX12 tyX12_ok nmX12 rfl 3 (by decide) w_1964 rfl rfl hin2 hW hL hk ht rfl rfl sR_off sR_on hdg kk
theorem p_X12_20 (Cx : sC G p m c cc nL s args RX12) (hin2 : meth.name = "<init>") (hW : sW G n S H) (hL : sL G locs) {k : Nat} (hk : k < n) (ht : tau k = .inl 12) {v : Nat} (hdg : decode cc pc = .ok (.putfield 20, 3)) (kk : ∀ (H1 : Heap) (locs1 : List Loc), sW G n (sR S k 4 (.ref v)) H1 → sL G locs1 → W p l e R s m args below meth c H1 locs1 cells slots Q (F0 m (pc + 3) ls rest)) : W p l e R s m args below meth c H locs cells slots Q (F0 m pc ls (.ref v :: .ref (G.2.2.1 + k) :: rest)) :=
  sPutF Cx inX12 tyX12 tyX12_ok nmX12 rfl 4 (by decide) w_1965 rfl rfl hin2 hW hL hk ht rfl rfl sR_off sR_on hdg kk
theorem p_X12_23 (Cx : sC G p m c cc nL s args RX12) (hin2 : meth.name = "<init>") (hW : sW G n S H) (hL : sL G locs) {k : Nat} (hk : k < n) (ht : tau k = .inl 12) {v : Nat} (hdg : decode cc pc = .ok (.putfield 23, 3)) (kk : ∀ (H1 : Heap) (locs1 : List Loc), sW G n (sR S k 5 (.ref v)) H1 → sL G locs1 → W p l e R s m args below meth c H1 locs1 cells slots Q (F0 m (pc + 3) ls rest)) : W p l e R s m args below meth c H locs cells slots Q (F0 m pc ls (.ref v :: .ref (G.2.2.1 + k) :: rest)) :=
  sPutF Cx inX12 tyX12 tyX12_ok nmX12 rfl 5 (by decide) w_1966 rfl rfl hin2 hW hL hk ht rfl rfl sR_off sR_on hdg kk
theorem p_X12_26 (Cx : sC G p m c cc nL s args RX12) (hin2 : meth.name = "<init>") (hW : sW G n S H) (hL : sL G locs) {k : Nat} (hk : k < n) (ht : tau k = .inl 12) {v : Nat} (hdg : decode cc pc = .ok (.putfield 26, 3)) (kk : ∀ (H1 : Heap) (locs1 : List Loc), sW G n (sR S k 7 (.ref v)) H1 → sL G locs1 → W p l e R s m args below meth c H1 locs1 cells slots Q (F0 m (pc + 3) ls rest)) : W p l e R s m args below meth c H locs cells slots Q (F0 m pc ls (.ref v :: .ref (G.2.2.1 + k) :: rest)) :=
  sPutF Cx inX12 tyX12 tyX12_ok nmX12 rfl 7 (by decide) w_1968 rfl rfl hin2 hW hL hk ht rfl rfl sR_off sR_on hdg kk
theorem p_X12_29 (Cx : sC G p m c cc nL s args RX12) (hin2 : meth.name = "<init>") (hW : sW G n S H) (hL : sL G locs) {k : Nat} (hk : k < n) (ht : tau k = .inl 12) {v : Nat} (hdg : decode cc pc = .ok (.putfield 29, 3)) (kk : ∀ (H1 : Heap) (locs1 : List Loc), sW G n (sR S k 8 (.ref v)) H1 → sL G locs1 → W p l e R s m args below meth c H1 locs1 cells slots Q (F0 m (pc + 3) ls rest)) : W p l e R s m args below meth c H locs cells slots Q (F0 m pc ls (.ref v :: .ref (G.2.2.1 + k) :: rest)) :=
  sPutF Cx inX12 tyX12 tyX12_ok nmX12 rfl 8 (by decide) w_1969 rfl rfl hin2 hW hL hk ht rfl rfl sR_off sR_on hdg kk
theorem p_X12_32 (Cx : sC G p m c cc nL s args RX12) (hin2 : meth.name = "<init>") (hW : sW G n S H) (hL : sL G locs) {k : Nat} (hk : k < n) (ht : tau k = .inl 12) {v : Nat} (hdg : decode cc pc = .ok (.putfield 32, 3)) (kk : ∀ (H1 : Heap) (locs1 : List Loc), sW G n (sR S k 9 (.ref v)) H1 → sL G locs1 → W p l e R s m args below meth c H1 locs1 cells slots Q (F0 m (pc + 3) ls rest)) : W p l e R s m args below meth c H locs cells slots Q (F0 m pc ls (.ref v :: .ref (G.2.2.1 + k) :: rest)) :=
  sPutF Cx inX12 tyX12 tyX12_ok nmX12 rfl 9 (by decide) w_1970 rfl rfl hin2 hW hL hk ht rfl rfl sR_off sR_on hdg kk
theorem p_X12_35 (Cx : sC G p m c cc nL s args RX12) (hin2 : meth.name = "<init>") (hW : sW G n S H) (hL : sL G locs) {k : Nat} (hk : k < n) (ht : tau k = .inl 12) {v : Nat} (hdg : decode cc pc = .ok (.putfield 35, 3)) (kk : ∀ (H1 : Heap) (locs1 : List Loc), sW G n (sR S k 10 (.ref v)) H1 → sL G locs1 → W p l e R s m args below meth c H1 locs1 cells slots Q (F0 m (pc + 3) ls rest)) : W p l e R s m args below meth c H locs cells slots Q (F0 m pc ls (.ref v :: .ref (G.2.2.1 + k) :: rest)) :=
  sPutF Cx inX12 tyX12 tyX12_ok nmX12 rfl 10 (by decide) w_1971 rfl rfl hin2 hW hL hk ht rfl rfl sR_off sR_on hdg kk
theorem p_X12_38 (Cx : sC G p m c cc nL s args RX12) (hin2 : meth.name = "<init>") (hW : sW G n S H) (hL : sL G locs) {k : Nat} (hk : k < n) (ht : tau k = .inl 12) {v : Nat} (hdg : decode cc pc = .ok (.putfield 38, 3)) (kk : ∀ (H1 : Heap) (locs1 : List Loc), sW G n (sR S k 11 (.ref v)) H1 → sL G locs1 → W p l e R s m args below meth c H1 locs1 cells slots Q (F0 m (pc + 3) ls rest)) : W p l e R s m args below meth c H locs cells slots Q (F0 m pc ls (.ref v :: .ref (G.2.2.1 + k) :: rest)) :=
  sPutF Cx inX12 tyX12 tyX12_ok nmX12 rfl 11 (by decide) w_1972 rfl rfl hin2 hW hL hk ht rfl rfl sR_off sR_on hdg kk
theorem p_X12_41 (Cx : sC G p m c cc nL s args RX12) (hin2 : meth.name = "<init>") (hW : sW G n S H) (hL : sL G locs) {k : Nat} (hk : k < n) (ht : tau k = .inl 12) {v : Nat} (hdg : decode cc pc = .ok (.putfield 41, 3)) (kk : ∀ (H1 : Heap) (locs1 : List Loc), sW G n (sR S k 12 (.ref v)) H1 → sL G locs1 → W p l e R s m args below meth c H1 locs1 cells slots Q (F0 m (pc + 3) ls rest)) : W p l e R s m args below meth c H locs cells slots Q (F0 m pc ls (.ref v :: .ref (G.2.2.1 + k) :: rest)) :=
  sPutF Cx inX12 tyX12 tyX12_ok nmX12 rfl 12 (by decide) w_1973 rfl rfl hin2 hW hL hk ht rfl rfl sR_off sR_on hdg kk
theorem p_X12_44 (Cx : sC G p m c cc nL s args RX12) (hin2 : meth.name = "<init>") (hW : sW G n S H) (hL : sL G locs) {k : Nat} (hk : k < n) (ht : tau k = .inl 12) {v : Nat} (hdg : decode cc pc = .ok (.putfield 44, 3)) (kk : ∀ (H1 : Heap) (locs1 : List Loc), sW G n (sR S k 13 (.ref v)) H1 → sL G locs1 → W p l e R s m args below meth c H1 locs1 cells slots Q (F0 m (pc + 3) ls rest)) : W p l e R s m args below meth c H locs cells slots Q (F0 m pc ls (.ref v :: .ref (G.2.2.1 + k) :: rest)) :=
  sPutF Cx inX12 tyX12 tyX12_ok nmX12 rfl 13 (by decide) w_1974 rfl rfl hin2 hW hL hk ht rfl rfl sR_off sR_on hdg kk
theorem p_X12_47 (Cx : sC G p m c cc nL s args RX12) (hin2 : meth.name = "<init>") (hW : sW G n S H) (hL : sL G locs) {k : Nat} (hk : k < n) (ht : tau k = .inl 12) {v : Nat} (hdg : decode cc pc = .ok (.putfield 47, 3)) (kk : ∀ (H1 : Heap) (locs1 : List Loc), sW G n (sR S k 15 (.ref v)) H1 → sL G locs1 → W p l e R s m args below meth c H1 locs1 cells slots Q (F0 m (pc + 3) ls rest)) : W p l e R s m args below meth c H locs cells slots Q (F0 m pc ls (.ref v :: .ref (G.2.2.1 + k) :: rest)) :=
  sPutF Cx inX12 tyX12 tyX12_ok nmX12 rfl 15 (by decide) w_1976 rfl rfl hin2 hW hL hk ht rfl rfl sR_off sR_on hdg kk
theorem p_X12_50 (Cx : sC G p m c cc nL s args RX12) (hin2 : meth.name = "<init>") (hW : sW G n S H) (hL : sL G locs) {k : Nat} (hk : k < n) (ht : tau k = .inl 12) {v : Nat} (hdg : decode cc pc = .ok (.putfield 50, 3)) (kk : ∀ (H1 : Heap) (locs1 : List Loc), sW G n (sR S k 16 (.ref v)) H1 → sL G locs1 → W p l e R s m args below meth c H1 locs1 cells slots Q (F0 m (pc + 3) ls rest)) : W p l e R s m args below meth c H locs cells slots Q (F0 m pc ls (.ref v :: .ref (G.2.2.1 + k) :: rest)) :=
  sPutF Cx inX12 tyX12 tyX12_ok nmX12 rfl 16 (by decide) w_1977 rfl rfl hin2 hW hL hk ht rfl rfl sR_off sR_on hdg kk
theorem p_X12_53 (Cx : sC G p m c cc nL s args RX12) (hin2 : meth.name = "<init>") (hW : sW G n S H) (hL : sL G locs) {k : Nat} (hk : k < n) (ht : tau k = .inl 12) {v : Nat} (hdg : decode cc pc = .ok (.putfield 53, 3)) (kk : ∀ (H1 : Heap) (locs1 : List Loc), sW G n (sR S k 17 (.ref v)) H1 → sL G locs1 → W p l e R s m args below meth c H1 locs1 cells slots Q (F0 m (pc + 3) ls rest)) : W p l e R s m args below meth c H locs cells slots Q (F0 m pc ls (.ref v :: .ref (G.2.2.1 + k) :: rest)) :=
  sPutF Cx inX12 tyX12 tyX12_ok nmX12 rfl 17 (by decide) w_1978 rfl rfl hin2 hW hL hk ht rfl rfl sR_off sR_on hdg kk
theorem p_X12_56 (Cx : sC G p m c cc nL s args RX12) (hin2 : meth.name = "<init>") (hW : sW G n S H) (hL : sL G locs) {k : Nat} (hk : k < n) (ht : tau k = .inl 12) {v : Nat} (hdg : decode cc pc = .ok (.putfield 56, 3)) (kk : ∀ (H1 : Heap) (locs1 : List Loc), sW G n (sR S k 18 (.ref v)) H1 → sL G locs1 → W p l e R s m args below meth c H1 locs1 cells slots Q (F0 m (pc + 3) ls rest)) : W p l e R s m args below meth c H locs cells slots Q (F0 m pc ls (.ref v :: .ref (G.2.2.1 + k) :: rest)) :=
  sPutF Cx inX12 tyX12 tyX12_ok nmX12 rfl 18 (by decide) w_1979 rfl rfl hin2 hW hL hk ht rfl rfl sR_off sR_on hdg kk
theorem p_X12_59 (Cx : sC G p m c cc nL s args RX12) (hin2 : meth.name = "<init>") (hW : sW G n S H) (hL : sL G locs) {k : Nat} (hk : k < n) (ht : tau k = .inl 12) {v : Nat} (hdg : decode cc pc = .ok (.putfield 59, 3)) (kk : ∀ (H1 : Heap) (locs1 : List Loc), sW G n (sR S k 26 (.ref v)) H1 → sL G locs1 → W p l e R s m args below meth c H1 locs1 cells slots Q (F0 m (pc + 3) ls rest)) : W p l e R s m args below meth c H locs cells slots Q (F0 m pc ls (.ref v :: .ref (G.2.2.1 + k) :: rest)) :=
  sPutF Cx inX12 tyX12 tyX12_ok nmX12 rfl 26 (by decide) w_1987 rfl rfl hin2 hW hL hk ht rfl rfl sR_off sR_on hdg kk
theorem p_X12_62 (Cx : sC G p m c cc nL s args RX12) (hin2 : meth.name = "<init>") (hW : sW G n S H) (hL : sL G locs) {k : Nat} (hk : k < n) (ht : tau k = .inl 12) {v : Nat} (hdg : decode cc pc = .ok (.putfield 62, 3)) (kk : ∀ (H1 : Heap) (locs1 : List Loc), sW G n (sR S k 27 (.ref v)) H1 → sL G locs1 → W p l e R s m args below meth c H1 locs1 cells slots Q (F0 m (pc + 3) ls rest)) : W p l e R s m args below meth c H locs cells slots Q (F0 m pc ls (.ref v :: .ref (G.2.2.1 + k) :: rest)) :=
  sPutF Cx inX12 tyX12 tyX12_ok nmX12 rfl 27 (by decide) w_1988 rfl rfl hin2 hW hL hk ht rfl rfl sR_off sR_on hdg kk
theorem p_X12_65 (Cx : sC G p m c cc nL s args RX12) (hin2 : meth.name = "<init>") (hW : sW G n S H) (hL : sL G locs) {k : Nat} (hk : k < n) (ht : tau k = .inl 12) {v : Nat} (hdg : decode cc pc = .ok (.putfield 65, 3)) (kk : ∀ (H1 : Heap) (locs1 : List Loc), sW G n (sR S k 28 (.ref v)) H1 → sL G locs1 → W p l e R s m args below meth c H1 locs1 cells slots Q (F0 m (pc + 3) ls rest)) : W p l e R s m args below meth c H locs cells slots Q (F0 m pc ls (.ref v :: .ref (G.2.2.1 + k) :: rest)) :=
  sPutF Cx inX12 tyX12 tyX12_ok nmX12 rfl 28 (by decide) w_1989 rfl rfl hin2 hW hL hk ht rfl rfl sR_off sR_on hdg kk
theorem p_X12_68 (Cx : sC G p m c cc nL s args RX12) (hin2 : meth.name = "<init>") (hW : sW G n S H) (hL : sL G locs) {k : Nat} (hk : k < n) (ht : tau k = .inl 12) {v : Nat} (hdg : decode cc pc = .ok (.putfield 68, 3)) (kk : ∀ (H1 : Heap) (locs1 : List Loc), sW G n (sR S k 29 (.ref v)) H1 → sL G locs1 → W p l e R s m args below meth c H1 locs1 cells slots Q (F0 m (pc + 3) ls rest)) : W p l e R s m args below meth c H locs cells slots Q (F0 m pc ls (.ref v :: .ref (G.2.2.1 + k) :: rest)) :=
  sPutF Cx inX12 tyX12 tyX12_ok nmX12 rfl 29 (by decide) w_1990 rfl rfl hin2 hW hL hk ht rfl rfl sR_off sR_on hdg kk
theorem p_X12_71 (Cx : sC G p m c cc nL s args RX12) (hin2 : meth.name = "<init>") (hW : sW G n S H) (hL : sL G locs) {k : Nat} (hk : k < n) (ht : tau k = .inl 12) {v : Nat} (hdg : decode cc pc = .ok (.putfield 71, 3)) (kk : ∀ (H1 : Heap) (locs1 : List Loc), sW G n (sR S k 30 (.ref v)) H1 → sL G locs1 → W p l e R s m args below meth c H1 locs1 cells slots Q (F0 m (pc + 3) ls rest)) : W p l e R s m args below meth c H locs cells slots Q (F0 m pc ls (.ref v :: .ref (G.2.2.1 + k) :: rest)) :=
  sPutF Cx inX12 tyX12 tyX12_ok nmX12 rfl 30 (by decide) w_1991 rfl rfl hin2 hW hL hk ht rfl rfl sR_off sR_on hdg kk
theorem p_X12_74 (Cx : sC G p m c cc nL s args RX12) (hin2 : meth.name = "<init>") (hW : sW G n S H) (hL : sL G locs) {k : Nat} (hk : k < n) (ht : tau k = .inl 12) {v : Nat} (hdg : decode cc pc = .ok (.putfield 74, 3)) (kk : ∀ (H1 : Heap) (locs1 : List Loc), sW G n (sR S k 31 (.ref v)) H1 → sL G locs1 → W p l e R s m args below meth c H1 locs1 cells slots Q (F0 m (pc + 3) ls rest)) : W p l e R s m args below meth c H locs cells slots Q (F0 m pc ls (.ref v :: .ref (G.2.2.1 + k) :: rest)) :=
  sPutF Cx inX12 tyX12 tyX12_ok nmX12 rfl 31 (by decide) w_1992 rfl rfl hin2 hW hL hk ht rfl rfl sR_off sR_on hdg kk
theorem p_X12_77 (Cx : sC G p m c cc nL s args RX12) (hin2 : meth.name = "<init>") (hW : sW G n S H) (hL : sL G locs) {k : Nat} (hk : k < n) (ht : tau k = .inl 12) {v : Nat} (hdg : decode cc pc = .ok (.putfield 77, 3)) (kk : ∀ (H1 : Heap) (locs1 : List Loc), sW G n (sR S k 37 (.ref v)) H1 → sL G locs1 → W p l e R s m args below meth c H1 locs1 cells slots Q (F0 m (pc + 3) ls rest)) : W p l e R s m args below meth c H locs cells slots Q (F0 m pc ls (.ref v :: .ref (G.2.2.1 + k) :: rest)) :=
  sPutF Cx inX12 tyX12 tyX12_ok nmX12 rfl 37 (by decide) w_1998 rfl rfl hin2 hW hL hk ht rfl rfl sR_off sR_on hdg kk
theorem p_X12_81 (Cx : sC G p m c cc nL s args RX12) (hin2 : meth.name = "<init>") (hW : sW G n S H) (hL : sL G locs) {k : Nat} (hk : k < n) (ht : tau k = .inl 12) {v : Nat} (hdg : decode cc pc = .ok (.putfield 81, 3)) (kk : ∀ (H1 : Heap) (locs1 : List Loc), sW G n (sR S k 38 (.ref v)) H1 → sL G locs1 → W p l e R s m args below meth c H1 locs1 cells slots Q (F0 m (pc + 3) ls rest)) : W p l e R s m args below meth c H locs cells slots Q (F0 m pc ls (.ref v :: .ref (G.2.2.1 + k) :: rest)) :=
  sPutF Cx inX12 tyX12 tyX12_ok nmX12 rfl 38 (by decide) w_1999 rfl rfl hin2 hW hL hk ht rfl rfl sR_off sR_on hdg kk
theorem p_X12_85 (Cx : sC G p m c cc nL s args RX12) (hin2 : meth.name = "<init>") (hW : sW G n S H) (hL : sL G locs) {k : Nat} (hk : k < n) (ht : tau k = .inl 12) {v : Nat} (hdg : decode cc pc = .ok (.putfield 85, 3)) (kk : ∀ (H1 : Heap) (locs1 : List Loc), sW G n (sR S k 39 (.ref v)) H1 → sL G locs1 → W p l e R s m args below meth c H1 locs1 cells slots Q (F0 m (pc + 3) ls rest)) : W p l e R s m args below meth c H locs cells slots Q (F0 m pc ls (.ref v :: .ref (G.2.2.1 + k) :: rest)) :=
  sPutF Cx inX12 tyX12 tyX12_ok nmX12 rfl 39 (by decide) w_2000 rfl rfl hin2 hW hL hk ht rfl rfl sR_off sR_on hdg kk
theorem p_X12_88 (Cx : sC G p m c cc nL s args RX12) (hin2 : meth.name = "<init>") (hW : sW G n S H) (hL : sL G locs) {k : Nat} (hk : k < n) (ht : tau k = .inl 12) {v : Nat} (hdg : decode cc pc = .ok (.putfield 88, 3)) (kk : ∀ (H1 : Heap) (locs1 : List Loc), sW G n (sR S k 41 (.ref v)) H1 → sL G locs1 → W p l e R s m args below meth c H1 locs1 cells slots Q (F0 m (pc + 3) ls rest)) : W p l e R s m args below meth c H locs cells slots Q (F0 m pc ls (.ref v :: .ref (G.2.2.1 + k) :: rest)) :=
  sPutF Cx inX12 tyX12 tyX12_ok nmX12 rfl 41 (by decide) w_2002 rfl rfl hin2 hW hL hk ht rfl rfl sR_off sR_on hdg kk
theorem p_X12_91 (Cx : sC G p m c cc nL s args RX12) (hin2 : meth.name = "<init>") (hW : sW G n S H) (hL : sL G locs) {k : Nat} (hk : k < n) (ht : tau k = .inl 12) {v : Nat} (hdg : decode cc pc = .ok (.putfield 91, 3)) (kk : ∀ (H1 : Heap) (locs1 : List Loc), sW G n (sR S k 44 (.ref v)) H1 → sL G locs1 → W p l e R s m args below meth c H1 locs1 cells slots Q (F0 m (pc + 3) ls rest)) : W p l e R s m args below meth c H locs cells slots Q (F0 m pc ls (.ref v :: .ref (G.2.2.1 + k) :: rest)) :=
  sPutF Cx inX12 tyX12 tyX12_ok nmX12 rfl 44 (by decide) w_2005 rfl rfl hin2 hW hL hk ht rfl rfl sR_off sR_on hdg kk
theorem p_X12_94 (Cx : sC G p m c cc nL s args RX12) (hin2 : meth.name = "<init>") (hW : sW G n S H) (hL : sL G locs) {k : Nat} (hk : k < n) (ht : tau k = .inl 12) {v : Nat} (hdg : decode cc pc = .ok (.putfield 94, 3)) (kk : ∀ (H1 : Heap) (locs1 : List Loc), sW G n (sR S k 50 (.ref v)) H1 → sL G locs1 → W p l e R s m args below meth c H1 locs1 cells slots Q (F0 m (pc + 3) ls rest)) : W p l e R s m args below meth c H locs cells slots Q (F0 m pc ls (.ref v :: .ref (G.2.2.1 + k) :: rest)) :=
  sPutF Cx inX12 tyX12 tyX12_ok nmX12 rfl 50 (by decide) w_2011 rfl rfl hin2 hW hL hk ht rfl rfl sR_off sR_on hdg kk
theorem p_X12_97 (Cx : sC G p m c cc nL s args RX12) (hin2 : meth.name = "<init>") (hW : sW G n S H) (hL : sL G locs) {k : Nat} (hk : k < n) (ht : tau k = .inl 12) {v : Nat} (hdg : decode cc pc = .ok (.putfield 97, 3)) (kk : ∀ (H1 : Heap) (locs1 : List Loc), sW G n (sR S k 51 (.ref v)) H1 → sL G locs1 → W p l e R s m args below meth c H1 locs1 cells slots Q (F0 m (pc + 3) ls rest)) : W p l e R s m args below meth c H locs cells slots Q (F0 m pc ls (.ref v :: .ref (G.2.2.1 + k) :: rest)) :=
  sPutF Cx inX12 tyX12 tyX12_ok nmX12 rfl 51 (by decide) w_2012 rfl rfl hin2 hW hL hk ht rfl rfl sR_off sR_on hdg kk
theorem p_X12_100 (Cx : sC G p m c cc nL s args RX12) (hin2 : meth.name = "<init>") (hW : sW G n S H) (hL : sL G locs) {k : Nat} (hk : k < n) (ht : tau k = .inl 12) {v : Nat} (hdg : decode cc pc = .ok (.putfield 100, 3)) (kk : ∀ (H1 : Heap) (locs1 : List Loc), sW G n (sR S k 52 (.ref v)) H1 → sL G locs1 → W p l e R s m args below meth c H1 locs1 cells slots Q (F0 m (pc + 3) ls rest)) : W p l e R s m args below meth c H locs cells slots Q (F0 m pc ls (.ref v :: .ref (G.2.2.1 + k) :: rest)) :=
  sPutF Cx inX12 tyX12 tyX12_ok nmX12 rfl 52 (by decide) w_2013 rfl rfl hin2 hW hL hk ht rfl rfl sR_off sR_on hdg kk
theorem p_X12_103 (Cx : sC G p m c cc nL s args RX12) (hin2 : meth.name = "<init>") (hW : sW G n S H) (hL : sL G locs) {k : Nat} (hk : k < n) (ht : tau k = .inl 12) {v : Nat} (hdg : decode cc pc = .ok (.putfield 103, 3)) (kk : ∀ (H1 : Heap) (locs1 : List Loc), sW G n (sR S k 53 (.ref v)) H1 → sL G locs1 → W p l e R s m args below meth c H1 locs1 cells slots Q (F0 m (pc + 3) ls rest)) : W p l e R s m args below meth c H locs cells slots Q (F0 m pc ls (.ref v :: .ref (G.2.2.1 + k) :: rest)) :=
  sPutF Cx inX12 tyX12 tyX12_ok nmX12 rfl 53 (by decide) w_2014 rfl rfl hin2 hW hL hk ht rfl rfl sR_off sR_on hdg kk
theorem p_X12_106 (Cx : sC G p m c cc nL s args RX12) (hin2 : meth.name = "<init>") (hW : sW G n S H) (hL : sL G locs) {k : Nat} (hk : k < n) (ht : tau k = .inl 12) {v : Nat} (hdg : decode cc pc = .ok (.putfield 106, 3)) (kk : ∀ (H1 : Heap) (locs1 : List Loc), sW G n (sR S k 54 (.ref v)) H1 → sL G locs1 → W p l e R s m args below meth c H1 locs1 cells slots Q (F0 m (pc + 3) ls rest)) : W p l e R s m args below meth c H locs cells slots Q (F0 m pc ls (.ref v :: .ref (G.2.2.1 + k) :: rest)) :=
  sPutF Cx inX12 tyX12 tyX12_ok nmX12 rfl 54 (by decide) w_2015 rfl rfl hin2 hW hL hk ht rfl rfl sR_off sR_on hdg kk
theorem p_X12_109 (Cx : sC G p m c cc nL s args RX12) (hin2 : meth.name = "<init>") (hW : sW G n S H) (hL : sL G locs) {k : Nat} (hk : k < n) (ht : tau k = .inl 12) {v : Nat} (hdg : decode cc pc = .ok (.putfield 109, 3)) (kk : ∀ (H1 : Heap) (locs1 : List Loc), sW G n (sR S k 55 (.ref v)) H1 → sL G locs1 → W p l e R s m args below meth c H1 locs1 cells slots Q (F0 m (pc + 3) ls rest)) : W p l e R s m args below meth c H locs cells slots Q (F0 m pc ls (.ref v :: .ref (G.2.2.1 + k) :: rest)) :=
  sPutF Cx inX12 tyX12 tyX12_ok nmX12 rfl 55 (by decide) w_2016 rfl rfl hin2 hW hL hk ht rfl rfl sR_off sR_on hdg kk
theorem p_X12_112 (Cx : sC G p m c cc nL s args RX12) (hin2 : meth.name = "<init>") (hW : sW G n S H) (hL : sL G locs) {k : Nat} (hk : k < n) (ht : tau k = .inl 12) {v : Nat} (hdg : decode cc pc = .ok (.putfield 112, 3)) (kk : ∀ (H1 : Heap) (locs1 : List Loc), sW G n (sR S k 56 (.ref v)) H1 → sL G locs1 → W p l e R s m args below meth c H1 locs1 cells slots Q (F0 m (pc + 3) ls rest)) : W p l e R s m args below meth c H locs cells slots Q (F0 m pc ls (.ref v :: .ref (G.2.2.1 + k) :: rest)) :=
  sPutF Cx inX12 tyX12 tyX12_ok nmX12 rfl 56 (by decide) w_2017 rfl rfl hin2 hW hL hk ht rfl rfl sR_off sR_on hdg kk
theorem p_X12_115 (Cx : sC G p m c cc nL s args RX12) (hin2 : meth.name = "<init>") (hW : sW G n S H) (hL : sL G locs) {k : Nat} (hk : k < n) (ht : tau k = .inl 12) {v : Nat} (hdg : decode cc pc = .ok (.putfield 115, 3)) (kk : ∀ (H1 : Heap) (locs1 : List Loc), sW G n (sR S k 57 (.ref v)) H1 → sL G locs1 → W p l e R s m args below meth c H1 locs1 cells slots Q (F0 m (pc + 3) ls rest)) : W p l e R s m args below meth c H locs cells slots Q (F0 m pc ls (.ref v :: .ref (G.2.2.1 + k) :: rest)) :=
  sPutF Cx inX12 tyX12 tyX12_ok nmX12 rfl 57 (by decide) w_2018 rfl rfl hin2 hW hL hk ht rfl rfl sR_off sR_on hdg kk
theorem p_X12_119 (Cx : sC G p m c cc nL s args RX12) (hin2 : meth.name = "<init>") (hW : sW G n S H) (hL : sL G locs) {k : Nat} (hk : k < n) (ht : tau k = .inl 12) {v : Nat} (hdg : decode cc pc = .ok (.putfield 119, 3)) (kk : ∀ (H1 : Heap) (locs1 : List Loc), sW G n (sR S k 73 (.ref v)) H1 → sL G locs1 → W p l e R s m args below meth c H1 locs1 cells slots Q (F0 m (pc + 3) ls rest)) : W p l e R s m args below meth c H locs cells slots Q (F0 m pc ls (.ref v :: .ref (G.2.2.1 + k) :: rest)) :=
  sPutF Cx inX12 tyX12 tyX12_ok nmX12 rfl 73 (by decide) w_2034 rfl rfl hin2 hW hL hk ht rfl rfl sR_off sR_on hdg kk
theorem p_X12_122 (Cx : sC G p m c cc nL s args RX12) (hin2 : meth.name = "<init>") (hW : sW G n S H) (hL : sL G locs) {k : Nat} (hk : k < n) (ht : tau k = .inl 12) {v : Nat} (hdg : decode cc pc = .ok (.putfield 122, 3)) (kk : ∀ (H1 : Heap) (locs1 : List Loc), sW G n (sR S k 74 (.ref v)) H1 → sL G locs1 → W p l e R s m args below meth c H1 locs1 cells slots Q (F0 m (pc + 3) ls rest)) : W p l e R s m args below meth c H locs cells slots Q (F0 m pc ls (.ref v :: .ref (G.2.2.1 + k) :: rest)) :=
  sPutF Cx inX12 tyX12 tyX12_ok nmX12 rfl 74 (by decide) w_2035 rfl rfl hin2 hW hL hk ht rfl rfl sR_off sR_on hdg kk
theorem p_X12_125 (Cx : sC G p m c cc nL s args RX12) (hin2 : meth.name = "<init>") (hW : sW G n S H) (hL : sL G locs) {k : Nat} (hk : k < n) (ht : tau k = .inl 12) {v : Nat} (hdg : decode cc pc = .ok (.putfield 125, 3)) (kk : ∀ (H1 : Heap) (locs1 : List Loc), sW G n (sR S k 75 (.ref v)) H1 → sL G locs1 → W p l e R s m args below meth c H1 locs1 cells slots Q (F0 m (pc + 3) ls rest)) : W p l e R s m args below meth c H locs cells slots Q (F0 m pc ls (.ref v :: .ref (G.2.2.1 + k) :: rest)) :=
  sPutF Cx inX12 tyX12 tyX12_ok nmX12 rfl 75 (by decide) w_2036 rfl rfl hin2 hW hL hk ht rfl rfl sR_off sR_on hdg kk
theorem p_X12_128 (Cx : sC G p m c cc nL s args RX12) (hin2 : meth.name = "<init>") (hW : sW G n S H) (hL : sL G locs) {k : Nat} (hk : k < n) (ht : tau k = .inl 12) {v : Nat} (hdg : decode cc pc = .ok (.putfield 128, 3)) (kk : ∀ (H1 : Heap) (locs1 : List Loc), sW G n (sR S k 76 (.ref v)) H1 → sL G locs1 → W p l e R s m args below meth c H1 locs1 cells slots Q (F0 m (pc + 3) ls rest)) : W p l e R s m args below meth c H locs cells slots Q (F0 m pc ls (.ref v :: .ref (G.2.2.1 + k) :: rest)) :=
  sPutF Cx inX12 tyX12 tyX12_ok nmX12 rfl 76 (by decide) w_2037 rfl rfl hin2 hW hL hk ht rfl rfl sR_off sR_on hdg kk
theorem p_X12_131 (Cx : sC G p m c cc nL s args RX12) (hin2 : meth.name = "<init>") (hW : sW G n S H) (hL : sL G locs) {k : Nat} (hk : k < n) (ht : tau k = .inl 12) {v : Nat} (hdg : decode cc pc = .ok (.putfield 131, 3)) (kk : ∀ (H1 : Heap) (locs1 : List Loc), sW G n (sR S k 77 (.ref v)) H1 → sL G locs1 → W p l e R s m args below meth c H1 locs1 cells slots Q (F0 m (pc + 3) ls rest)) : W p l e R s m args below meth c H locs cells slots Q (F0 m pc ls (.ref v :: .ref (G.2.2.1 + k) :: rest)) :=
  sPutF Cx inX12 tyX12 tyX12_ok nmX12 rfl 77 (by decide) w_2038 rfl rfl hin2 hW hL hk ht rfl rfl sR_off sR_on hdg kk
theorem p_X12_134 (Cx : sC G p m c cc nL s args RX12) (hin2 : meth.name = "<init>") (hW : sW G n S H) (hL : sL G locs) {k : Nat} (hk : k < n) (ht : tau k = .inl 12) {v : Nat} (hdg : decode cc pc = .ok (.putfield 134, 3)) (kk : ∀ (H1 : Heap) (locs1 : List Loc), sW G n (sR S k 80 (.ref v)) H1 → sL G locs1 → W p l e R s m args below meth c H1 locs1 cells slots Q (F0 m (pc + 3) ls rest)) : W p l e R s m args below meth c H locs cells slots Q (F0 m pc ls (.ref v :: .ref (G.2.2.1 + k) :: rest)) :=
  sPutF Cx inX12 tyX12 tyX12_ok nmX12 rfl 80 (by decide) w_2041 rfl rfl hin2 hW hL hk ht rfl rfl sR_off sR_on hdg kk
theorem p_X12_137 (Cx : sC G p m c cc nL s args RX12) (hin2 : meth.name = "<init>") (hW : sW G n S H) (hL : sL G locs) {k : Nat} (hk : k < n) (ht : tau k = .inl 12) {v : Nat} (hdg : decode cc pc = .ok (.putfield 137, 3)) (kk : ∀ (H1 : Heap) (locs1 : List Loc), sW G n (sR S k 81 (.ref v)) H1 → sL G locs1 → W p l e R s m args below meth c H1 locs1 cells slots Q (F0 m (pc + 3) ls rest)) : W p l e R s m args below meth c H locs cells slots Q (F0 m pc ls (.ref v :: .ref (G.2.2.1 + k) :: rest)) :=
  sPutF Cx inX12 tyX12 tyX12_ok nmX12 rfl 81 (by decide) w_2042 rfl rfl hin2 hW hL hk ht rfl rfl sR_off sR_on hdg kk
theorem p_X12_140 (Cx : sC G p m c cc nL s args RX12) (hin2 : meth.name = "<init>") (hW : sW G n S H) (hL : sL G locs) {k : Nat} (hk : k < n) (ht : tau k = .inl 12) {v : Nat} (hdg : decode cc pc = .ok (.putfield 140, 3)) (kk : ∀ (H1 : Heap) (locs1 : List Loc), sW G n (sR S k 82 (.ref v)) H1 → sL G locs1 → W p l e R s m args below meth c H1 locs1 cells slots Q (F0 m (pc + 3) ls rest)) : W p l e R s m args below meth c H locs cells slots Q (F0 m pc ls (.ref v :: .ref (G.2.2.1 + k) :: rest)) :=
  sPutF Cx inX12 tyX12 tyX12_ok nmX12 rfl 82 (by decide) w_2043 rfl rfl hin2 hW hL hk ht rfl rfl sR_off sR_on hdg kk
theorem p_X12_144 (Cx : sC G p m c cc nL s args RX12) (hin2 : meth.name = "<init>") (hW : sW G n S H) (hL : sL G locs) {k : Nat} (hk : k < n) (ht : tau k = .inl 12) {v : Nat} (hdg : decode cc pc = .ok (.putfield 144, 3)) (kk : ∀ (H1 : Heap) (locs1 : List Loc), sW G n (sR S k 83 (.ref v)) H1 → sL G locs1 → W p l e R s m args below meth c H1 locs1 cells slots Q (F0 m (pc + 3) ls rest)) : W p l e R s m args below meth c H locs cells slots Q (F0 m pc ls (.ref v :: .ref (G.2.2.1 + k) :: rest)) :=
  sPutF Cx inX12 tyX12 tyX12_ok nmX12 rfl 83 (by decide) w_2044 rfl rfl hin2 hW hL hk ht rfl rfl sR_off sR_on hdg kk
theorem p_X12_148 (Cx : sC G p m c cc nL s args RX12) (hin2 : meth.name = "<init>") (hW : sW G n S H) (hL : sL G locs) {k : Nat} (hk : k < n) (ht : tau k = .inl 12) {v : Nat} (hdg : decode cc pc = .ok (.putfield 148, 3)) (kk : ∀ (H1 : Heap) (locs1 : List Loc), sW G n (sR S k 85 (.ref v)) H1 → sL G locs1 → W p l e R s m args below meth c H1 locs1 cells slots Q (F0 m (pc + 3) ls rest)) : W p l e R s m args below meth c H locs cells slots Q (F0 m pc ls (.ref v :: .ref (G.2.2.1 + k) :: rest)) :=
  sPutF Cx inX12 tyX12 tyX12_ok nmX12 rfl 85 (by decide) w_2046 rfl rfl hin2 hW hL hk ht rfl rfl sR_off sR_on hdg kk
theorem p_X12_151 (Cx : sC G p m c cc nL s args RX12) (hin2 : meth.name = "<init>") (hW : sW G n S H) (hL : sL G locs) {k : Nat} (hk : k < n) (ht : tau k = .inl 12) {v : Nat} (hdg : decode cc pc = .ok (.putfield 151, 3)) (kk : ∀ (H1 : Heap) (locs1 : List Loc), sW G n (sR S k 87 (.ref v)) H1 → sL G locs1 → W p l e R s m args below meth c H1 locs1 cells slots Q (F0 m (pc + 3) ls rest)) : W p l e R s m args below meth c H locs cells slots Q (F0 m pc ls (.ref v :: .ref (G.2.2.1 + k) :: rest)) :=
  sPutF Cx inX12 tyX12 tyX12_ok nmX12 rfl 87 (by decide) w_2048 rfl rfl hin2 hW hL hk ht rfl rfl sR_off sR_on hdg kk
theorem p_X12_154 (Cx : sC G p m c cc nL s args RX12) (hin2 : meth.name = "<init>") (hW : sW G n S H) (hL : sL G locs) {k : Nat} (hk : k < n) (ht : tau k = .inl 12) {v : Nat} (hdg : decode cc pc = .ok (.putfield 154, 3)) (kk : ∀ (H1 : Heap) (locs1 : List Loc), sW G n (sR S k 88 (.ref v)) H1 → sL G locs1 → W p l e R s m args below meth c H1 locs1 cells slots Q (F0 m (pc + 3) ls rest)) : W p l e R s m args below meth c H locs cells slots Q (F0 m pc ls (.ref v :: .ref (G.2.2.1 + k) :: rest)) :=
  sPutF Cx inX12 tyX12 tyX12_ok nmX12 rfl 88 (by decide) w_2049 rfl rfl hin2 hW hL hk ht rfl rfl sR_off sR_on hdg kk
theorem p_X12_157 (Cx : sC G p m c cc nL s args RX12) (hin2 : meth.name = "<init>") (hW : sW G n S H) (hL : sL G locs) {k : Nat} (hk : k < n) (ht : tau k = .inl 12) {v : Nat} (hdg : decode cc pc = .ok (.putfield 157, 3)) (kk : ∀ (H1 : Heap) (locs1 : List Loc), sW G n (sR S k 89 (.ref v)) H1 → sL G locs1 → W p l e R s m args below meth c H1 locs1 cells slots Q (F0 m (pc + 3) ls rest)) : W p l e R s m args below meth c H locs cells slots Q (F0 m pc ls (.ref v :: .ref (G.2.2.1 + k) :: rest)) :=
  sPutF Cx inX12 tyX12 tyX12_ok nmX12 rfl 89 (by decide) w_2050 rfl rfl hin2 hW hL hk ht rfl rfl sR_off sR_on hdg kk
theorem p_X12_160 (Cx : sC G p m c cc nL s args RX12) (hin2 : meth.name = "<init>") (hW : sW G n S H) (hL : sL G locs) {k : Nat} (hk : k < n) (ht : tau k = .inl 12) {v : Nat} (hdg : decode cc pc = .ok (.putfield 160, 3)) (kk : ∀ (H1 : Heap) (locs1 : List Loc), sW G n (sR S k 90 (.ref v)) H1 → sL G locs1 → W p l e R s m args below meth c H1 locs1 cells slots Q (F0 m (pc + 3) ls rest)) : W p l e R s m args below meth c H locs cells slots Q (F0 m pc ls (.ref v :: .ref (G.2.2.1 + k) :: rest)) :=
  sPutF Cx inX12 tyX12 tyX12_ok nmX12 rfl 90 (by decide) w_2051 rfl rfl hin2 hW hL hk ht rfl rfl sR_off sR_on hdg kk
theorem p_X12_163 (Cx : sC G p m c cc nL s args RX12) (hin2 : meth.name = "<init>") (hW : sW G n S H) (hL : sL G locs) {k : Nat} (hk : k < n) (ht : tau k = .inl 12) {v : Nat} (hdg : decode cc pc = .ok (.putfield 163, 3)) (kk : ∀ (H1 : Heap) (locs1 : List Loc), sW G n (sR S k 91 (.ref v)) H1 → sL G locs1 → W p l e R s m args below meth c H1 locs1 cells slots Q (F0 m (pc + 3) ls rest)) : W p l e R s m args below meth c H locs cells slots Q (F0 m pc ls (.ref v :: .ref (G.2.2.1 + k) :: rest)) :=
  sPutF Cx inX12 tyX12 tyX12_ok nmX12 rfl 91 (by decide) w_2052 rfl rfl hin2 hW hL hk ht rfl rfl sR_off sR_on hdg kk
theorem p_X12_166 (Cx : sC G p m c cc nL s args RX12) (hin2 : meth.name = "<init>") (hW : sW G n S H) (hL : sL G locs) {k : Nat} (hk : k < n) (ht : tau k = .inl 12) {v : Nat} (hdg : decode cc pc = .ok (.putfield 166, 3)) (kk : ∀ (H1 : Heap) (locs1 : List Loc), sW G n (sR S k 92 (.ref v)) H1 → sL G locs1 → W p l e R s m args below meth c H1 locs1 cells slots Q (F0 m (pc + 3) ls rest)) : W p l e R s m args below meth c H locs cells slots Q (F0 m pc ls (.ref v :: .ref (G.2.2.1 + k) :: rest)) :=
  sPutF Cx inX12 tyX12 tyX12_ok nmX12 rfl 92 (by decide) w_2053 rfl rfl hin2 hW hL hk ht rfl rfl sR_off sR_on hdg kk
theorem p_X12_169 (Cx : sC G p m c cc nL s args RX12) (hin2 : meth.name = "<init>") (hW : sW G n S H) (hL : sL G locs) {k : Nat} (hk : k < n) (ht : tau k = .inl 12) {v : Nat} (hdg : decode cc pc = .ok (.putfield 169, 3)) (kk : ∀ (H1 : Heap) (locs1 : List Loc), sW G n (sR S k 93 (.ref v)) H1 → sL G locs1 → W p l e R s m args below meth c H1 locs1 cells slots Q (F0 m (pc + 3) ls rest)) : W p l e R s m args below meth c H locs cells slots Q (F0 m pc ls (.ref v :: .ref (G.2.2.1 + k) :: rest)) :=
  sPutF Cx inX12 tyX12 tyX12_ok nmX12 rfl 93 (by decide) w_2054 rfl rfl hin2 hW hL hk ht rfl rfl sR_off sR_on hdg kk
theorem p_X12_172 (Cx : sC G p m c cc nL s args RX12) (hin2 : meth.name = "<init>") (hW : sW G n S H) (hL : sL G locs) {k : Nat} (hk : k < n) (ht : tau k = .inl 12) {v : Nat} (hdg : decode cc pc = .ok (.putfield 172, 3)) (kk : ∀ (H1 : Heap) (locs1 : List Loc), sW G n (sR S k 94 (.ref v)) H1 → sL G locs1 → W p l e R s m args below meth c H1 locs1 cells slots Q (F0 m (pc + 3) ls rest)) : W p l e R s m args below meth c H locs cells slots Q (F0 m pc ls (.ref v :: .ref (G.2.2.1 + k) :: rest)) :=
  sPutF Cx inX12 tyX12 tyX12_ok nmX12 rfl 94 (by decide) w_2055 rfl rfl hin2 hW hL hk ht rfl rfl sR_off sR_on hdg kk
theorem p_X12_175 (Cx : sC G p m c cc nL s args RX12) (hin2 : meth.name = "<init>") (hW : sW G n S H) (hL : sL G locs) {k : Nat} (hk : k < n) (ht : tau k = .inl 12) {v : Nat} (hdg : decode cc pc = .ok (.putfield 175, 3)) (kk : ∀ (H1 : Heap) (locs1 : List Loc), sW G n (sR S k 95 (.ref v)) H1 → sL G locs1 → W p l e R s m args below meth c H1 locs1 cells slots Q (F0 m (pc + 3) ls rest)) : W p l e R s m args below meth c H locs cells slots Q (F0 m pc ls (.ref v :: .ref (G.2.2.1 + k) :: rest)) :=
  sPutF Cx inX12 tyX12 tyX12_ok nmX12 rfl 95 (by decide) w_2056 rfl rfl hin2 hW hL hk ht rfl rfl sR_off sR_on hdg kk
theorem p_X12_178 (Cx : sC G p m c cc nL s args RX12) (hin2 : meth.name = "<init>") (hW : sW G n S H) (hL : sL G locs) {k : Nat} (hk : k < n) (ht : tau k = .inl 12) {v : Nat} (hdg : decode cc pc = .ok (.putfield 178, 3)) (kk : ∀ (H1 : Heap) (locs1 : List Loc), sW G n (sR S k 96 (.ref v)) H1 → sL G locs1 → W p l e R s m args below meth c H1 locs1 cells slots Q (F0 m (pc + 3) ls rest)) : W p l e R s m args below meth c H locs cells slots Q (F0 m pc ls (.ref v :: .ref (G.2.2.1 + k) :: rest)) :=
  sPutF Cx inX12 tyX12 tyX12_ok nmX12 rfl 96 (by decide) w_2057 rfl rfl hin2 hW hL hk ht rfl rfl sR_off sR_on hdg kk
theorem p_X12_181 (Cx : sC G p m c cc nL s args RX12) (hin2 : meth.name = "<init>") (hW : sW G n S H) (hL : sL G locs) {k : Nat} (hk : k < n) (ht : tau k = .inl 12) {v : Nat} (hdg : decode cc pc = .ok (.putfield 181, 3)) (kk : ∀ (H1 : Heap) (locs1 : List Loc), sW G n (sR S k 97 (.ref v)) H1 → sL G locs1 → W p l e R s m args below meth c H1 locs1 cells slots Q (F0 m (pc + 3) ls rest)) : W p l e R s m args below meth c H locs cells slots Q (F0 m pc ls (.ref v :: .ref (G.2.2.1 + k) :: rest)) :=
  sPutF Cx inX12 tyX12 tyX12_ok nmX12 rfl 97 (by decide) w_2058 rfl rfl hin2 hW hL hk ht rfl rfl sR_off sR_on hdg kk
theorem p_X12_184 (Cx : sC G p m c cc nL s args RX12) (hin2 : meth.name = "<init>") (hW : sW G n S H) (hL : sL G locs) {k : Nat} (hk : k < n) (ht : tau k = .inl 12) {v : Nat} (hdg : decode cc pc = .ok (.putfield 184, 3)) (kk : ∀ (H1 : Heap) (locs1 : List Loc), sW G n (sR S k 98 (.ref v)) H1 → sL G locs1 → W p l e R s m args below meth c H1 locs1 cells slots Q (F0 m (pc + 3) ls rest)) : W p l e R s m args below meth c H locs cells slots Q (F0 m pc ls (.ref v :: .ref (G.2.2.1 + k) :: rest)) :=
  sPutF Cx inX12 tyX12 tyX12_ok nmX12 rfl 98 (by decide) w_2059 rfl rfl hin2 hW hL hk ht rfl rfl sR_off sR_on hdg kk
theorem p_X12_187 (Cx : sC G p m c cc nL s args RX12) (hin2 : meth.name = "<init>") (hW : sW G n S H) (hL : sL G locs) {k : Nat} (hk : k < n) (ht : tau k = .inl 12) {v : Nat} (hdg : decode cc pc = .ok (.putfield 187, 3)) (kk : ∀ (H1 : Heap) (locs1 : List Loc), sW G n (sR S k 99 (.ref v)) H1 → sL G locs1 → W p l e R s m args below meth c H1 locs1 cells slots Q (F0 m (pc + 3) ls rest)) : W p l e R s m args below meth c H locs cells slots Q (F0 m pc ls (.ref v :: .ref (G.2.2.1 + k) :: rest)) :=
  sPutF Cx inX12 tyX12 tyX12_ok nmX12 rfl 99 (by decide) w_2060 rfl rfl hin2 hW hL hk ht rfl rfl sR_off sR_on hdg kk
theorem p_X12_190 (Cx : sC G p m c cc nL s args RX12) (hin2 : meth.name = "<init>") (hW : sW G n S H) (hL : sL G locs) {k : Nat} (hk : k < n) (ht : tau k = .inl 12) {v : Nat} (hdg : decode cc pc = .ok (.putfield 190, 3)) (kk : ∀ (H1 : Heap) (locs1 : List Loc), sW G n (sR S k 101 (.ref v)) H1 → sL G locs1 → W p l e R s m args below meth c H1 locs1 cells slots Q (F0 m (pc + 3) ls rest)) : W p l e R s m args below meth c H locs cells slots Q (F0 m pc ls (.ref v :: .ref (G.2.2.1 + k) :: rest)) :=
  sPutF Cx inX12 tyX12 tyX12_ok nmX12 rfl 101 (by decide) w_2062 rfl rfl hin2 hW hL hk ht rfl rfl sR_off sR_on hdg kk
theorem p_X12_193 (Cx : sC G p m c cc nL s args RX12) (hin2 : meth.name = "<init>") (hW : sW G n S H) (hL : sL G locs) {k : Nat} (hk : k < n) (ht : tau k = .inl 12) {v : Nat} (hdg : decode cc pc = .ok (.putfield 193, 3)) (kk : ∀ (H1 : Heap) (locs1 : List Loc), sW G n (sR S k 102 (.ref v)) H1 → sL G locs1 → W p l e R s m args below meth c H1 locs1 cells slots Q (F0 m (pc + 3) ls rest)) : W p l e R s m args below meth c H locs cells slots Q (F0 m pc ls (.ref v :: .ref (G.2.2.1 + k) :: rest)) :=
  sPutF Cx inX12 tyX12 tyX12_ok nmX12 rfl 102 (by decide) w_2063 rfl rfl hin2 hW hL hk ht rfl rfl sR_off sR_on hdg kk
theorem p_X12_196 (Cx : sC G p m c cc nL s args RX12) (hin2 : meth.name = "<init>") (hW : sW G n S H) (hL : sL G locs) {k : Nat} (hk : k < n) (ht : tau k = .inl 12) {v : Nat} (hdg : decode cc pc = .ok (.putfield 196, 3)) (kk : ∀ (H1 : Heap) (locs1 : List Loc), sW G n (sR S k 103 (.ref v)) H1 → sL G locs1 → W p l e R s m args below meth c H1 locs1 cells slots Q (F0 m (pc + 3) ls rest)) : W p l e R s m args below meth c H locs cells slots Q (F0 m pc ls (.ref v :: .ref (G.2.2.1 + k) :: rest)) :=
  sPutF Cx inX12 tyX12 tyX12_ok nmX12 rfl 103 (by decide) w_2064 rfl rfl hin2 hW hL hk ht rfl rfl sR_off sR_on hdg kk
theorem p_X12_199 (Cx : sC G p m c cc nL s args RX12) (hin2 : meth.name = "<init>") (hW : sW G n S H) (hL : sL G locs) {k : Nat} (hk : k < n) (ht : tau k = .inl 12) {v : Nat} (hdg : decode cc pc = .ok (.putfield 199, 3)) (kk : ∀ (H1 : Heap) (locs1 : List Loc), sW G n (sR S k 104 (.ref v)) H1 → sL G locs1 → W p l e R s m args below meth c H1 locs1 cells slots Q (F0 m (pc + 3) ls rest)) : W p l e R s m args below meth c H locs cells slots Q (F0 m pc ls (.ref v :: .ref (G.2.2.1 + k) :: rest)) :=
  sPutF Cx inX12 tyX12 tyX12_ok nmX12 rfl 104 (by decide) w_2065 rfl rfl hin2 hW hL hk ht rfl rfl sR_off sR_on hdg kk
end RW
end
section
set_option maxRecDepth 100000 in
set_option maxHeartbeats 4000000 in
theorem t1_X10_init (l : Launch) (G : sG) (S : sS)   : Met l yX10_init (.code yX10_init cX10_init 2 none :: tb) (rmk 1 1 30000) (sPc G 2 S [.ref (G.2.2.1 + 1), .int 30000]) (sQv G 3 (fun u => u = (sR S 1 0 (.ref (G.2.2.1 + 2))))) 1 30000 (sF G) := by
  refine sEnter (by decide) (Nat.le_of_ble_eq_true rfl) ?_
  intro p e s m args below meth c Cx hr hlk hnm hW ls hl
  have Cx : sC G p m c cX10_init 2 s args RX10 := Cx
  obtain ⟨hx, hb, hml, hown, hts⟩ := id Cx.1
  have hL : sL G [] := sL_nil
  have hl : lv_has ls 2 [(0, .ref (G.2.2.1 + 1)), (1, .int 30000)] := hl
  refine lv_aload_n hx hb dX10_init_0 rfl (lv_at hl 0 rfl) ?_
  refine W.objInit hx hb hown (hts _ w_240) (hts _ w_233) (hts _ w_234) rfl (by rw [hml]; exact hl.1) rfl dX10_init_1 (Nat.le_of_ble_eq_true rfl) (Nat.le_of_ble_eq_true rfl) ?_
  refine W.eq (g2 := F0 m 4 ls []) rfl ?_
  refine lv_aload_n hx hb dX10_init_4 rfl (lv_at hl 0 rfl) ?_
  refine lv_iload_n hx hb dX10_init_5 rfl (lv_at hl 1 rfl) ?_
  refine lv_iconst (v := 0) hx hb dX10_init_6 (by decide) ?_
  refine va_mmax hx hb (hml.trans hl.1.symm) hown (hts _ w_241) (hts _ w_242) (hts _ w_206) (hts _ w_243) (Nat.le_of_ble_eq_true rfl) (Nat.le_of_ble_eq_true rfl) (Nat.le_of_ble_eq_true rfl) (Nat.le_of_ble_eq_true rfl) dX10_init_7 ?_
  refine sCi (v := 30000) (by decide) ?_
  refine sNewa (atype := .byte) (ty := .byte) Cx (N := 30000) rfl 2 rfl (fun U h => h) w_254 hW rfl rfl (by decide) rfl (Nat.le_of_ble_eq_true rfl) (Nat.le_of_ble_eq_true rfl) (Nat.le_of_ble_eq_true rfl) dX10_init_10 (fun H hW => ?_)
  refine p_X10_15 Cx hnm hW hL (k := 1) (by decide) rfl dX10_init_12 (fun H locs hW hL => ?_)
  exact sVret Cx hr hlk hW hL rfl dX10_init_15

set_option maxRecDepth 100000 in
set_option maxHeartbeats 4000000 in
theorem t2_X10_init (l : Launch) (G : sG) (S : sS)   : Met l yX10_init (.code yX10_init cX10_init 2 none :: tb) (rmk 1 1 120) (sPc G 4 S [.ref (G.2.2.1 + 3), .int 120]) (sQv G 5 (fun u => u = (sR S 3 0 (.ref (G.2.2.1 + 4))))) 1 120 (sF G) := by
  refine sEnter (by decide) (Nat.le_of_ble_eq_true rfl) ?_
  intro p e s m args below meth c Cx hr hlk hnm hW ls hl
  have Cx : sC G p m c cX10_init 2 s args RX10 := Cx
  obtain ⟨hx, hb, hml, hown, hts⟩ := id Cx.1
  have hL : sL G [] := sL_nil
  have hl : lv_has ls 2 [(0, .ref (G.2.2.1 + 3)), (1, .int 120)] := hl
  refine lv_aload_n hx hb dX10_init_0 rfl (lv_at hl 0 rfl) ?_
  refine W.objInit hx hb hown (hts _ w_240) (hts _ w_233) (hts _ w_234) rfl (by rw [hml]; exact hl.1) rfl dX10_init_1 (Nat.le_of_ble_eq_true rfl) (Nat.le_of_ble_eq_true rfl) ?_
  refine W.eq (g2 := F0 m 4 ls []) rfl ?_
  refine lv_aload_n hx hb dX10_init_4 rfl (lv_at hl 0 rfl) ?_
  refine lv_iload_n hx hb dX10_init_5 rfl (lv_at hl 1 rfl) ?_
  refine lv_iconst (v := 0) hx hb dX10_init_6 (by decide) ?_
  refine va_mmax hx hb (hml.trans hl.1.symm) hown (hts _ w_241) (hts _ w_242) (hts _ w_206) (hts _ w_243) (Nat.le_of_ble_eq_true rfl) (Nat.le_of_ble_eq_true rfl) (Nat.le_of_ble_eq_true rfl) (Nat.le_of_ble_eq_true rfl) dX10_init_7 ?_
  refine sCi (v := 120) (by decide) ?_
  refine sNewa (atype := .byte) (ty := .byte) Cx (N := 120) rfl 2 rfl (fun U h => h) w_254 hW rfl rfl (by decide) rfl (Nat.le_of_ble_eq_true rfl) (Nat.le_of_ble_eq_true rfl) (Nat.le_of_ble_eq_true rfl) dX10_init_10 (fun H hW => ?_)
  refine p_X10_15 Cx hnm hW hL (k := 3) (by decide) rfl dX10_init_12 (fun H locs hW hL => ?_)
  exact sVret Cx hr hlk hW hL rfl dX10_init_15

set_option maxRecDepth 100000 in
set_option maxHeartbeats 4000000 in
theorem t3_X3_init (l : Launch) (G : sG) (S : sS)   : Met l yX3_init (.code yX3_init cX3_init 1 none :: tb) (rmk 1 2 234) (sPc G 6 S [.ref (G.2.2.1 + 5)]) (sQv G 8 (fun u => u = (sR (sR S 5 0 (.ref (G.2.2.1 + 6))) 5 1 (.ref (G.2.2.1 + 7))))) 2 234 (sF G) := by
  refine sEnter (by decide) (Nat.le_of_ble_eq_true rfl) ?_
  intro p e s m args below meth c Cx hr hlk hnm hW ls hl
  have Cx : sC G p m c cX3_init 1 s args RX3 := Cx
  obtain ⟨hx, hb, hml, hown, hts⟩ := id Cx.1
  have hL : sL G [] := sL_nil
  have hl : lv_has ls 1 [(0, .ref (G.2.2.1 + 5))] := hl
  refine lv_aload_n hx hb dX3_init_0 rfl (lv_at hl 0 rfl) ?_
  refine W.objInit hx hb hown (hts _ w_260) (hts _ w_233) (hts _ w_234) rfl (by rw [hml]; exact hl.1) rfl dX3_init_1 (Nat.le_of_ble_eq_true rfl) (Nat.le_of_ble_eq_true rfl) ?_
  refine W.eq (g2 := F0 m 4 ls []) rfl ?_
  refine lv_aload_n hx hb dX3_init_4 rfl (lv_at hl 0 rfl) ?_
  refine lv_sipush (v := 221) hx hb dX3_init_5 (by decide) ?_
  refine sNewa (atype := .int) (ty := .int) Cx (N := 221) rfl 0 rfl (fun U h => h) w_294 hW rfl rfl (by decide) rfl (Nat.le_of_ble_eq_true rfl) (Nat.le_of_ble_eq_true rfl) (Nat.le_of_ble_eq_true rfl) dX3_init_8 (fun H hW => ?_)
  refine p_X3_11 Cx hnm hW hL (k := 5) (by decide) rfl dX3_init_10 (fun H locs hW hL => ?_)
  refine lv_aload_n hx hb dX3_init_13 rfl (lv_at hl 0 rfl) ?_
  refine lv_bipush (v := 13) hx hb dX3_init_14 (by decide) ?_
  refine sNewa (atype := .boolean) (ty := .boolean) Cx (N := 13) rfl 3 rfl (fun U h => h) w_295 hW rfl rfl (by decide) rfl (Nat.le_of_ble_eq_true rfl) (Nat.le_of_ble_eq_true rfl) (Nat.le_of_ble_eq_true rfl) dX3_init_16 (fun H hW => ?_)
  refine p_X3_15 Cx hnm hW hL (k := 5) (by decide) rfl dX3_init_18 (fun H locs hW hL => ?_)
  exact sVret Cx hr hlk hW hL rfl dX3_init_21

set_option maxRecDepth 100000 in
set_option maxHeartbeats 4000000 in
theorem t4_X3_init (l : Launch) (G : sG) (S : sS)   : Met l yX3_init (.code yX3_init cX3_init 1 none :: tb) (rmk 1 2 234) (sPc G 9 S [.ref (G.2.2.1 + 8)]) (sQv G 11 (fun u => u = (sR (sR S 8 0 (.ref (G.2.2.1 + 9))) 8 1 (.ref (G.2.2.1 + 10))))) 2 234 (sF G) := by
  refine sEnter (by decide) (Nat.le_of_ble_eq_true rfl) ?_
  intro p e s m args below meth c Cx hr hlk hnm hW ls hl
  have Cx : sC G p m c cX3_init 1 s args RX3 := Cx
  obtain ⟨hx, hb, hml, hown, hts⟩ := id Cx.1
  have hL : sL G [] := sL_nil
  have hl : lv_has ls 1 [(0, .ref (G.2.2.1 + 8))] := hl
  refine lv_aload_n hx hb dX3_init_0 rfl (lv_at hl 0 rfl) ?_
  refine W.objInit hx hb hown (hts _ w_260) (hts _ w_233) (hts _ w_234) rfl (by rw [hml]; exact hl.1) rfl dX3_init_1 (Nat.le_of_ble_eq_true rfl) (Nat.le_of_ble_eq_true rfl) ?_
  refine W.eq (g2 := F0 m 4 ls []) rfl ?_
  refine lv_aload_n hx hb dX3_init_4 rfl (lv_at hl 0 rfl) ?_
  refine lv_sipush (v := 221) hx hb dX3_init_5 (by decide) ?_
  refine sNewa (atype := .int) (ty := .int) Cx (N := 221) rfl 0 rfl (fun U h => h) w_294 hW rfl rfl (by decide) rfl (Nat.le_of_ble_eq_true rfl) (Nat.le_of_ble_eq_true rfl) (Nat.le_of_ble_eq_true rfl) dX3_init_8 (fun H hW => ?_)
  refine p_X3_11 Cx hnm hW hL (k := 8) (by decide) rfl dX3_init_10 (fun H locs hW hL => ?_)
  refine lv_aload_n hx hb dX3_init_13 rfl (lv_at hl 0 rfl) ?_
  refine lv_bipush (v := 13) hx hb dX3_init_14 (by decide) ?_
  refine sNewa (atype := .boolean) (ty := .boolean) Cx (N := 13) rfl 3 rfl (fun U h => h) w_295 hW rfl rfl (by decide) rfl (Nat.le_of_ble_eq_true rfl) (Nat.le_of_ble_eq_true rfl) (Nat.le_of_ble_eq_true rfl) dX3_init_16 (fun H hW => ?_)
  refine p_X3_15 Cx hnm hW hL (k := 8) (by decide) rfl dX3_init_18 (fun H locs hW hL => ?_)
  exact sVret Cx hr hlk hW hL rfl dX3_init_21

set_option maxRecDepth 100000 in
set_option maxHeartbeats 4000000 in
theorem t5_X8_init (l : Launch) (G : sG) (S : sS)   : Met l yX8_init (.code yX8_init cX8_init 1 none :: tb) (rmk 1 3 6003) (sPc G 13 S [.ref (G.2.2.1 + 12)]) (sQv G 16 (fun u => u = (sR (sR (sR S 12 0 (.ref (G.2.2.1 + 13))) 12 1 (.ref (G.2.2.1 + 14))) 12 2 (.ref (G.2.2.1 + 15))))) 3 6003 (sF G) := by
  refine sEnter (by decide) (Nat.le_of_ble_eq_true rfl) ?_
  intro p e s m args below meth c Cx hr hlk hnm hW ls hl
  have Cx : sC G p m c cX8_init 1 s args RX8 := Cx
  obtain ⟨hx, hb, hml, hown, hts⟩ := id Cx.1
  have hL : sL G [] := sL_nil
  have hl : lv_has ls 1 [(0, .ref (G.2.2.1 + 12))] := hl
  refine lv_aload_n hx hb dX8_init_0 rfl (lv_at hl 0 rfl) ?_
  refine W.objInit hx hb hown (hts _ w_307) (hts _ w_233) (hts _ w_234) rfl (by rw [hml]; exact hl.1) rfl dX8_init_1 (Nat.le_of_ble_eq_true rfl) (Nat.le_of_ble_eq_true rfl) ?_
  refine W.eq (g2 := F0 m 4 ls []) rfl ?_
  refine lv_aload_n hx hb dX8_init_4 rfl (lv_at hl 0 rfl) ?_
  refine lv_sipush (v := 2001) hx hb dX8_init_5 (by decide) ?_
  refine sNewa (atype := .int) (ty := .int) Cx (N := 2001) rfl 0 rfl (fun U h => h) w_294 hW rfl rfl (by decide) rfl (Nat.le_of_ble_eq_true rfl) (Nat.le_of_ble_eq_true rfl) (Nat.le_of_ble_eq_true rfl) dX8_init_8 (fun H hW => ?_)
  refine p_X8_11 Cx hnm hW hL (k := 12) (by decide) rfl dX8_init_10 (fun H locs hW hL => ?_)
  refine lv_aload_n hx hb dX8_init_13 rfl (lv_at hl 0 rfl) ?_
  refine lv_sipush (v := 2001) hx hb dX8_init_14 (by decide) ?_
  refine sNewa (atype := .int) (ty := .int) Cx (N := 2001) rfl 0 rfl (fun U h => h) w_294 hW rfl rfl (by decide) rfl (Nat.le_of_ble_eq_true rfl) (Nat.le_of_ble_eq_true rfl) (Nat.le_of_ble_eq_true rfl) dX8_init_17 (fun H hW => ?_)
  refine p_X8_15 Cx hnm hW hL (k := 12) (by decide) rfl dX8_init_19 (fun H locs hW hL => ?_)
  refine lv_aload_n hx hb dX8_init_22 rfl (lv_at hl 0 rfl) ?_
  refine lv_sipush (v := 2001) hx hb dX8_init_23 (by decide) ?_
  refine sNewa (atype := .long) (ty := .long) Cx (N := 2001) rfl 1 rfl (fun U h => h) w_324 hW rfl rfl (by decide) rfl (Nat.le_of_ble_eq_true rfl) (Nat.le_of_ble_eq_true rfl) (Nat.le_of_ble_eq_true rfl) dX8_init_26 (fun H hW => ?_)
  refine p_X8_18 Cx hnm hW hL (k := 12) (by decide) rfl dX8_init_28 (fun H locs hW hL => ?_)
  exact sVret Cx hr hlk hW hL rfl dX8_init_31

set_option maxRecDepth 100000 in
set_option maxHeartbeats 4000000 in
theorem t6_X3_init (l : Launch) (G : sG) (S : sS)   : Met l yX3_init (.code yX3_init cX3_init 1 none :: tb) (rmk 1 2 234) (sPc G 117 S [.ref (G.2.2.1 + 116)]) (sQv G 119 (fun u => u = (sR (sR S 116 0 (.ref (G.2.2.1 + 117))) 116 1 (.ref (G.2.2.1 + 118))))) 2 234 (sF G) := by
  refine sEnter (by decide) (Nat.le_of_ble_eq_true rfl) ?_
  intro p e s m args below meth c Cx hr hlk hnm hW ls hl
  have Cx : sC G p m c cX3_init 1 s args RX3 := Cx
  obtain ⟨hx, hb, hml, hown, hts⟩ := id Cx.1
  have hL : sL G [] := sL_nil
  have hl : lv_has ls 1 [(0, .ref (G.2.2.1 + 116))] := hl
  refine lv_aload_n hx hb dX3_init_0 rfl (lv_at hl 0 rfl) ?_
  refine W.objInit hx hb hown (hts _ w_260) (hts _ w_233) (hts _ w_234) rfl (by rw [hml]; exact hl.1) rfl dX3_init_1 (Nat.le_of_ble_eq_true rfl) (Nat.le_of_ble_eq_true rfl) ?_
  refine W.eq (g2 := F0 m 4 ls []) rfl ?_
  refine lv_aload_n hx hb dX3_init_4 rfl (lv_at hl 0 rfl) ?_
  refine lv_sipush (v := 221) hx hb dX3_init_5 (by decide) ?_
  refine sNewa (atype := .int) (ty := .int) Cx (N := 221) rfl 0 rfl (fun U h => h) w_294 hW rfl rfl (by decide) rfl (Nat.le_of_ble_eq_true rfl) (Nat.le_of_ble_eq_true rfl) (Nat.le_of_ble_eq_true rfl) dX3_init_8 (fun H hW => ?_)
  refine p_X3_11 Cx hnm hW hL (k := 116) (by decide) rfl dX3_init_10 (fun H locs hW hL => ?_)
  refine lv_aload_n hx hb dX3_init_13 rfl (lv_at hl 0 rfl) ?_
  refine lv_bipush (v := 13) hx hb dX3_init_14 (by decide) ?_
  refine sNewa (atype := .boolean) (ty := .boolean) Cx (N := 13) rfl 3 rfl (fun U h => h) w_295 hW rfl rfl (by decide) rfl (Nat.le_of_ble_eq_true rfl) (Nat.le_of_ble_eq_true rfl) (Nat.le_of_ble_eq_true rfl) dX3_init_16 (fun H hW => ?_)
  refine p_X3_15 Cx hnm hW hL (k := 116) (by decide) rfl dX3_init_18 (fun H locs hW hL => ?_)
  exact sVret Cx hr hlk hW hL rfl dX3_init_21

set_option maxRecDepth 100000 in
set_option maxHeartbeats 4000000 in
theorem t7_X9_init (l : Launch) (G : sG) (S : sS)   : Met l yX9_init (.code yX9_init cX9_init 1 none :: tb) (rmk 2 107 10186) (sPc G 12 S [.ref (G.2.2.1 + 11)]) (sQv G 119 (fun u => u = (sR (sR (sR (sR (sR (sM G.2.2.1 (sR (sM G.2.2.1 (sR (sM G.2.2.1 (sR (sR (sR (sR (sR (sR (sR S 12 0 (.ref (G.2.2.1 + 13))) 12 1 (.ref (G.2.2.1 + 14))) 12 2 (.ref (G.2.2.1 + 15))) 11 0 (.ref (G.2.2.1 + 12))) 11 1 (.ref (G.2.2.1 + 16))) 11 2 (.ref (G.2.2.1 + 17))) 11 3 (.ref (G.2.2.1 + 18))) 19 31) 11 4 (.ref (G.2.2.1 + 19))) 51 31) 11 5 (.ref (G.2.2.1 + 51))) 83 31) 11 6 (.ref (G.2.2.1 + 83))) 11 7 (.ref (G.2.2.1 + 115))) 116 0 (.ref (G.2.2.1 + 117))) 116 1 (.ref (G.2.2.1 + 118))) 11 8 (.ref (G.2.2.1 + 116))))) 107 10186 (sF G) := by
  refine sEnter (by decide) (Nat.le_of_ble_eq_true rfl) ?_
  intro p e s m args below meth c Cx hr hlk hnm hW ls hl
  have Cx : sC G p m c cX9_init 1 s args RX9 := Cx
  obtain ⟨hx, hb, hml, hown, hts⟩ := id Cx.1
  have hL : sL G [] := sL_nil
  have hl : lv_has ls 1 [(0, .ref (G.2.2.1 + 11))] := hl
  refine lv_aload_n hx hb dX9_init_0 rfl (lv_at hl 0 rfl) ?_
  refine W.objInit hx hb hown (hts _ w_301) (hts _ w_233) (hts _ w_234) rfl (by rw [hml]; exact hl.1) rfl dX9_init_1 (Nat.le_of_ble_eq_true rfl) (Nat.le_of_ble_eq_true rfl) ?_
  refine W.eq (g2 := F0 m 4 ls []) rfl ?_
  refine lv_aload_n hx hb dX9_init_4 rfl (lv_at hl 0 rfl) ?_
  refine n_X9_11 Cx hW rfl (Nat.le_of_ble_eq_true rfl) (Nat.le_of_ble_eq_true rfl) dX9_init_5 (fun H hW => ?_)
  refine lv_dup hx hb dX9_init_8 rfl ?_
  refine sBv (sInN (As := []) (rest := [.ref (G.2.2.1 + 12), .ref (G.2.2.1 + 11)]) (k := 12) Cx (t5_X8_init l G S) (c_X9_13 Cx rfl rfl ⟨Nat.le_of_ble_eq_true rfl, Nat.le_of_ble_eq_true rfl⟩) hW rfl hl.1 rfl (Nat.le_of_ble_eq_true rfl) dX9_init_9 ⟨Nat.le_of_ble_eq_true rfl, Nat.le_of_ble_eq_true rfl⟩) hL (fun u H locs hq hW hL => ?_)
  subst hq
  refine p_X9_14 Cx hnm hW hL (k := 11) (by decide) rfl dX9_init_12 (fun H locs hW hL => ?_)
  refine lv_aload_n hx hb dX9_init_15 rfl (lv_at hl 0 rfl) ?_
  refine lv_sipush (v := 128) hx hb dX9_init_16 (by decide) ?_
  refine sNewa (atype := .long) (ty := .long) Cx (N := 128) rfl 1 rfl (fun U h => h) w_324 hW rfl rfl (by decide) rfl (Nat.le_of_ble_eq_true rfl) (Nat.le_of_ble_eq_true rfl) (Nat.le_of_ble_eq_true rfl) dX9_init_19 (fun H hW => ?_)
  refine p_X9_18 Cx hnm hW hL (k := 11) (by decide) rfl dX9_init_21 (fun H locs hW hL => ?_)
  refine lv_aload_n hx hb dX9_init_24 rfl (lv_at hl 0 rfl) ?_
  refine lv_sipush (v := 768) hx hb dX9_init_25 (by decide) ?_
  refine sNewa (atype := .int) (ty := .int) Cx (N := 768) rfl 0 rfl (fun U h => h) w_294 hW rfl rfl (by decide) rfl (Nat.le_of_ble_eq_true rfl) (Nat.le_of_ble_eq_true rfl) (Nat.le_of_ble_eq_true rfl) dX9_init_28 (fun H hW => ?_)
  refine p_X9_22 Cx hnm hW hL (k := 11) (by decide) rfl dX9_init_30 (fun H locs hW hL => ?_)
  refine lv_aload_n hx hb dX9_init_33 rfl (lv_at hl 0 rfl) ?_
  refine lv_sipush (v := 1728) hx hb dX9_init_34 (by decide) ?_
  refine sNewa (atype := .int) (ty := .int) Cx (N := 1728) rfl 0 rfl (fun U h => h) w_294 hW rfl rfl (by decide) rfl (Nat.le_of_ble_eq_true rfl) (Nat.le_of_ble_eq_true rfl) (Nat.le_of_ble_eq_true rfl) dX9_init_37 (fun H hW => ?_)
  refine p_X9_26 Cx hnm hW hL (k := 11) (by decide) rfl dX9_init_39 (fun H locs hW hL => ?_)
  refine lv_aload_n hx hb dX9_init_42 rfl (lv_at hl 0 rfl) ?_
  refine lv_bipush (v := 31) hx hb dX9_init_43 (by decide) ?_
  refine lv_bipush (v := 13) hx hb dX9_init_45 (by decide) ?_
  refine sMna Cx (N := 31) (K := 13) w_325 w_324 hW (by decide) (by decide) rfl rfl rfl (by decide) (Nat.le_of_ble_eq_true rfl) (Nat.le_of_ble_eq_true rfl) (Nat.le_of_ble_eq_true rfl) (Nat.le_of_ble_eq_true rfl) (Nat.le_of_ble_eq_true rfl) dX9_init_47 (fun H hW => ?_)
  refine p_X9_31 Cx hnm hW hL (k := 11) (by decide) rfl dX9_init_51 (fun H locs hW hL => ?_)
  refine lv_aload_n hx hb dX9_init_54 rfl (lv_at hl 0 rfl) ?_
  refine lv_bipush (v := 31) hx hb dX9_init_55 (by decide) ?_
  refine lv_bipush (v := 13) hx hb dX9_init_57 (by decide) ?_
  refine sMna Cx (N := 31) (K := 13) w_325 w_324 hW (by decide) (by decide) rfl rfl rfl (by decide) (Nat.le_of_ble_eq_true rfl) (Nat.le_of_ble_eq_true rfl) (Nat.le_of_ble_eq_true rfl) (Nat.le_of_ble_eq_true rfl) (Nat.le_of_ble_eq_true rfl) dX9_init_59 (fun H hW => ?_)
  refine p_X9_34 Cx hnm hW hL (k := 11) (by decide) rfl dX9_init_63 (fun H locs hW hL => ?_)
  refine lv_aload_n hx hb dX9_init_66 rfl (lv_at hl 0 rfl) ?_
  refine lv_bipush (v := 31) hx hb dX9_init_67 (by decide) ?_
  refine lv_bipush (v := 13) hx hb dX9_init_69 (by decide) ?_
  refine sMna Cx (N := 31) (K := 13) w_325 w_324 hW (by decide) (by decide) rfl rfl rfl (by decide) (Nat.le_of_ble_eq_true rfl) (Nat.le_of_ble_eq_true rfl) (Nat.le_of_ble_eq_true rfl) (Nat.le_of_ble_eq_true rfl) (Nat.le_of_ble_eq_true rfl) dX9_init_71 (fun H hW => ?_)
  refine p_X9_37 Cx hnm hW hL (k := 11) (by decide) rfl dX9_init_75 (fun H locs hW hL => ?_)
  refine lv_aload_n hx hb dX9_init_78 rfl (lv_at hl 0 rfl) ?_
  refine lv_bipush (v := 13) hx hb dX9_init_79 (by decide) ?_
  refine sNewa (atype := .long) (ty := .long) Cx (N := 13) rfl 1 rfl (fun U h => h) w_324 hW rfl rfl (by decide) rfl (Nat.le_of_ble_eq_true rfl) (Nat.le_of_ble_eq_true rfl) (Nat.le_of_ble_eq_true rfl) dX9_init_81 (fun H hW => ?_)
  refine p_X9_40 Cx hnm hW hL (k := 11) (by decide) rfl dX9_init_83 (fun H locs hW hL => ?_)
  refine lv_aload_n hx hb dX9_init_86 rfl (lv_at hl 0 rfl) ?_
  refine n_X9_43 Cx hW rfl (Nat.le_of_ble_eq_true rfl) (Nat.le_of_ble_eq_true rfl) dX9_init_87 (fun H hW => ?_)
  refine lv_dup hx hb dX9_init_90 rfl ?_
  refine sBv (sInN (As := []) (rest := [.ref (G.2.2.1 + 116), .ref (G.2.2.1 + 11)]) (k := 116) Cx (t6_X3_init l G (sR (sR (sM G.2.2.1 (sR (sM G.2.2.1 (sR (sM G.2.2.1 (sR (sR (sR (sR (sR (sR (sR S 12 0 (.ref (G.2.2.1 + 13))) 12 1 (.ref (G.2.2.1 + 14))) 12 2 (.ref (G.2.2.1 + 15))) 11 0 (.ref (G.2.2.1 + 12))) 11 1 (.ref (G.2.2.1 + 16))) 11 2 (.ref (G.2.2.1 + 17))) 11 3 (.ref (G.2.2.1 + 18))) 19 31) 11 4 (.ref (G.2.2.1 + 19))) 51 31) 11 5 (.ref (G.2.2.1 + 51))) 83 31) 11 6 (.ref (G.2.2.1 + 83))) 11 7 (.ref (G.2.2.1 + 115)))) (c_X9_45 Cx rfl rfl ⟨Nat.le_of_ble_eq_true rfl, Nat.le_of_ble_eq_true rfl⟩) hW rfl hl.1 rfl (Nat.le_of_ble_eq_true rfl) dX9_init_91 ⟨Nat.le_of_ble_eq_true rfl, Nat.le_of_ble_eq_true rfl⟩) hL (fun u H locs hq hW hL => ?_)
  subst hq
  refine p_X9_46 Cx hW hL (k := 11) (by decide) rfl dX9_init_94 (fun H locs hW hL => ?_)
  exact sVret Cx hr hlk hW hL rfl dX9_init_97

set_option maxRecDepth 100000 in
set_option maxHeartbeats 4000000 in
theorem t8_X0_init (l : Launch) (G : sG) (S : sS)   : Met l yX0_init (.code yX0_init cX0_init 1 none :: tb) (rmk 1 1 32) (sPc G 124 S [.ref (G.2.2.1 + 123)]) (sQv G 125 (fun u => u = (sR S 123 0 (.ref (G.2.2.1 + 124))))) 1 32 (sF G) := by
  refine sEnter (by decide) (Nat.le_of_ble_eq_true rfl) ?_
  intro p e s m args below meth c Cx hr hlk hnm hW ls hl
  have Cx : sC G p m c cX0_init 1 s args RX0 := Cx
  obtain ⟨hx, hb, hml, hown, hts⟩ := id Cx.1
  have hL : sL G [] := sL_nil
  have hl : lv_has ls 1 [(0, .ref (G.2.2.1 + 123))] := hl
  refine lv_aload_n hx hb dX0_init_0 rfl (lv_at hl 0 rfl) ?_
  refine W.objInit hx hb hown (hts _ w_398) (hts _ w_233) (hts _ w_234) rfl (by rw [hml]; exact hl.1) rfl dX0_init_1 (Nat.le_of_ble_eq_true rfl) (Nat.le_of_ble_eq_true rfl) ?_
  refine W.eq (g2 := F0 m 4 ls []) rfl ?_
  refine lv_aload_n hx hb dX0_init_4 rfl (lv_at hl 0 rfl) ?_
  refine lv_bipush (v := 32) hx hb dX0_init_5 (by decide) ?_
  refine sNewa (atype := .int) (ty := .int) Cx (N := 32) rfl 0 rfl (fun U h => h) w_294 hW rfl rfl (by decide) rfl (Nat.le_of_ble_eq_true rfl) (Nat.le_of_ble_eq_true rfl) (Nat.le_of_ble_eq_true rfl) dX0_init_7 (fun H hW => ?_)
  refine p_X0_9 Cx hnm hW hL (k := 123) (by decide) rfl dX0_init_9 (fun H locs hW hL => ?_)
  exact sVret Cx hr hlk hW hL rfl dX0_init_12

set_option maxRecDepth 100000 in
set_option maxHeartbeats 4000000 in
theorem t9_X0_init (l : Launch) (G : sG) (S : sS)   : Met l yX0_init (.code yX0_init cX0_init 1 none :: tb) (rmk 1 1 32) (sPc G 126 S [.ref (G.2.2.1 + 125)]) (sQv G 127 (fun u => u = (sR S 125 0 (.ref (G.2.2.1 + 126))))) 1 32 (sF G) := by
  refine sEnter (by decide) (Nat.le_of_ble_eq_true rfl) ?_
  intro p e s m args below meth c Cx hr hlk hnm hW ls hl
  have Cx : sC G p m c cX0_init 1 s args RX0 := Cx
  obtain ⟨hx, hb, hml, hown, hts⟩ := id Cx.1
  have hL : sL G [] := sL_nil
  have hl : lv_has ls 1 [(0, .ref (G.2.2.1 + 125))] := hl
  refine lv_aload_n hx hb dX0_init_0 rfl (lv_at hl 0 rfl) ?_
  refine W.objInit hx hb hown (hts _ w_398) (hts _ w_233) (hts _ w_234) rfl (by rw [hml]; exact hl.1) rfl dX0_init_1 (Nat.le_of_ble_eq_true rfl) (Nat.le_of_ble_eq_true rfl) ?_
  refine W.eq (g2 := F0 m 4 ls []) rfl ?_
  refine lv_aload_n hx hb dX0_init_4 rfl (lv_at hl 0 rfl) ?_
  refine lv_bipush (v := 32) hx hb dX0_init_5 (by decide) ?_
  refine sNewa (atype := .int) (ty := .int) Cx (N := 32) rfl 0 rfl (fun U h => h) w_294 hW rfl rfl (by decide) rfl (Nat.le_of_ble_eq_true rfl) (Nat.le_of_ble_eq_true rfl) (Nat.le_of_ble_eq_true rfl) dX0_init_7 (fun H hW => ?_)
  refine p_X0_9 Cx hnm hW hL (k := 125) (by decide) rfl dX0_init_9 (fun H locs hW hL => ?_)
  exact sVret Cx hr hlk hW hL rfl dX0_init_12

set_option maxRecDepth 100000 in
set_option maxHeartbeats 4000000 in
theorem t10_X0_init (l : Launch) (G : sG) (S : sS)   : Met l yX0_init (.code yX0_init cX0_init 1 none :: tb) (rmk 1 1 32) (sPc G 128 S [.ref (G.2.2.1 + 127)]) (sQv G 129 (fun u => u = (sR S 127 0 (.ref (G.2.2.1 + 128))))) 1 32 (sF G) := by
  refine sEnter (by decide) (Nat.le_of_ble_eq_true rfl) ?_
  intro p e s m args below meth c Cx hr hlk hnm hW ls hl
  have Cx : sC G p m c cX0_init 1 s args RX0 := Cx
  obtain ⟨hx, hb, hml, hown, hts⟩ := id Cx.1
  have hL : sL G [] := sL_nil
  have hl : lv_has ls 1 [(0, .ref (G.2.2.1 + 127))] := hl
  refine lv_aload_n hx hb dX0_init_0 rfl (lv_at hl 0 rfl) ?_
  refine W.objInit hx hb hown (hts _ w_398) (hts _ w_233) (hts _ w_234) rfl (by rw [hml]; exact hl.1) rfl dX0_init_1 (Nat.le_of_ble_eq_true rfl) (Nat.le_of_ble_eq_true rfl) ?_
  refine W.eq (g2 := F0 m 4 ls []) rfl ?_
  refine lv_aload_n hx hb dX0_init_4 rfl (lv_at hl 0 rfl) ?_
  refine lv_bipush (v := 32) hx hb dX0_init_5 (by decide) ?_
  refine sNewa (atype := .int) (ty := .int) Cx (N := 32) rfl 0 rfl (fun U h => h) w_294 hW rfl rfl (by decide) rfl (Nat.le_of_ble_eq_true rfl) (Nat.le_of_ble_eq_true rfl) (Nat.le_of_ble_eq_true rfl) dX0_init_7 (fun H hW => ?_)
  refine p_X0_9 Cx hnm hW hL (k := 127) (by decide) rfl dX0_init_9 (fun H locs hW hL => ?_)
  exact sVret Cx hr hlk hW hL rfl dX0_init_12

set_option maxRecDepth 100000 in
set_option maxHeartbeats 4000000 in
theorem t11_X0_init (l : Launch) (G : sG) (S : sS)   : Met l yX0_init (.code yX0_init cX0_init 1 none :: tb) (rmk 1 1 32) (sPc G 130 S [.ref (G.2.2.1 + 129)]) (sQv G 131 (fun u => u = (sR S 129 0 (.ref (G.2.2.1 + 130))))) 1 32 (sF G) := by
  refine sEnter (by decide) (Nat.le_of_ble_eq_true rfl) ?_
  intro p e s m args below meth c Cx hr hlk hnm hW ls hl
  have Cx : sC G p m c cX0_init 1 s args RX0 := Cx
  obtain ⟨hx, hb, hml, hown, hts⟩ := id Cx.1
  have hL : sL G [] := sL_nil
  have hl : lv_has ls 1 [(0, .ref (G.2.2.1 + 129))] := hl
  refine lv_aload_n hx hb dX0_init_0 rfl (lv_at hl 0 rfl) ?_
  refine W.objInit hx hb hown (hts _ w_398) (hts _ w_233) (hts _ w_234) rfl (by rw [hml]; exact hl.1) rfl dX0_init_1 (Nat.le_of_ble_eq_true rfl) (Nat.le_of_ble_eq_true rfl) ?_
  refine W.eq (g2 := F0 m 4 ls []) rfl ?_
  refine lv_aload_n hx hb dX0_init_4 rfl (lv_at hl 0 rfl) ?_
  refine lv_bipush (v := 32) hx hb dX0_init_5 (by decide) ?_
  refine sNewa (atype := .int) (ty := .int) Cx (N := 32) rfl 0 rfl (fun U h => h) w_294 hW rfl rfl (by decide) rfl (Nat.le_of_ble_eq_true rfl) (Nat.le_of_ble_eq_true rfl) (Nat.le_of_ble_eq_true rfl) dX0_init_7 (fun H hW => ?_)
  refine p_X0_9 Cx hnm hW hL (k := 129) (by decide) rfl dX0_init_9 (fun H locs hW hL => ?_)
  exact sVret Cx hr hlk hW hL rfl dX0_init_12

set_option maxRecDepth 100000 in
set_option maxHeartbeats 4000000 in
theorem t12_X0_init (l : Launch) (G : sG) (S : sS)   : Met l yX0_init (.code yX0_init cX0_init 1 none :: tb) (rmk 1 1 32) (sPc G 132 S [.ref (G.2.2.1 + 131)]) (sQv G 133 (fun u => u = (sR S 131 0 (.ref (G.2.2.1 + 132))))) 1 32 (sF G) := by
  refine sEnter (by decide) (Nat.le_of_ble_eq_true rfl) ?_
  intro p e s m args below meth c Cx hr hlk hnm hW ls hl
  have Cx : sC G p m c cX0_init 1 s args RX0 := Cx
  obtain ⟨hx, hb, hml, hown, hts⟩ := id Cx.1
  have hL : sL G [] := sL_nil
  have hl : lv_has ls 1 [(0, .ref (G.2.2.1 + 131))] := hl
  refine lv_aload_n hx hb dX0_init_0 rfl (lv_at hl 0 rfl) ?_
  refine W.objInit hx hb hown (hts _ w_398) (hts _ w_233) (hts _ w_234) rfl (by rw [hml]; exact hl.1) rfl dX0_init_1 (Nat.le_of_ble_eq_true rfl) (Nat.le_of_ble_eq_true rfl) ?_
  refine W.eq (g2 := F0 m 4 ls []) rfl ?_
  refine lv_aload_n hx hb dX0_init_4 rfl (lv_at hl 0 rfl) ?_
  refine lv_bipush (v := 32) hx hb dX0_init_5 (by decide) ?_
  refine sNewa (atype := .int) (ty := .int) Cx (N := 32) rfl 0 rfl (fun U h => h) w_294 hW rfl rfl (by decide) rfl (Nat.le_of_ble_eq_true rfl) (Nat.le_of_ble_eq_true rfl) (Nat.le_of_ble_eq_true rfl) dX0_init_7 (fun H hW => ?_)
  refine p_X0_9 Cx hnm hW hL (k := 131) (by decide) rfl dX0_init_9 (fun H locs hW hL => ?_)
  exact sVret Cx hr hlk hW hL rfl dX0_init_12

set_option maxRecDepth 100000 in
set_option maxHeartbeats 4000000 in
theorem t13_X0_init (l : Launch) (G : sG) (S : sS)   : Met l yX0_init (.code yX0_init cX0_init 1 none :: tb) (rmk 1 1 32) (sPc G 134 S [.ref (G.2.2.1 + 133)]) (sQv G 135 (fun u => u = (sR S 133 0 (.ref (G.2.2.1 + 134))))) 1 32 (sF G) := by
  refine sEnter (by decide) (Nat.le_of_ble_eq_true rfl) ?_
  intro p e s m args below meth c Cx hr hlk hnm hW ls hl
  have Cx : sC G p m c cX0_init 1 s args RX0 := Cx
  obtain ⟨hx, hb, hml, hown, hts⟩ := id Cx.1
  have hL : sL G [] := sL_nil
  have hl : lv_has ls 1 [(0, .ref (G.2.2.1 + 133))] := hl
  refine lv_aload_n hx hb dX0_init_0 rfl (lv_at hl 0 rfl) ?_
  refine W.objInit hx hb hown (hts _ w_398) (hts _ w_233) (hts _ w_234) rfl (by rw [hml]; exact hl.1) rfl dX0_init_1 (Nat.le_of_ble_eq_true rfl) (Nat.le_of_ble_eq_true rfl) ?_
  refine W.eq (g2 := F0 m 4 ls []) rfl ?_
  refine lv_aload_n hx hb dX0_init_4 rfl (lv_at hl 0 rfl) ?_
  refine lv_bipush (v := 32) hx hb dX0_init_5 (by decide) ?_
  refine sNewa (atype := .int) (ty := .int) Cx (N := 32) rfl 0 rfl (fun U h => h) w_294 hW rfl rfl (by decide) rfl (Nat.le_of_ble_eq_true rfl) (Nat.le_of_ble_eq_true rfl) (Nat.le_of_ble_eq_true rfl) dX0_init_7 (fun H hW => ?_)
  refine p_X0_9 Cx hnm hW hL (k := 133) (by decide) rfl dX0_init_9 (fun H locs hW hL => ?_)
  exact sVret Cx hr hlk hW hL rfl dX0_init_12

set_option maxRecDepth 100000 in
set_option maxHeartbeats 4000000 in
theorem t14_X6_init (l : Launch) (G : sG) (S : sS)   : Met l yX6_init (.code yX6_init cX6_init 1 none :: tb) (rmk 2 14 4802) (sPc G 121 S [.ref (G.2.2.1 + 120)]) (sQv G 135 (fun u => u = (sR (sR (sR (sR (sR (sR (sR (sR (sR (sR (sR (sR (sR (sR S 120 0 (.ref (G.2.2.1 + 121))) 120 1 (.ref (G.2.2.1 + 122))) 123 0 (.ref (G.2.2.1 + 124))) 120 2 (.ref (G.2.2.1 + 123))) 125 0 (.ref (G.2.2.1 + 126))) 120 3 (.ref (G.2.2.1 + 125))) 127 0 (.ref (G.2.2.1 + 128))) 120 4 (.ref (G.2.2.1 + 127))) 129 0 (.ref (G.2.2.1 + 130))) 120 5 (.ref (G.2.2.1 + 129))) 131 0 (.ref (G.2.2.1 + 132))) 120 6 (.ref (G.2.2.1 + 131))) 133 0 (.ref (G.2.2.1 + 134))) 120 7 (.ref (G.2.2.1 + 133))))) 14 4802 (sF G) := by
  refine sEnter (by decide) (Nat.le_of_ble_eq_true rfl) ?_
  intro p e s m args below meth c Cx hr hlk hnm hW ls hl
  have Cx : sC G p m c cX6_init 1 s args RX6 := Cx
  obtain ⟨hx, hb, hml, hown, hts⟩ := id Cx.1
  have hL : sL G [] := sL_nil
  have hl : lv_has ls 1 [(0, .ref (G.2.2.1 + 120))] := hl
  refine lv_aload_n hx hb dX6_init_0 rfl (lv_at hl 0 rfl) ?_
  refine W.objInit hx hb hown (hts _ w_392) (hts _ w_233) (hts _ w_234) rfl (by rw [hml]; exact hl.1) rfl dX6_init_1 (Nat.le_of_ble_eq_true rfl) (Nat.le_of_ble_eq_true rfl) ?_
  refine W.eq (g2 := F0 m 4 ls []) rfl ?_
  refine lv_aload_n hx hb dX6_init_4 rfl (lv_at hl 0 rfl) ?_
  refine lv_sipush (v := 4264) hx hb dX6_init_5 (by decide) ?_
  refine sNewa (atype := .int) (ty := .int) Cx (N := 4264) rfl 0 rfl (fun U h => h) w_294 hW rfl rfl (by decide) rfl (Nat.le_of_ble_eq_true rfl) (Nat.le_of_ble_eq_true rfl) (Nat.le_of_ble_eq_true rfl) dX6_init_8 (fun H hW => ?_)
  refine p_X6_13 Cx hnm hW hL (k := 120) (by decide) rfl dX6_init_10 (fun H locs hW hL => ?_)
  refine lv_aload_n hx hb dX6_init_13 rfl (lv_at hl 0 rfl) ?_
  refine lv_sipush (v := 328) hx hb dX6_init_14 (by decide) ?_
  refine sNewa (atype := .int) (ty := .int) Cx (N := 328) rfl 0 rfl (fun U h => h) w_294 hW rfl rfl (by decide) rfl (Nat.le_of_ble_eq_true rfl) (Nat.le_of_ble_eq_true rfl) (Nat.le_of_ble_eq_true rfl) dX6_init_17 (fun H hW => ?_)
  refine p_X6_17 Cx hnm hW hL (k := 120) (by decide) rfl dX6_init_19 (fun H locs hW hL => ?_)
  refine lv_aload_n hx hb dX6_init_22 rfl (lv_at hl 0 rfl) ?_
  refine n_X6_11 Cx hW rfl (Nat.le_of_ble_eq_true rfl) (Nat.le_of_ble_eq_true rfl) dX6_init_23 (fun H hW => ?_)
  refine lv_dup hx hb dX6_init_26 rfl ?_
  refine sBv (sInN (As := []) (rest := [.ref (G.2.2.1 + 123), .ref (G.2.2.1 + 120)]) (k := 123) Cx (t8_X0_init l G (sR (sR S 120 0 (.ref (G.2.2.1 + 121))) 120 1 (.ref (G.2.2.1 + 122)))) (c_X6_20 Cx rfl rfl ⟨Nat.le_of_ble_eq_true rfl, Nat.le_of_ble_eq_true rfl⟩) hW rfl hl.1 rfl (Nat.le_of_ble_eq_true rfl) dX6_init_27 ⟨Nat.le_of_ble_eq_true rfl, Nat.le_of_ble_eq_true rfl⟩) hL (fun u H locs hq hW hL => ?_)
  subst hq
  refine p_X6_21 Cx hnm hW hL (k := 120) (by decide) rfl dX6_init_30 (fun H locs hW hL => ?_)
  refine lv_aload_n hx hb dX6_init_33 rfl (lv_at hl 0 rfl) ?_
  refine n_X6_11 Cx hW rfl (Nat.le_of_ble_eq_true rfl) (Nat.le_of_ble_eq_true rfl) dX6_init_34 (fun H hW => ?_)
  refine lv_dup hx hb dX6_init_37 rfl ?_
  refine sBv (sInN (As := []) (rest := [.ref (G.2.2.1 + 125), .ref (G.2.2.1 + 120)]) (k := 125) Cx (t9_X0_init l G (sR (sR (sR (sR S 120 0 (.ref (G.2.2.1 + 121))) 120 1 (.ref (G.2.2.1 + 122))) 123 0 (.ref (G.2.2.1 + 124))) 120 2 (.ref (G.2.2.1 + 123)))) (c_X6_20 Cx rfl rfl ⟨Nat.le_of_ble_eq_true rfl, Nat.le_of_ble_eq_true rfl⟩) hW rfl hl.1 rfl (Nat.le_of_ble_eq_true rfl) dX6_init_38 ⟨Nat.le_of_ble_eq_true rfl, Nat.le_of_ble_eq_true rfl⟩) hL (fun u H locs hq hW hL => ?_)
  subst hq
  refine p_X6_25 Cx hnm hW hL (k := 120) (by decide) rfl dX6_init_41 (fun H locs hW hL => ?_)
  refine lv_aload_n hx hb dX6_init_44 rfl (lv_at hl 0 rfl) ?_
  refine n_X6_11 Cx hW rfl (Nat.le_of_ble_eq_true rfl) (Nat.le_of_ble_eq_true rfl) dX6_init_45 (fun H hW => ?_)
  refine lv_dup hx hb dX6_init_48 rfl ?_
  refine sBv (sInN (As := []) (rest := [.ref (G.2.2.1 + 127), .ref (G.2.2.1 + 120)]) (k := 127) Cx (t10_X0_init l G (sR (sR (sR (sR (sR (sR S 120 0 (.ref (G.2.2.1 + 121))) 120 1 (.ref (G.2.2.1 + 122))) 123 0 (.ref (G.2.2.1 + 124))) 120 2 (.ref (G.2.2.1 + 123))) 125 0 (.ref (G.2.2.1 + 126))) 120 3 (.ref (G.2.2.1 + 125)))) (c_X6_20 Cx rfl rfl ⟨Nat.le_of_ble_eq_true rfl, Nat.le_of_ble_eq_true rfl⟩) hW rfl hl.1 rfl (Nat.le_of_ble_eq_true rfl) dX6_init_49 ⟨Nat.le_of_ble_eq_true rfl, Nat.le_of_ble_eq_true rfl⟩) hL (fun u H locs hq hW hL => ?_)
  subst hq
  refine p_X6_28 Cx hnm hW hL (k := 120) (by decide) rfl dX6_init_52 (fun H locs hW hL => ?_)
  refine lv_aload_n hx hb dX6_init_55 rfl (lv_at hl 0 rfl) ?_
  refine n_X6_11 Cx hW rfl (Nat.le_of_ble_eq_true rfl) (Nat.le_of_ble_eq_true rfl) dX6_init_56 (fun H hW => ?_)
  refine lv_dup hx hb dX6_init_59 rfl ?_
  refine sBv (sInN (As := []) (rest := [.ref (G.2.2.1 + 129), .ref (G.2.2.1 + 120)]) (k := 129) Cx (t11_X0_init l G (sR (sR (sR (sR (sR (sR (sR (sR S 120 0 (.ref (G.2.2.1 + 121))) 120 1 (.ref (G.2.2.1 + 122))) 123 0 (.ref (G.2.2.1 + 124))) 120 2 (.ref (G.2.2.1 + 123))) 125 0 (.ref (G.2.2.1 + 126))) 120 3 (.ref (G.2.2.1 + 125))) 127 0 (.ref (G.2.2.1 + 128))) 120 4 (.ref (G.2.2.1 + 127)))) (c_X6_20 Cx rfl rfl ⟨Nat.le_of_ble_eq_true rfl, Nat.le_of_ble_eq_true rfl⟩) hW rfl hl.1 rfl (Nat.le_of_ble_eq_true rfl) dX6_init_60 ⟨Nat.le_of_ble_eq_true rfl, Nat.le_of_ble_eq_true rfl⟩) hL (fun u H locs hq hW hL => ?_)
  subst hq
  refine p_X6_31 Cx hnm hW hL (k := 120) (by decide) rfl dX6_init_63 (fun H locs hW hL => ?_)
  refine lv_aload_n hx hb dX6_init_66 rfl (lv_at hl 0 rfl) ?_
  refine n_X6_11 Cx hW rfl (Nat.le_of_ble_eq_true rfl) (Nat.le_of_ble_eq_true rfl) dX6_init_67 (fun H hW => ?_)
  refine lv_dup hx hb dX6_init_70 rfl ?_
  refine sBv (sInN (As := []) (rest := [.ref (G.2.2.1 + 131), .ref (G.2.2.1 + 120)]) (k := 131) Cx (t12_X0_init l G (sR (sR (sR (sR (sR (sR (sR (sR (sR (sR S 120 0 (.ref (G.2.2.1 + 121))) 120 1 (.ref (G.2.2.1 + 122))) 123 0 (.ref (G.2.2.1 + 124))) 120 2 (.ref (G.2.2.1 + 123))) 125 0 (.ref (G.2.2.1 + 126))) 120 3 (.ref (G.2.2.1 + 125))) 127 0 (.ref (G.2.2.1 + 128))) 120 4 (.ref (G.2.2.1 + 127))) 129 0 (.ref (G.2.2.1 + 130))) 120 5 (.ref (G.2.2.1 + 129)))) (c_X6_20 Cx rfl rfl ⟨Nat.le_of_ble_eq_true rfl, Nat.le_of_ble_eq_true rfl⟩) hW rfl hl.1 rfl (Nat.le_of_ble_eq_true rfl) dX6_init_71 ⟨Nat.le_of_ble_eq_true rfl, Nat.le_of_ble_eq_true rfl⟩) hL (fun u H locs hq hW hL => ?_)
  subst hq
  refine p_X6_34 Cx hnm hW hL (k := 120) (by decide) rfl dX6_init_74 (fun H locs hW hL => ?_)
  refine lv_aload_n hx hb dX6_init_77 rfl (lv_at hl 0 rfl) ?_
  refine n_X6_11 Cx hW rfl (Nat.le_of_ble_eq_true rfl) (Nat.le_of_ble_eq_true rfl) dX6_init_78 (fun H hW => ?_)
  refine lv_dup hx hb dX6_init_81 rfl ?_
  refine sBv (sInN (As := []) (rest := [.ref (G.2.2.1 + 133), .ref (G.2.2.1 + 120)]) (k := 133) Cx (t13_X0_init l G (sR (sR (sR (sR (sR (sR (sR (sR (sR (sR (sR (sR S 120 0 (.ref (G.2.2.1 + 121))) 120 1 (.ref (G.2.2.1 + 122))) 123 0 (.ref (G.2.2.1 + 124))) 120 2 (.ref (G.2.2.1 + 123))) 125 0 (.ref (G.2.2.1 + 126))) 120 3 (.ref (G.2.2.1 + 125))) 127 0 (.ref (G.2.2.1 + 128))) 120 4 (.ref (G.2.2.1 + 127))) 129 0 (.ref (G.2.2.1 + 130))) 120 5 (.ref (G.2.2.1 + 129))) 131 0 (.ref (G.2.2.1 + 132))) 120 6 (.ref (G.2.2.1 + 131)))) (c_X6_20 Cx rfl rfl ⟨Nat.le_of_ble_eq_true rfl, Nat.le_of_ble_eq_true rfl⟩) hW rfl hl.1 rfl (Nat.le_of_ble_eq_true rfl) dX6_init_82 ⟨Nat.le_of_ble_eq_true rfl, Nat.le_of_ble_eq_true rfl⟩) hL (fun u H locs hq hW hL => ?_)
  subst hq
  refine p_X6_37 Cx hnm hW hL (k := 120) (by decide) rfl dX6_init_85 (fun H locs hW hL => ?_)
  exact sVret Cx hr hlk hW hL rfl dX6_init_88

set_option maxRecDepth 100000 in
set_option maxHeartbeats 4000000 in
theorem t15_X0_init (l : Launch) (G : sG) (S : sS)   : Met l yX0_init (.code yX0_init cX0_init 1 none :: tb) (rmk 1 1 32) (sPc G 142 S [.ref (G.2.2.1 + 141)]) (sQv G 143 (fun u => u = (sR S 141 0 (.ref (G.2.2.1 + 142))))) 1 32 (sF G) := by
  refine sEnter (by decide) (Nat.le_of_ble_eq_true rfl) ?_
  intro p e s m args below meth c Cx hr hlk hnm hW ls hl
  have Cx : sC G p m c cX0_init 1 s args RX0 := Cx
  obtain ⟨hx, hb, hml, hown, hts⟩ := id Cx.1
  have hL : sL G [] := sL_nil
  have hl : lv_has ls 1 [(0, .ref (G.2.2.1 + 141))] := hl
  refine lv_aload_n hx hb dX0_init_0 rfl (lv_at hl 0 rfl) ?_
  refine W.objInit hx hb hown (hts _ w_398) (hts _ w_233) (hts _ w_234) rfl (by rw [hml]; exact hl.1) rfl dX0_init_1 (Nat.le_of_ble_eq_true rfl) (Nat.le_of_ble_eq_true rfl) ?_
  refine W.eq (g2 := F0 m 4 ls []) rfl ?_
  refine lv_aload_n hx hb dX0_init_4 rfl (lv_at hl 0 rfl) ?_
  refine lv_bipush (v := 32) hx hb dX0_init_5 (by decide) ?_
  refine sNewa (atype := .int) (ty := .int) Cx (N := 32) rfl 0 rfl (fun U h => h) w_294 hW rfl rfl (by decide) rfl (Nat.le_of_ble_eq_true rfl) (Nat.le_of_ble_eq_true rfl) (Nat.le_of_ble_eq_true rfl) dX0_init_7 (fun H hW => ?_)
  refine p_X0_9 Cx hnm hW hL (k := 141) (by decide) rfl dX0_init_9 (fun H locs hW hL => ?_)
  exact sVret Cx hr hlk hW hL rfl dX0_init_12

set_option maxRecDepth 100000 in
set_option maxHeartbeats 4000000 in
theorem t16_X0_init (l : Launch) (G : sG) (S : sS)   : Met l yX0_init (.code yX0_init cX0_init 1 none :: tb) (rmk 1 1 32) (sPc G 144 S [.ref (G.2.2.1 + 143)]) (sQv G 145 (fun u => u = (sR S 143 0 (.ref (G.2.2.1 + 144))))) 1 32 (sF G) := by
  refine sEnter (by decide) (Nat.le_of_ble_eq_true rfl) ?_
  intro p e s m args below meth c Cx hr hlk hnm hW ls hl
  have Cx : sC G p m c cX0_init 1 s args RX0 := Cx
  obtain ⟨hx, hb, hml, hown, hts⟩ := id Cx.1
  have hL : sL G [] := sL_nil
  have hl : lv_has ls 1 [(0, .ref (G.2.2.1 + 143))] := hl
  refine lv_aload_n hx hb dX0_init_0 rfl (lv_at hl 0 rfl) ?_
  refine W.objInit hx hb hown (hts _ w_398) (hts _ w_233) (hts _ w_234) rfl (by rw [hml]; exact hl.1) rfl dX0_init_1 (Nat.le_of_ble_eq_true rfl) (Nat.le_of_ble_eq_true rfl) ?_
  refine W.eq (g2 := F0 m 4 ls []) rfl ?_
  refine lv_aload_n hx hb dX0_init_4 rfl (lv_at hl 0 rfl) ?_
  refine lv_bipush (v := 32) hx hb dX0_init_5 (by decide) ?_
  refine sNewa (atype := .int) (ty := .int) Cx (N := 32) rfl 0 rfl (fun U h => h) w_294 hW rfl rfl (by decide) rfl (Nat.le_of_ble_eq_true rfl) (Nat.le_of_ble_eq_true rfl) (Nat.le_of_ble_eq_true rfl) dX0_init_7 (fun H hW => ?_)
  refine p_X0_9 Cx hnm hW hL (k := 143) (by decide) rfl dX0_init_9 (fun H locs hW hL => ?_)
  exact sVret Cx hr hlk hW hL rfl dX0_init_12

set_option maxRecDepth 100000 in
set_option maxHeartbeats 4000000 in
theorem t17_X0_init (l : Launch) (G : sG) (S : sS)   : Met l yX0_init (.code yX0_init cX0_init 1 none :: tb) (rmk 1 1 32) (sPc G 146 S [.ref (G.2.2.1 + 145)]) (sQv G 147 (fun u => u = (sR S 145 0 (.ref (G.2.2.1 + 146))))) 1 32 (sF G) := by
  refine sEnter (by decide) (Nat.le_of_ble_eq_true rfl) ?_
  intro p e s m args below meth c Cx hr hlk hnm hW ls hl
  have Cx : sC G p m c cX0_init 1 s args RX0 := Cx
  obtain ⟨hx, hb, hml, hown, hts⟩ := id Cx.1
  have hL : sL G [] := sL_nil
  have hl : lv_has ls 1 [(0, .ref (G.2.2.1 + 145))] := hl
  refine lv_aload_n hx hb dX0_init_0 rfl (lv_at hl 0 rfl) ?_
  refine W.objInit hx hb hown (hts _ w_398) (hts _ w_233) (hts _ w_234) rfl (by rw [hml]; exact hl.1) rfl dX0_init_1 (Nat.le_of_ble_eq_true rfl) (Nat.le_of_ble_eq_true rfl) ?_
  refine W.eq (g2 := F0 m 4 ls []) rfl ?_
  refine lv_aload_n hx hb dX0_init_4 rfl (lv_at hl 0 rfl) ?_
  refine lv_bipush (v := 32) hx hb dX0_init_5 (by decide) ?_
  refine sNewa (atype := .int) (ty := .int) Cx (N := 32) rfl 0 rfl (fun U h => h) w_294 hW rfl rfl (by decide) rfl (Nat.le_of_ble_eq_true rfl) (Nat.le_of_ble_eq_true rfl) (Nat.le_of_ble_eq_true rfl) dX0_init_7 (fun H hW => ?_)
  refine p_X0_9 Cx hnm hW hL (k := 145) (by decide) rfl dX0_init_9 (fun H locs hW hL => ?_)
  exact sVret Cx hr hlk hW hL rfl dX0_init_12

set_option maxRecDepth 100000 in
set_option maxHeartbeats 4000000 in
theorem t18_X0_init (l : Launch) (G : sG) (S : sS)   : Met l yX0_init (.code yX0_init cX0_init 1 none :: tb) (rmk 1 1 32) (sPc G 148 S [.ref (G.2.2.1 + 147)]) (sQv G 149 (fun u => u = (sR S 147 0 (.ref (G.2.2.1 + 148))))) 1 32 (sF G) := by
  refine sEnter (by decide) (Nat.le_of_ble_eq_true rfl) ?_
  intro p e s m args below meth c Cx hr hlk hnm hW ls hl
  have Cx : sC G p m c cX0_init 1 s args RX0 := Cx
  obtain ⟨hx, hb, hml, hown, hts⟩ := id Cx.1
  have hL : sL G [] := sL_nil
  have hl : lv_has ls 1 [(0, .ref (G.2.2.1 + 147))] := hl
  refine lv_aload_n hx hb dX0_init_0 rfl (lv_at hl 0 rfl) ?_
  refine W.objInit hx hb hown (hts _ w_398) (hts _ w_233) (hts _ w_234) rfl (by rw [hml]; exact hl.1) rfl dX0_init_1 (Nat.le_of_ble_eq_true rfl) (Nat.le_of_ble_eq_true rfl) ?_
  refine W.eq (g2 := F0 m 4 ls []) rfl ?_
  refine lv_aload_n hx hb dX0_init_4 rfl (lv_at hl 0 rfl) ?_
  refine lv_bipush (v := 32) hx hb dX0_init_5 (by decide) ?_
  refine sNewa (atype := .int) (ty := .int) Cx (N := 32) rfl 0 rfl (fun U h => h) w_294 hW rfl rfl (by decide) rfl (Nat.le_of_ble_eq_true rfl) (Nat.le_of_ble_eq_true rfl) (Nat.le_of_ble_eq_true rfl) dX0_init_7 (fun H hW => ?_)
  refine p_X0_9 Cx hnm hW hL (k := 147) (by decide) rfl dX0_init_9 (fun H locs hW hL => ?_)
  exact sVret Cx hr hlk hW hL rfl dX0_init_12

set_option maxRecDepth 100000 in
set_option maxHeartbeats 4000000 in
theorem t19_X0_init (l : Launch) (G : sG) (S : sS)   : Met l yX0_init (.code yX0_init cX0_init 1 none :: tb) (rmk 1 1 32) (sPc G 150 S [.ref (G.2.2.1 + 149)]) (sQv G 151 (fun u => u = (sR S 149 0 (.ref (G.2.2.1 + 150))))) 1 32 (sF G) := by
  refine sEnter (by decide) (Nat.le_of_ble_eq_true rfl) ?_
  intro p e s m args below meth c Cx hr hlk hnm hW ls hl
  have Cx : sC G p m c cX0_init 1 s args RX0 := Cx
  obtain ⟨hx, hb, hml, hown, hts⟩ := id Cx.1
  have hL : sL G [] := sL_nil
  have hl : lv_has ls 1 [(0, .ref (G.2.2.1 + 149))] := hl
  refine lv_aload_n hx hb dX0_init_0 rfl (lv_at hl 0 rfl) ?_
  refine W.objInit hx hb hown (hts _ w_398) (hts _ w_233) (hts _ w_234) rfl (by rw [hml]; exact hl.1) rfl dX0_init_1 (Nat.le_of_ble_eq_true rfl) (Nat.le_of_ble_eq_true rfl) ?_
  refine W.eq (g2 := F0 m 4 ls []) rfl ?_
  refine lv_aload_n hx hb dX0_init_4 rfl (lv_at hl 0 rfl) ?_
  refine lv_bipush (v := 32) hx hb dX0_init_5 (by decide) ?_
  refine sNewa (atype := .int) (ty := .int) Cx (N := 32) rfl 0 rfl (fun U h => h) w_294 hW rfl rfl (by decide) rfl (Nat.le_of_ble_eq_true rfl) (Nat.le_of_ble_eq_true rfl) (Nat.le_of_ble_eq_true rfl) dX0_init_7 (fun H hW => ?_)
  refine p_X0_9 Cx hnm hW hL (k := 149) (by decide) rfl dX0_init_9 (fun H locs hW hL => ?_)
  exact sVret Cx hr hlk hW hL rfl dX0_init_12

set_option maxRecDepth 100000 in
set_option maxHeartbeats 4000000 in
theorem t20_X0_init (l : Launch) (G : sG) (S : sS)   : Met l yX0_init (.code yX0_init cX0_init 1 none :: tb) (rmk 1 1 32) (sPc G 152 S [.ref (G.2.2.1 + 151)]) (sQv G 153 (fun u => u = (sR S 151 0 (.ref (G.2.2.1 + 152))))) 1 32 (sF G) := by
  refine sEnter (by decide) (Nat.le_of_ble_eq_true rfl) ?_
  intro p e s m args below meth c Cx hr hlk hnm hW ls hl
  have Cx : sC G p m c cX0_init 1 s args RX0 := Cx
  obtain ⟨hx, hb, hml, hown, hts⟩ := id Cx.1
  have hL : sL G [] := sL_nil
  have hl : lv_has ls 1 [(0, .ref (G.2.2.1 + 151))] := hl
  refine lv_aload_n hx hb dX0_init_0 rfl (lv_at hl 0 rfl) ?_
  refine W.objInit hx hb hown (hts _ w_398) (hts _ w_233) (hts _ w_234) rfl (by rw [hml]; exact hl.1) rfl dX0_init_1 (Nat.le_of_ble_eq_true rfl) (Nat.le_of_ble_eq_true rfl) ?_
  refine W.eq (g2 := F0 m 4 ls []) rfl ?_
  refine lv_aload_n hx hb dX0_init_4 rfl (lv_at hl 0 rfl) ?_
  refine lv_bipush (v := 32) hx hb dX0_init_5 (by decide) ?_
  refine sNewa (atype := .int) (ty := .int) Cx (N := 32) rfl 0 rfl (fun U h => h) w_294 hW rfl rfl (by decide) rfl (Nat.le_of_ble_eq_true rfl) (Nat.le_of_ble_eq_true rfl) (Nat.le_of_ble_eq_true rfl) dX0_init_7 (fun H hW => ?_)
  refine p_X0_9 Cx hnm hW hL (k := 151) (by decide) rfl dX0_init_9 (fun H locs hW hL => ?_)
  exact sVret Cx hr hlk hW hL rfl dX0_init_12

set_option maxRecDepth 100000 in
set_option maxHeartbeats 4000000 in
theorem t21_X0_init (l : Launch) (G : sG) (S : sS)   : Met l yX0_init (.code yX0_init cX0_init 1 none :: tb) (rmk 1 1 32) (sPc G 154 S [.ref (G.2.2.1 + 153)]) (sQv G 155 (fun u => u = (sR S 153 0 (.ref (G.2.2.1 + 154))))) 1 32 (sF G) := by
  refine sEnter (by decide) (Nat.le_of_ble_eq_true rfl) ?_
  intro p e s m args below meth c Cx hr hlk hnm hW ls hl
  have Cx : sC G p m c cX0_init 1 s args RX0 := Cx
  obtain ⟨hx, hb, hml, hown, hts⟩ := id Cx.1
  have hL : sL G [] := sL_nil
  have hl : lv_has ls 1 [(0, .ref (G.2.2.1 + 153))] := hl
  refine lv_aload_n hx hb dX0_init_0 rfl (lv_at hl 0 rfl) ?_
  refine W.objInit hx hb hown (hts _ w_398) (hts _ w_233) (hts _ w_234) rfl (by rw [hml]; exact hl.1) rfl dX0_init_1 (Nat.le_of_ble_eq_true rfl) (Nat.le_of_ble_eq_true rfl) ?_
  refine W.eq (g2 := F0 m 4 ls []) rfl ?_
  refine lv_aload_n hx hb dX0_init_4 rfl (lv_at hl 0 rfl) ?_
  refine lv_bipush (v := 32) hx hb dX0_init_5 (by decide) ?_
  refine sNewa (atype := .int) (ty := .int) Cx (N := 32) rfl 0 rfl (fun U h => h) w_294 hW rfl rfl (by decide) rfl (Nat.le_of_ble_eq_true rfl) (Nat.le_of_ble_eq_true rfl) (Nat.le_of_ble_eq_true rfl) dX0_init_7 (fun H hW => ?_)
  refine p_X0_9 Cx hnm hW hL (k := 153) (by decide) rfl dX0_init_9 (fun H locs hW hL => ?_)
  exact sVret Cx hr hlk hW hL rfl dX0_init_12

set_option maxRecDepth 100000 in
set_option maxHeartbeats 4000000 in
theorem t22_X0_init (l : Launch) (G : sG) (S : sS)   : Met l yX0_init (.code yX0_init cX0_init 1 none :: tb) (rmk 1 1 32) (sPc G 156 S [.ref (G.2.2.1 + 155)]) (sQv G 157 (fun u => u = (sR S 155 0 (.ref (G.2.2.1 + 156))))) 1 32 (sF G) := by
  refine sEnter (by decide) (Nat.le_of_ble_eq_true rfl) ?_
  intro p e s m args below meth c Cx hr hlk hnm hW ls hl
  have Cx : sC G p m c cX0_init 1 s args RX0 := Cx
  obtain ⟨hx, hb, hml, hown, hts⟩ := id Cx.1
  have hL : sL G [] := sL_nil
  have hl : lv_has ls 1 [(0, .ref (G.2.2.1 + 155))] := hl
  refine lv_aload_n hx hb dX0_init_0 rfl (lv_at hl 0 rfl) ?_
  refine W.objInit hx hb hown (hts _ w_398) (hts _ w_233) (hts _ w_234) rfl (by rw [hml]; exact hl.1) rfl dX0_init_1 (Nat.le_of_ble_eq_true rfl) (Nat.le_of_ble_eq_true rfl) ?_
  refine W.eq (g2 := F0 m 4 ls []) rfl ?_
  refine lv_aload_n hx hb dX0_init_4 rfl (lv_at hl 0 rfl) ?_
  refine lv_bipush (v := 32) hx hb dX0_init_5 (by decide) ?_
  refine sNewa (atype := .int) (ty := .int) Cx (N := 32) rfl 0 rfl (fun U h => h) w_294 hW rfl rfl (by decide) rfl (Nat.le_of_ble_eq_true rfl) (Nat.le_of_ble_eq_true rfl) (Nat.le_of_ble_eq_true rfl) dX0_init_7 (fun H hW => ?_)
  refine p_X0_9 Cx hnm hW hL (k := 155) (by decide) rfl dX0_init_9 (fun H locs hW hL => ?_)
  exact sVret Cx hr hlk hW hL rfl dX0_init_12

set_option maxRecDepth 100000 in
set_option maxHeartbeats 4000000 in
theorem t23_X2_init (l : Launch) (G : sG) (S : sS)   : Met l yX2_init (.code yX2_init cX2_init 1 none :: tb) (rmk 2 21 112187) (sPc G 136 S [.ref (G.2.2.1 + 135)]) (sQv G 157 (fun u => u = (sR (sR (sR (sR (sR (sR (sR (sR (sR (sR (sR (sR (sR (sR (sR (sR (sR (sR (sR (sR (sR S 135 0 (.ref (G.2.2.1 + 136))) 135 1 (.ref (G.2.2.1 + 137))) 135 2 (.ref (G.2.2.1 + 138))) 135 3 (.ref (G.2.2.1 + 139))) 135 4 (.ref (G.2.2.1 + 140))) 141 0 (.ref (G.2.2.1 + 142))) 135 5 (.ref (G.2.2.1 + 141))) 143 0 (.ref (G.2.2.1 + 144))) 135 6 (.ref (G.2.2.1 + 143))) 145 0 (.ref (G.2.2.1 + 146))) 135 7 (.ref (G.2.2.1 + 145))) 147 0 (.ref (G.2.2.1 + 148))) 135 8 (.ref (G.2.2.1 + 147))) 149 0 (.ref (G.2.2.1 + 150))) 135 9 (.ref (G.2.2.1 + 149))) 151 0 (.ref (G.2.2.1 + 152))) 135 10 (.ref (G.2.2.1 + 151))) 153 0 (.ref (G.2.2.1 + 154))) 135 11 (.ref (G.2.2.1 + 153))) 155 0 (.ref (G.2.2.1 + 156))) 135 12 (.ref (G.2.2.1 + 155))))) 21 112187 (sF G) := by
  refine sEnter (by decide) (Nat.le_of_ble_eq_true rfl) ?_
  intro p e s m args below meth c Cx hr hlk hnm hW ls hl
  have Cx : sC G p m c cX2_init 1 s args RX2 := Cx
  obtain ⟨hx, hb, hml, hown, hts⟩ := id Cx.1
  have hL : sL G [] := sL_nil
  have hl : lv_has ls 1 [(0, .ref (G.2.2.1 + 135))] := hl
  refine lv_aload_n hx hb dX2_init_0 rfl (lv_at hl 0 rfl) ?_
  refine W.objInit hx hb hown (hts _ w_452) (hts _ w_233) (hts _ w_234) rfl (by rw [hml]; exact hl.1) rfl dX2_init_1 (Nat.le_of_ble_eq_true rfl) (Nat.le_of_ble_eq_true rfl) ?_
  refine W.eq (g2 := F0 m 4 ls []) rfl ?_
  refine lv_aload_n hx hb dX2_init_4 rfl (lv_at hl 0 rfl) ?_
  refine lv_sipush (v := 4816) hx hb dX2_init_5 (by decide) ?_
  refine sNewa (atype := .int) (ty := .int) Cx (N := 4816) rfl 0 rfl (fun U h => h) w_294 hW rfl rfl (by decide) rfl (Nat.le_of_ble_eq_true rfl) (Nat.le_of_ble_eq_true rfl) (Nat.le_of_ble_eq_true rfl) dX2_init_8 (fun H hW => ?_)
  refine p_X2_13 Cx hW hL (k := 135) (by decide) rfl dX2_init_10 (fun H locs hW hL => ?_)
  refine lv_aload_n hx hb dX2_init_13 rfl (lv_at hl 0 rfl) ?_
  refine lv_sipush (v := 4816) hx hb dX2_init_14 (by decide) ?_
  refine sNewa (atype := .int) (ty := .int) Cx (N := 4816) rfl 0 rfl (fun U h => h) w_294 hW rfl rfl (by decide) rfl (Nat.le_of_ble_eq_true rfl) (Nat.le_of_ble_eq_true rfl) (Nat.le_of_ble_eq_true rfl) dX2_init_17 (fun H hW => ?_)
  refine p_X2_17 Cx hW hL (k := 135) (by decide) rfl dX2_init_19 (fun H locs hW hL => ?_)
  refine lv_aload_n hx hb dX2_init_22 rfl (lv_at hl 0 rfl) ?_
  refine lv_bipush (v := 41) hx hb dX2_init_23 (by decide) ?_
  refine sNewa (atype := .int) (ty := .int) Cx (N := 41) rfl 0 rfl (fun U h => h) w_294 hW rfl rfl (by decide) rfl (Nat.le_of_ble_eq_true rfl) (Nat.le_of_ble_eq_true rfl) (Nat.le_of_ble_eq_true rfl) dX2_init_25 (fun H hW => ?_)
  refine p_X2_20 Cx hnm hW hL (k := 135) (by decide) rfl dX2_init_27 (fun H locs hW hL => ?_)
  refine lv_aload_n hx hb dX2_init_30 rfl (lv_at hl 0 rfl) ?_
  refine lv_bipush (v := 14) hx hb dX2_init_31 (by decide) ?_
  refine sNewa (atype := .int) (ty := .int) Cx (N := 14) rfl 0 rfl (fun U h => h) w_294 hW rfl rfl (by decide) rfl (Nat.le_of_ble_eq_true rfl) (Nat.le_of_ble_eq_true rfl) (Nat.le_of_ble_eq_true rfl) dX2_init_33 (fun H hW => ?_)
  refine p_X2_23 Cx hnm hW hL (k := 135) (by decide) rfl dX2_init_35 (fun H locs hW hL => ?_)
  refine lv_aload_n hx hb dX2_init_38 rfl (lv_at hl 0 rfl) ?_
  refine lv_ldc hx hb hown (hts _ w_453) dX2_init_39 ?_
  refine sNewa (atype := .int) (ty := .int) Cx (N := 102220) rfl 0 rfl (fun U h => h) w_294 hW rfl rfl (by decide) rfl (Nat.le_of_ble_eq_true rfl) (Nat.le_of_ble_eq_true rfl) (Nat.le_of_ble_eq_true rfl) dX2_init_41 (fun H hW => ?_)
  refine p_X2_27 Cx hnm hW hL (k := 135) (by decide) rfl dX2_init_43 (fun H locs hW hL => ?_)
  refine lv_aload_n hx hb dX2_init_46 rfl (lv_at hl 0 rfl) ?_
  refine n_X2_3 Cx hW rfl (Nat.le_of_ble_eq_true rfl) (Nat.le_of_ble_eq_true rfl) dX2_init_47 (fun H hW => ?_)
  refine lv_dup hx hb dX2_init_50 rfl ?_
  refine sBv (sInN (As := []) (rest := [.ref (G.2.2.1 + 141), .ref (G.2.2.1 + 135)]) (k := 141) Cx (t15_X0_init l G (sR (sR (sR (sR (sR S 135 0 (.ref (G.2.2.1 + 136))) 135 1 (.ref (G.2.2.1 + 137))) 135 2 (.ref (G.2.2.1 + 138))) 135 3 (.ref (G.2.2.1 + 139))) 135 4 (.ref (G.2.2.1 + 140)))) (c_X2_30 Cx rfl rfl ⟨Nat.le_of_ble_eq_true rfl, Nat.le_of_ble_eq_true rfl⟩) hW rfl hl.1 rfl (Nat.le_of_ble_eq_true rfl) dX2_init_51 ⟨Nat.le_of_ble_eq_true rfl, Nat.le_of_ble_eq_true rfl⟩) hL (fun u H locs hq hW hL => ?_)
  subst hq
  refine p_X2_31 Cx hnm hW hL (k := 135) (by decide) rfl dX2_init_54 (fun H locs hW hL => ?_)
  refine lv_aload_n hx hb dX2_init_57 rfl (lv_at hl 0 rfl) ?_
  refine n_X2_3 Cx hW rfl (Nat.le_of_ble_eq_true rfl) (Nat.le_of_ble_eq_true rfl) dX2_init_58 (fun H hW => ?_)
  refine lv_dup hx hb dX2_init_61 rfl ?_
  refine sBv (sInN (As := []) (rest := [.ref (G.2.2.1 + 143), .ref (G.2.2.1 + 135)]) (k := 143) Cx (t16_X0_init l G (sR (sR (sR (sR (sR (sR (sR S 135 0 (.ref (G.2.2.1 + 136))) 135 1 (.ref (G.2.2.1 + 137))) 135 2 (.ref (G.2.2.1 + 138))) 135 3 (.ref (G.2.2.1 + 139))) 135 4 (.ref (G.2.2.1 + 140))) 141 0 (.ref (G.2.2.1 + 142))) 135 5 (.ref (G.2.2.1 + 141)))) (c_X2_30 Cx rfl rfl ⟨Nat.le_of_ble_eq_true rfl, Nat.le_of_ble_eq_true rfl⟩) hW rfl hl.1 rfl (Nat.le_of_ble_eq_true rfl) dX2_init_62 ⟨Nat.le_of_ble_eq_true rfl, Nat.le_of_ble_eq_true rfl⟩) hL (fun u H locs hq hW hL => ?_)
  subst hq
  refine p_X2_35 Cx hnm hW hL (k := 135) (by decide) rfl dX2_init_65 (fun H locs hW hL => ?_)
  refine lv_aload_n hx hb dX2_init_68 rfl (lv_at hl 0 rfl) ?_
  refine n_X2_3 Cx hW rfl (Nat.le_of_ble_eq_true rfl) (Nat.le_of_ble_eq_true rfl) dX2_init_69 (fun H hW => ?_)
  refine lv_dup hx hb dX2_init_72 rfl ?_
  refine sBv (sInN (As := []) (rest := [.ref (G.2.2.1 + 145), .ref (G.2.2.1 + 135)]) (k := 145) Cx (t17_X0_init l G (sR (sR (sR (sR (sR (sR (sR (sR (sR S 135 0 (.ref (G.2.2.1 + 136))) 135 1 (.ref (G.2.2.1 + 137))) 135 2 (.ref (G.2.2.1 + 138))) 135 3 (.ref (G.2.2.1 + 139))) 135 4 (.ref (G.2.2.1 + 140))) 141 0 (.ref (G.2.2.1 + 142))) 135 5 (.ref (G.2.2.1 + 141))) 143 0 (.ref (G.2.2.1 + 144))) 135 6 (.ref (G.2.2.1 + 143)))) (c_X2_30 Cx rfl rfl ⟨Nat.le_of_ble_eq_true rfl, Nat.le_of_ble_eq_true rfl⟩) hW rfl hl.1 rfl (Nat.le_of_ble_eq_true rfl) dX2_init_73 ⟨Nat.le_of_ble_eq_true rfl, Nat.le_of_ble_eq_true rfl⟩) hL (fun u H locs hq hW hL => ?_)
  subst hq
  refine p_X2_38 Cx hnm hW hL (k := 135) (by decide) rfl dX2_init_76 (fun H locs hW hL => ?_)
  refine lv_aload_n hx hb dX2_init_79 rfl (lv_at hl 0 rfl) ?_
  refine n_X2_3 Cx hW rfl (Nat.le_of_ble_eq_true rfl) (Nat.le_of_ble_eq_true rfl) dX2_init_80 (fun H hW => ?_)
  refine lv_dup hx hb dX2_init_83 rfl ?_
  refine sBv (sInN (As := []) (rest := [.ref (G.2.2.1 + 147), .ref (G.2.2.1 + 135)]) (k := 147) Cx (t18_X0_init l G (sR (sR (sR (sR (sR (sR (sR (sR (sR (sR (sR S 135 0 (.ref (G.2.2.1 + 136))) 135 1 (.ref (G.2.2.1 + 137))) 135 2 (.ref (G.2.2.1 + 138))) 135 3 (.ref (G.2.2.1 + 139))) 135 4 (.ref (G.2.2.1 + 140))) 141 0 (.ref (G.2.2.1 + 142))) 135 5 (.ref (G.2.2.1 + 141))) 143 0 (.ref (G.2.2.1 + 144))) 135 6 (.ref (G.2.2.1 + 143))) 145 0 (.ref (G.2.2.1 + 146))) 135 7 (.ref (G.2.2.1 + 145)))) (c_X2_30 Cx rfl rfl ⟨Nat.le_of_ble_eq_true rfl, Nat.le_of_ble_eq_true rfl⟩) hW rfl hl.1 rfl (Nat.le_of_ble_eq_true rfl) dX2_init_84 ⟨Nat.le_of_ble_eq_true rfl, Nat.le_of_ble_eq_true rfl⟩) hL (fun u H locs hq hW hL => ?_)
  subst hq
  refine p_X2_41 Cx hnm hW hL (k := 135) (by decide) rfl dX2_init_87 (fun H locs hW hL => ?_)
  refine lv_aload_n hx hb dX2_init_90 rfl (lv_at hl 0 rfl) ?_
  refine n_X2_3 Cx hW rfl (Nat.le_of_ble_eq_true rfl) (Nat.le_of_ble_eq_true rfl) dX2_init_91 (fun H hW => ?_)
  refine lv_dup hx hb dX2_init_94 rfl ?_
  refine sBv (sInN (As := []) (rest := [.ref (G.2.2.1 + 149), .ref (G.2.2.1 + 135)]) (k := 149) Cx (t19_X0_init l G (sR (sR (sR (sR (sR (sR (sR (sR (sR (sR (sR (sR (sR S 135 0 (.ref (G.2.2.1 + 136))) 135 1 (.ref (G.2.2.1 + 137))) 135 2 (.ref (G.2.2.1 + 138))) 135 3 (.ref (G.2.2.1 + 139))) 135 4 (.ref (G.2.2.1 + 140))) 141 0 (.ref (G.2.2.1 + 142))) 135 5 (.ref (G.2.2.1 + 141))) 143 0 (.ref (G.2.2.1 + 144))) 135 6 (.ref (G.2.2.1 + 143))) 145 0 (.ref (G.2.2.1 + 146))) 135 7 (.ref (G.2.2.1 + 145))) 147 0 (.ref (G.2.2.1 + 148))) 135 8 (.ref (G.2.2.1 + 147)))) (c_X2_30 Cx rfl rfl ⟨Nat.le_of_ble_eq_true rfl, Nat.le_of_ble_eq_true rfl⟩) hW rfl hl.1 rfl (Nat.le_of_ble_eq_true rfl) dX2_init_95 ⟨Nat.le_of_ble_eq_true rfl, Nat.le_of_ble_eq_true rfl⟩) hL (fun u H locs hq hW hL => ?_)
  subst hq
  refine p_X2_44 Cx hnm hW hL (k := 135) (by decide) rfl dX2_init_98 (fun H locs hW hL => ?_)
  refine lv_aload_n hx hb dX2_init_101 rfl (lv_at hl 0 rfl) ?_
  refine n_X2_3 Cx hW rfl (Nat.le_of_ble_eq_true rfl) (Nat.le_of_ble_eq_true rfl) dX2_init_102 (fun H hW => ?_)
  refine lv_dup hx hb dX2_init_105 rfl ?_
  refine sBv (sInN (As := []) (rest := [.ref (G.2.2.1 + 151), .ref (G.2.2.1 + 135)]) (k := 151) Cx (t20_X0_init l G (sR (sR (sR (sR (sR (sR (sR (sR (sR (sR (sR (sR (sR (sR (sR S 135 0 (.ref (G.2.2.1 + 136))) 135 1 (.ref (G.2.2.1 + 137))) 135 2 (.ref (G.2.2.1 + 138))) 135 3 (.ref (G.2.2.1 + 139))) 135 4 (.ref (G.2.2.1 + 140))) 141 0 (.ref (G.2.2.1 + 142))) 135 5 (.ref (G.2.2.1 + 141))) 143 0 (.ref (G.2.2.1 + 144))) 135 6 (.ref (G.2.2.1 + 143))) 145 0 (.ref (G.2.2.1 + 146))) 135 7 (.ref (G.2.2.1 + 145))) 147 0 (.ref (G.2.2.1 + 148))) 135 8 (.ref (G.2.2.1 + 147))) 149 0 (.ref (G.2.2.1 + 150))) 135 9 (.ref (G.2.2.1 + 149)))) (c_X2_30 Cx rfl rfl ⟨Nat.le_of_ble_eq_true rfl, Nat.le_of_ble_eq_true rfl⟩) hW rfl hl.1 rfl (Nat.le_of_ble_eq_true rfl) dX2_init_106 ⟨Nat.le_of_ble_eq_true rfl, Nat.le_of_ble_eq_true rfl⟩) hL (fun u H locs hq hW hL => ?_)
  subst hq
  refine p_X2_47 Cx hnm hW hL (k := 135) (by decide) rfl dX2_init_109 (fun H locs hW hL => ?_)
  refine lv_aload_n hx hb dX2_init_112 rfl (lv_at hl 0 rfl) ?_
  refine n_X2_3 Cx hW rfl (Nat.le_of_ble_eq_true rfl) (Nat.le_of_ble_eq_true rfl) dX2_init_113 (fun H hW => ?_)
  refine lv_dup hx hb dX2_init_116 rfl ?_
  refine sBv (sInN (As := []) (rest := [.ref (G.2.2.1 + 153), .ref (G.2.2.1 + 135)]) (k := 153) Cx (t21_X0_init l G (sR (sR (sR (sR (sR (sR (sR (sR (sR (sR (sR (sR (sR (sR (sR (sR (sR S 135 0 (.ref (G.2.2.1 + 136))) 135 1 (.ref (G.2.2.1 + 137))) 135 2 (.ref (G.2.2.1 + 138))) 135 3 (.ref (G.2.2.1 + 139))) 135 4 (.ref (G.2.2.1 + 140))) 141 0 (.ref (G.2.2.1 + 142))) 135 5 (.ref (G.2.2.1 + 141))) 143 0 (.ref (G.2.2.1 + 144))) 135 6 (.ref (G.2.2.1 + 143))) 145 0 (.ref (G.2.2.1 + 146))) 135 7 (.ref (G.2.2.1 + 145))) 147 0 (.ref (G.2.2.1 + 148))) 135 8 (.ref (G.2.2.1 + 147))) 149 0 (.ref (G.2.2.1 + 150))) 135 9 (.ref (G.2.2.1 + 149))) 151 0 (.ref (G.2.2.1 + 152))) 135 10 (.ref (G.2.2.1 + 151)))) (c_X2_30 Cx rfl rfl ⟨Nat.le_of_ble_eq_true rfl, Nat.le_of_ble_eq_true rfl⟩) hW rfl hl.1 rfl (Nat.le_of_ble_eq_true rfl) dX2_init_117 ⟨Nat.le_of_ble_eq_true rfl, Nat.le_of_ble_eq_true rfl⟩) hL (fun u H locs hq hW hL => ?_)
  subst hq
  refine p_X2_50 Cx hnm hW hL (k := 135) (by decide) rfl dX2_init_120 (fun H locs hW hL => ?_)
  refine lv_aload_n hx hb dX2_init_123 rfl (lv_at hl 0 rfl) ?_
  refine n_X2_3 Cx hW rfl (Nat.le_of_ble_eq_true rfl) (Nat.le_of_ble_eq_true rfl) dX2_init_124 (fun H hW => ?_)
  refine lv_dup hx hb dX2_init_127 rfl ?_
  refine sBv (sInN (As := []) (rest := [.ref (G.2.2.1 + 155), .ref (G.2.2.1 + 135)]) (k := 155) Cx (t22_X0_init l G (sR (sR (sR (sR (sR (sR (sR (sR (sR (sR (sR (sR (sR (sR (sR (sR (sR (sR (sR S 135 0 (.ref (G.2.2.1 + 136))) 135 1 (.ref (G.2.2.1 + 137))) 135 2 (.ref (G.2.2.1 + 138))) 135 3 (.ref (G.2.2.1 + 139))) 135 4 (.ref (G.2.2.1 + 140))) 141 0 (.ref (G.2.2.1 + 142))) 135 5 (.ref (G.2.2.1 + 141))) 143 0 (.ref (G.2.2.1 + 144))) 135 6 (.ref (G.2.2.1 + 143))) 145 0 (.ref (G.2.2.1 + 146))) 135 7 (.ref (G.2.2.1 + 145))) 147 0 (.ref (G.2.2.1 + 148))) 135 8 (.ref (G.2.2.1 + 147))) 149 0 (.ref (G.2.2.1 + 150))) 135 9 (.ref (G.2.2.1 + 149))) 151 0 (.ref (G.2.2.1 + 152))) 135 10 (.ref (G.2.2.1 + 151))) 153 0 (.ref (G.2.2.1 + 154))) 135 11 (.ref (G.2.2.1 + 153)))) (c_X2_30 Cx rfl rfl ⟨Nat.le_of_ble_eq_true rfl, Nat.le_of_ble_eq_true rfl⟩) hW rfl hl.1 rfl (Nat.le_of_ble_eq_true rfl) dX2_init_128 ⟨Nat.le_of_ble_eq_true rfl, Nat.le_of_ble_eq_true rfl⟩) hL (fun u H locs hq hW hL => ?_)
  subst hq
  refine p_X2_53 Cx hnm hW hL (k := 135) (by decide) rfl dX2_init_131 (fun H locs hW hL => ?_)
  exact sVret Cx hr hlk hW hL rfl dX2_init_134

set_option maxRecDepth 100000 in
set_option maxHeartbeats 4000000 in
theorem t24_X10_init (l : Launch) (G : sG) (S : sS)   : Met l yX10_init (.code yX10_init cX10_init 2 none :: tb) (rmk 1 1 1500) (sPc G 159 S [.ref (G.2.2.1 + 158), .int 1500]) (sQv G 160 (fun u => u = (sR S 158 0 (.ref (G.2.2.1 + 159))))) 1 1500 (sF G) := by
  refine sEnter (by decide) (Nat.le_of_ble_eq_true rfl) ?_
  intro p e s m args below meth c Cx hr hlk hnm hW ls hl
  have Cx : sC G p m c cX10_init 2 s args RX10 := Cx
  obtain ⟨hx, hb, hml, hown, hts⟩ := id Cx.1
  have hL : sL G [] := sL_nil
  have hl : lv_has ls 2 [(0, .ref (G.2.2.1 + 158)), (1, .int 1500)] := hl
  refine lv_aload_n hx hb dX10_init_0 rfl (lv_at hl 0 rfl) ?_
  refine W.objInit hx hb hown (hts _ w_240) (hts _ w_233) (hts _ w_234) rfl (by rw [hml]; exact hl.1) rfl dX10_init_1 (Nat.le_of_ble_eq_true rfl) (Nat.le_of_ble_eq_true rfl) ?_
  refine W.eq (g2 := F0 m 4 ls []) rfl ?_
  refine lv_aload_n hx hb dX10_init_4 rfl (lv_at hl 0 rfl) ?_
  refine lv_iload_n hx hb dX10_init_5 rfl (lv_at hl 1 rfl) ?_
  refine lv_iconst (v := 0) hx hb dX10_init_6 (by decide) ?_
  refine va_mmax hx hb (hml.trans hl.1.symm) hown (hts _ w_241) (hts _ w_242) (hts _ w_206) (hts _ w_243) (Nat.le_of_ble_eq_true rfl) (Nat.le_of_ble_eq_true rfl) (Nat.le_of_ble_eq_true rfl) (Nat.le_of_ble_eq_true rfl) dX10_init_7 ?_
  refine sCi (v := 1500) (by decide) ?_
  refine sNewa (atype := .byte) (ty := .byte) Cx (N := 1500) rfl 2 rfl (fun U h => h) w_254 hW rfl rfl (by decide) rfl (Nat.le_of_ble_eq_true rfl) (Nat.le_of_ble_eq_true rfl) (Nat.le_of_ble_eq_true rfl) dX10_init_10 (fun H hW => ?_)
  refine p_X10_15 Cx hnm hW hL (k := 158) (by decide) rfl dX10_init_12 (fun H locs hW hL => ?_)
  exact sVret Cx hr hlk hW hL rfl dX10_init_15

set_option maxRecDepth 100000 in
set_option maxHeartbeats 4000000 in
theorem t25_X10_init (l : Launch) (G : sG) (S : sS)   : Met l yX10_init (.code yX10_init cX10_init 2 none :: tb) (rmk 1 1 30000) (sPc G 161 S [.ref (G.2.2.1 + 160), .int 30000]) (sQv G 162 (fun u => u = (sR S 160 0 (.ref (G.2.2.1 + 161))))) 1 30000 (sF G) := by
  refine sEnter (by decide) (Nat.le_of_ble_eq_true rfl) ?_
  intro p e s m args below meth c Cx hr hlk hnm hW ls hl
  have Cx : sC G p m c cX10_init 2 s args RX10 := Cx
  obtain ⟨hx, hb, hml, hown, hts⟩ := id Cx.1
  have hL : sL G [] := sL_nil
  have hl : lv_has ls 2 [(0, .ref (G.2.2.1 + 160)), (1, .int 30000)] := hl
  refine lv_aload_n hx hb dX10_init_0 rfl (lv_at hl 0 rfl) ?_
  refine W.objInit hx hb hown (hts _ w_240) (hts _ w_233) (hts _ w_234) rfl (by rw [hml]; exact hl.1) rfl dX10_init_1 (Nat.le_of_ble_eq_true rfl) (Nat.le_of_ble_eq_true rfl) ?_
  refine W.eq (g2 := F0 m 4 ls []) rfl ?_
  refine lv_aload_n hx hb dX10_init_4 rfl (lv_at hl 0 rfl) ?_
  refine lv_iload_n hx hb dX10_init_5 rfl (lv_at hl 1 rfl) ?_
  refine lv_iconst (v := 0) hx hb dX10_init_6 (by decide) ?_
  refine va_mmax hx hb (hml.trans hl.1.symm) hown (hts _ w_241) (hts _ w_242) (hts _ w_206) (hts _ w_243) (Nat.le_of_ble_eq_true rfl) (Nat.le_of_ble_eq_true rfl) (Nat.le_of_ble_eq_true rfl) (Nat.le_of_ble_eq_true rfl) dX10_init_7 ?_
  refine sCi (v := 30000) (by decide) ?_
  refine sNewa (atype := .byte) (ty := .byte) Cx (N := 30000) rfl 2 rfl (fun U h => h) w_254 hW rfl rfl (by decide) rfl (Nat.le_of_ble_eq_true rfl) (Nat.le_of_ble_eq_true rfl) (Nat.le_of_ble_eq_true rfl) dX10_init_10 (fun H hW => ?_)
  refine p_X10_15 Cx hnm hW hL (k := 160) (by decide) rfl dX10_init_12 (fun H locs hW hL => ?_)
  exact sVret Cx hr hlk hW hL rfl dX10_init_15

set_option maxRecDepth 100000 in
set_option maxHeartbeats 4000000 in
theorem t26_X0_init (l : Launch) (G : sG) (S : sS)   : Met l yX0_init (.code yX0_init cX0_init 1 none :: tb) (rmk 1 1 32) (sPc G 164 S [.ref (G.2.2.1 + 163)]) (sQv G 165 (fun u => u = (sR S 163 0 (.ref (G.2.2.1 + 164))))) 1 32 (sF G) := by
  refine sEnter (by decide) (Nat.le_of_ble_eq_true rfl) ?_
  intro p e s m args below meth c Cx hr hlk hnm hW ls hl
  have Cx : sC G p m c cX0_init 1 s args RX0 := Cx
  obtain ⟨hx, hb, hml, hown, hts⟩ := id Cx.1
  have hL : sL G [] := sL_nil
  have hl : lv_has ls 1 [(0, .ref (G.2.2.1 + 163))] := hl
  refine lv_aload_n hx hb dX0_init_0 rfl (lv_at hl 0 rfl) ?_
  refine W.objInit hx hb hown (hts _ w_398) (hts _ w_233) (hts _ w_234) rfl (by rw [hml]; exact hl.1) rfl dX0_init_1 (Nat.le_of_ble_eq_true rfl) (Nat.le_of_ble_eq_true rfl) ?_
  refine W.eq (g2 := F0 m 4 ls []) rfl ?_
  refine lv_aload_n hx hb dX0_init_4 rfl (lv_at hl 0 rfl) ?_
  refine lv_bipush (v := 32) hx hb dX0_init_5 (by decide) ?_
  refine sNewa (atype := .int) (ty := .int) Cx (N := 32) rfl 0 rfl (fun U h => h) w_294 hW rfl rfl (by decide) rfl (Nat.le_of_ble_eq_true rfl) (Nat.le_of_ble_eq_true rfl) (Nat.le_of_ble_eq_true rfl) dX0_init_7 (fun H hW => ?_)
  refine p_X0_9 Cx hnm hW hL (k := 163) (by decide) rfl dX0_init_9 (fun H locs hW hL => ?_)
  exact sVret Cx hr hlk hW hL rfl dX0_init_12

set_option maxRecDepth 100000 in
set_option maxHeartbeats 4000000 in
theorem t27_X0_init (l : Launch) (G : sG) (S : sS)   : Met l yX0_init (.code yX0_init cX0_init 1 none :: tb) (rmk 1 1 32) (sPc G 166 S [.ref (G.2.2.1 + 165)]) (sQv G 167 (fun u => u = (sR S 165 0 (.ref (G.2.2.1 + 166))))) 1 32 (sF G) := by
  refine sEnter (by decide) (Nat.le_of_ble_eq_true rfl) ?_
  intro p e s m args below meth c Cx hr hlk hnm hW ls hl
  have Cx : sC G p m c cX0_init 1 s args RX0 := Cx
  obtain ⟨hx, hb, hml, hown, hts⟩ := id Cx.1
  have hL : sL G [] := sL_nil
  have hl : lv_has ls 1 [(0, .ref (G.2.2.1 + 165))] := hl
  refine lv_aload_n hx hb dX0_init_0 rfl (lv_at hl 0 rfl) ?_
  refine W.objInit hx hb hown (hts _ w_398) (hts _ w_233) (hts _ w_234) rfl (by rw [hml]; exact hl.1) rfl dX0_init_1 (Nat.le_of_ble_eq_true rfl) (Nat.le_of_ble_eq_true rfl) ?_
  refine W.eq (g2 := F0 m 4 ls []) rfl ?_
  refine lv_aload_n hx hb dX0_init_4 rfl (lv_at hl 0 rfl) ?_
  refine lv_bipush (v := 32) hx hb dX0_init_5 (by decide) ?_
  refine sNewa (atype := .int) (ty := .int) Cx (N := 32) rfl 0 rfl (fun U h => h) w_294 hW rfl rfl (by decide) rfl (Nat.le_of_ble_eq_true rfl) (Nat.le_of_ble_eq_true rfl) (Nat.le_of_ble_eq_true rfl) dX0_init_7 (fun H hW => ?_)
  refine p_X0_9 Cx hnm hW hL (k := 165) (by decide) rfl dX0_init_9 (fun H locs hW hL => ?_)
  exact sVret Cx hr hlk hW hL rfl dX0_init_12

set_option maxRecDepth 100000 in
set_option maxHeartbeats 4000000 in
theorem t28_X0_init (l : Launch) (G : sG) (S : sS)   : Met l yX0_init (.code yX0_init cX0_init 1 none :: tb) (rmk 1 1 32) (sPc G 168 S [.ref (G.2.2.1 + 167)]) (sQv G 169 (fun u => u = (sR S 167 0 (.ref (G.2.2.1 + 168))))) 1 32 (sF G) := by
  refine sEnter (by decide) (Nat.le_of_ble_eq_true rfl) ?_
  intro p e s m args below meth c Cx hr hlk hnm hW ls hl
  have Cx : sC G p m c cX0_init 1 s args RX0 := Cx
  obtain ⟨hx, hb, hml, hown, hts⟩ := id Cx.1
  have hL : sL G [] := sL_nil
  have hl : lv_has ls 1 [(0, .ref (G.2.2.1 + 167))] := hl
  refine lv_aload_n hx hb dX0_init_0 rfl (lv_at hl 0 rfl) ?_
  refine W.objInit hx hb hown (hts _ w_398) (hts _ w_233) (hts _ w_234) rfl (by rw [hml]; exact hl.1) rfl dX0_init_1 (Nat.le_of_ble_eq_true rfl) (Nat.le_of_ble_eq_true rfl) ?_
  refine W.eq (g2 := F0 m 4 ls []) rfl ?_
  refine lv_aload_n hx hb dX0_init_4 rfl (lv_at hl 0 rfl) ?_
  refine lv_bipush (v := 32) hx hb dX0_init_5 (by decide) ?_
  refine sNewa (atype := .int) (ty := .int) Cx (N := 32) rfl 0 rfl (fun U h => h) w_294 hW rfl rfl (by decide) rfl (Nat.le_of_ble_eq_true rfl) (Nat.le_of_ble_eq_true rfl) (Nat.le_of_ble_eq_true rfl) dX0_init_7 (fun H hW => ?_)
  refine p_X0_9 Cx hnm hW hL (k := 167) (by decide) rfl dX0_init_9 (fun H locs hW hL => ?_)
  exact sVret Cx hr hlk hW hL rfl dX0_init_12

set_option maxRecDepth 100000 in
set_option maxHeartbeats 4000000 in
theorem t29_X0_init (l : Launch) (G : sG) (S : sS)   : Met l yX0_init (.code yX0_init cX0_init 1 none :: tb) (rmk 1 1 32) (sPc G 170 S [.ref (G.2.2.1 + 169)]) (sQv G 171 (fun u => u = (sR S 169 0 (.ref (G.2.2.1 + 170))))) 1 32 (sF G) := by
  refine sEnter (by decide) (Nat.le_of_ble_eq_true rfl) ?_
  intro p e s m args below meth c Cx hr hlk hnm hW ls hl
  have Cx : sC G p m c cX0_init 1 s args RX0 := Cx
  obtain ⟨hx, hb, hml, hown, hts⟩ := id Cx.1
  have hL : sL G [] := sL_nil
  have hl : lv_has ls 1 [(0, .ref (G.2.2.1 + 169))] := hl
  refine lv_aload_n hx hb dX0_init_0 rfl (lv_at hl 0 rfl) ?_
  refine W.objInit hx hb hown (hts _ w_398) (hts _ w_233) (hts _ w_234) rfl (by rw [hml]; exact hl.1) rfl dX0_init_1 (Nat.le_of_ble_eq_true rfl) (Nat.le_of_ble_eq_true rfl) ?_
  refine W.eq (g2 := F0 m 4 ls []) rfl ?_
  refine lv_aload_n hx hb dX0_init_4 rfl (lv_at hl 0 rfl) ?_
  refine lv_bipush (v := 32) hx hb dX0_init_5 (by decide) ?_
  refine sNewa (atype := .int) (ty := .int) Cx (N := 32) rfl 0 rfl (fun U h => h) w_294 hW rfl rfl (by decide) rfl (Nat.le_of_ble_eq_true rfl) (Nat.le_of_ble_eq_true rfl) (Nat.le_of_ble_eq_true rfl) dX0_init_7 (fun H hW => ?_)
  refine p_X0_9 Cx hnm hW hL (k := 169) (by decide) rfl dX0_init_9 (fun H locs hW hL => ?_)
  exact sVret Cx hr hlk hW hL rfl dX0_init_12

set_option maxRecDepth 100000 in
set_option maxHeartbeats 4000000 in
theorem t30_X0_init (l : Launch) (G : sG) (S : sS)   : Met l yX0_init (.code yX0_init cX0_init 1 none :: tb) (rmk 1 1 32) (sPc G 172 S [.ref (G.2.2.1 + 171)]) (sQv G 173 (fun u => u = (sR S 171 0 (.ref (G.2.2.1 + 172))))) 1 32 (sF G) := by
  refine sEnter (by decide) (Nat.le_of_ble_eq_true rfl) ?_
  intro p e s m args below meth c Cx hr hlk hnm hW ls hl
  have Cx : sC G p m c cX0_init 1 s args RX0 := Cx
  obtain ⟨hx, hb, hml, hown, hts⟩ := id Cx.1
  have hL : sL G [] := sL_nil
  have hl : lv_has ls 1 [(0, .ref (G.2.2.1 + 171))] := hl
  refine lv_aload_n hx hb dX0_init_0 rfl (lv_at hl 0 rfl) ?_
  refine W.objInit hx hb hown (hts _ w_398) (hts _ w_233) (hts _ w_234) rfl (by rw [hml]; exact hl.1) rfl dX0_init_1 (Nat.le_of_ble_eq_true rfl) (Nat.le_of_ble_eq_true rfl) ?_
  refine W.eq (g2 := F0 m 4 ls []) rfl ?_
  refine lv_aload_n hx hb dX0_init_4 rfl (lv_at hl 0 rfl) ?_
  refine lv_bipush (v := 32) hx hb dX0_init_5 (by decide) ?_
  refine sNewa (atype := .int) (ty := .int) Cx (N := 32) rfl 0 rfl (fun U h => h) w_294 hW rfl rfl (by decide) rfl (Nat.le_of_ble_eq_true rfl) (Nat.le_of_ble_eq_true rfl) (Nat.le_of_ble_eq_true rfl) dX0_init_7 (fun H hW => ?_)
  refine p_X0_9 Cx hnm hW hL (k := 171) (by decide) rfl dX0_init_9 (fun H locs hW hL => ?_)
  exact sVret Cx hr hlk hW hL rfl dX0_init_12

set_option maxRecDepth 100000 in
set_option maxHeartbeats 4000000 in
theorem t31_X0_init (l : Launch) (G : sG) (S : sS)   : Met l yX0_init (.code yX0_init cX0_init 1 none :: tb) (rmk 1 1 32) (sPc G 174 S [.ref (G.2.2.1 + 173)]) (sQv G 175 (fun u => u = (sR S 173 0 (.ref (G.2.2.1 + 174))))) 1 32 (sF G) := by
  refine sEnter (by decide) (Nat.le_of_ble_eq_true rfl) ?_
  intro p e s m args below meth c Cx hr hlk hnm hW ls hl
  have Cx : sC G p m c cX0_init 1 s args RX0 := Cx
  obtain ⟨hx, hb, hml, hown, hts⟩ := id Cx.1
  have hL : sL G [] := sL_nil
  have hl : lv_has ls 1 [(0, .ref (G.2.2.1 + 173))] := hl
  refine lv_aload_n hx hb dX0_init_0 rfl (lv_at hl 0 rfl) ?_
  refine W.objInit hx hb hown (hts _ w_398) (hts _ w_233) (hts _ w_234) rfl (by rw [hml]; exact hl.1) rfl dX0_init_1 (Nat.le_of_ble_eq_true rfl) (Nat.le_of_ble_eq_true rfl) ?_
  refine W.eq (g2 := F0 m 4 ls []) rfl ?_
  refine lv_aload_n hx hb dX0_init_4 rfl (lv_at hl 0 rfl) ?_
  refine lv_bipush (v := 32) hx hb dX0_init_5 (by decide) ?_
  refine sNewa (atype := .int) (ty := .int) Cx (N := 32) rfl 0 rfl (fun U h => h) w_294 hW rfl rfl (by decide) rfl (Nat.le_of_ble_eq_true rfl) (Nat.le_of_ble_eq_true rfl) (Nat.le_of_ble_eq_true rfl) dX0_init_7 (fun H hW => ?_)
  refine p_X0_9 Cx hnm hW hL (k := 173) (by decide) rfl dX0_init_9 (fun H locs hW hL => ?_)
  exact sVret Cx hr hlk hW hL rfl dX0_init_12

set_option maxRecDepth 100000 in
set_option maxHeartbeats 4000000 in
theorem t32_X0_init (l : Launch) (G : sG) (S : sS)   : Met l yX0_init (.code yX0_init cX0_init 1 none :: tb) (rmk 1 1 32) (sPc G 176 S [.ref (G.2.2.1 + 175)]) (sQv G 177 (fun u => u = (sR S 175 0 (.ref (G.2.2.1 + 176))))) 1 32 (sF G) := by
  refine sEnter (by decide) (Nat.le_of_ble_eq_true rfl) ?_
  intro p e s m args below meth c Cx hr hlk hnm hW ls hl
  have Cx : sC G p m c cX0_init 1 s args RX0 := Cx
  obtain ⟨hx, hb, hml, hown, hts⟩ := id Cx.1
  have hL : sL G [] := sL_nil
  have hl : lv_has ls 1 [(0, .ref (G.2.2.1 + 175))] := hl
  refine lv_aload_n hx hb dX0_init_0 rfl (lv_at hl 0 rfl) ?_
  refine W.objInit hx hb hown (hts _ w_398) (hts _ w_233) (hts _ w_234) rfl (by rw [hml]; exact hl.1) rfl dX0_init_1 (Nat.le_of_ble_eq_true rfl) (Nat.le_of_ble_eq_true rfl) ?_
  refine W.eq (g2 := F0 m 4 ls []) rfl ?_
  refine lv_aload_n hx hb dX0_init_4 rfl (lv_at hl 0 rfl) ?_
  refine lv_bipush (v := 32) hx hb dX0_init_5 (by decide) ?_
  refine sNewa (atype := .int) (ty := .int) Cx (N := 32) rfl 0 rfl (fun U h => h) w_294 hW rfl rfl (by decide) rfl (Nat.le_of_ble_eq_true rfl) (Nat.le_of_ble_eq_true rfl) (Nat.le_of_ble_eq_true rfl) dX0_init_7 (fun H hW => ?_)
  refine p_X0_9 Cx hnm hW hL (k := 175) (by decide) rfl dX0_init_9 (fun H locs hW hL => ?_)
  exact sVret Cx hr hlk hW hL rfl dX0_init_12

set_option maxRecDepth 100000 in
set_option maxHeartbeats 4000000 in
theorem t33_X5_init (l : Launch) (G : sG) (S : sS)   : Met l yX5_init (.code yX5_init cX5_init 1 none :: tb) (rmk 2 19 31863) (sPc G 158 S [.ref (G.2.2.1 + 157)]) (sQv G 177 (fun u => u = (sR (sR (sR (sR (sR (sR (sR (sR (sR (sR (sR (sR (sR (sR (sR (sR (sR (sR (sR S 158 0 (.ref (G.2.2.1 + 159))) 157 0 (.ref (G.2.2.1 + 158))) 160 0 (.ref (G.2.2.1 + 161))) 157 1 (.ref (G.2.2.1 + 160))) 157 2 (.ref (G.2.2.1 + 162))) 163 0 (.ref (G.2.2.1 + 164))) 157 3 (.ref (G.2.2.1 + 163))) 165 0 (.ref (G.2.2.1 + 166))) 157 4 (.ref (G.2.2.1 + 165))) 167 0 (.ref (G.2.2.1 + 168))) 157 5 (.ref (G.2.2.1 + 167))) 169 0 (.ref (G.2.2.1 + 170))) 157 6 (.ref (G.2.2.1 + 169))) 171 0 (.ref (G.2.2.1 + 172))) 157 7 (.ref (G.2.2.1 + 171))) 173 0 (.ref (G.2.2.1 + 174))) 157 8 (.ref (G.2.2.1 + 173))) 175 0 (.ref (G.2.2.1 + 176))) 157 9 (.ref (G.2.2.1 + 175))))) 19 31863 (sF G) := by
  refine sEnter (by decide) (Nat.le_of_ble_eq_true rfl) ?_
  intro p e s m args below meth c Cx hr hlk hnm hW ls hl
  have Cx : sC G p m c cX5_init 1 s args RX5 := Cx
  obtain ⟨hx, hb, hml, hown, hts⟩ := id Cx.1
  have hL : sL G [] := sL_nil
  have hl : lv_has ls 1 [(0, .ref (G.2.2.1 + 157))] := hl
  refine lv_aload_n hx hb dX5_init_0 rfl (lv_at hl 0 rfl) ?_
  refine W.objInit hx hb hown (hts _ w_522) (hts _ w_233) (hts _ w_234) rfl (by rw [hml]; exact hl.1) rfl dX5_init_1 (Nat.le_of_ble_eq_true rfl) (Nat.le_of_ble_eq_true rfl) ?_
  refine W.eq (g2 := F0 m 4 ls []) rfl ?_
  refine lv_aload_n hx hb dX5_init_4 rfl (lv_at hl 0 rfl) ?_
  refine n_X5_9 Cx hW rfl (Nat.le_of_ble_eq_true rfl) (Nat.le_of_ble_eq_true rfl) dX5_init_5 (fun H hW => ?_)
  refine lv_dup hx hb dX5_init_8 rfl ?_
  refine lv_sipush (v := 1500) hx hb dX5_init_9 (by decide) ?_
  refine sBv (sIn (As := [.int 1500]) (rest := [.ref (G.2.2.1 + 158), .ref (G.2.2.1 + 157)]) (k := 158) Cx (t24_X10_init l G S) (c_X5_13 Cx rfl rfl ⟨Nat.le_of_ble_eq_true rfl, Nat.le_of_ble_eq_true rfl⟩) hW rfl hl.1 rfl (Nat.le_of_ble_eq_true rfl) dX5_init_12 ⟨Nat.le_of_ble_eq_true rfl, Nat.le_of_ble_eq_true rfl⟩) hL (fun u H locs hq hW hL => ?_)
  subst hq
  refine p_X5_16 Cx hnm hW hL (k := 157) (by decide) rfl dX5_init_15 (fun H locs hW hL => ?_)
  refine lv_aload_n hx hb dX5_init_18 rfl (lv_at hl 0 rfl) ?_
  refine n_X5_9 Cx hW rfl (Nat.le_of_ble_eq_true rfl) (Nat.le_of_ble_eq_true rfl) dX5_init_19 (fun H hW => ?_)
  refine lv_dup hx hb dX5_init_22 rfl ?_
  refine lv_sipush (v := 30000) hx hb dX5_init_23 (by decide) ?_
  refine sBv (sIn (As := [.int 30000]) (rest := [.ref (G.2.2.1 + 160), .ref (G.2.2.1 + 157)]) (k := 160) Cx (t25_X10_init l G (sR (sR S 158 0 (.ref (G.2.2.1 + 159))) 157 0 (.ref (G.2.2.1 + 158)))) (c_X5_13 Cx rfl rfl ⟨Nat.le_of_ble_eq_true rfl, Nat.le_of_ble_eq_true rfl⟩) hW rfl hl.1 rfl (Nat.le_of_ble_eq_true rfl) dX5_init_26 ⟨Nat.le_of_ble_eq_true rfl, Nat.le_of_ble_eq_true rfl⟩) hL (fun u H locs hq hW hL => ?_)
  subst hq
  refine p_X5_20 Cx hnm hW hL (k := 157) (by decide) rfl dX5_init_29 (fun H locs hW hL => ?_)
  refine lv_aload_n hx hb dX5_init_32 rfl (lv_at hl 0 rfl) ?_
  refine lv_bipush (v := 112) hx hb dX5_init_33 (by decide) ?_
  refine sNewa (atype := .int) (ty := .int) Cx (N := 112) rfl 0 rfl (fun U h => h) w_294 hW rfl rfl (by decide) rfl (Nat.le_of_ble_eq_true rfl) (Nat.le_of_ble_eq_true rfl) (Nat.le_of_ble_eq_true rfl) dX5_init_35 (fun H hW => ?_)
  refine p_X5_25 Cx hnm hW hL (k := 157) (by decide) rfl dX5_init_37 (fun H locs hW hL => ?_)
  refine lv_aload_n hx hb dX5_init_40 rfl (lv_at hl 0 rfl) ?_
  refine n_X5_23 Cx hW rfl (Nat.le_of_ble_eq_true rfl) (Nat.le_of_ble_eq_true rfl) dX5_init_41 (fun H hW => ?_)
  refine lv_dup hx hb dX5_init_44 rfl ?_
  refine sBv (sInN (As := []) (rest := [.ref (G.2.2.1 + 163), .ref (G.2.2.1 + 157)]) (k := 163) Cx (t26_X0_init l G (sR (sR (sR (sR (sR S 158 0 (.ref (G.2.2.1 + 159))) 157 0 (.ref (G.2.2.1 + 158))) 160 0 (.ref (G.2.2.1 + 161))) 157 1 (.ref (G.2.2.1 + 160))) 157 2 (.ref (G.2.2.1 + 162)))) (c_X5_29 Cx rfl rfl ⟨Nat.le_of_ble_eq_true rfl, Nat.le_of_ble_eq_true rfl⟩) hW rfl hl.1 rfl (Nat.le_of_ble_eq_true rfl) dX5_init_45 ⟨Nat.le_of_ble_eq_true rfl, Nat.le_of_ble_eq_true rfl⟩) hL (fun u H locs hq hW hL => ?_)
  subst hq
  refine p_X5_30 Cx hnm hW hL (k := 157) (by decide) rfl dX5_init_48 (fun H locs hW hL => ?_)
  refine lv_aload_n hx hb dX5_init_51 rfl (lv_at hl 0 rfl) ?_
  refine n_X5_23 Cx hW rfl (Nat.le_of_ble_eq_true rfl) (Nat.le_of_ble_eq_true rfl) dX5_init_52 (fun H hW => ?_)
  refine lv_dup hx hb dX5_init_55 rfl ?_
  refine sBv (sInN (As := []) (rest := [.ref (G.2.2.1 + 165), .ref (G.2.2.1 + 157)]) (k := 165) Cx (t27_X0_init l G (sR (sR (sR (sR (sR (sR (sR S 158 0 (.ref (G.2.2.1 + 159))) 157 0 (.ref (G.2.2.1 + 158))) 160 0 (.ref (G.2.2.1 + 161))) 157 1 (.ref (G.2.2.1 + 160))) 157 2 (.ref (G.2.2.1 + 162))) 163 0 (.ref (G.2.2.1 + 164))) 157 3 (.ref (G.2.2.1 + 163)))) (c_X5_29 Cx rfl rfl ⟨Nat.le_of_ble_eq_true rfl, Nat.le_of_ble_eq_true rfl⟩) hW rfl hl.1 rfl (Nat.le_of_ble_eq_true rfl) dX5_init_56 ⟨Nat.le_of_ble_eq_true rfl, Nat.le_of_ble_eq_true rfl⟩) hL (fun u H locs hq hW hL => ?_)
  subst hq
  refine p_X5_34 Cx hnm hW hL (k := 157) (by decide) rfl dX5_init_59 (fun H locs hW hL => ?_)
  refine lv_aload_n hx hb dX5_init_62 rfl (lv_at hl 0 rfl) ?_
  refine n_X5_23 Cx hW rfl (Nat.le_of_ble_eq_true rfl) (Nat.le_of_ble_eq_true rfl) dX5_init_63 (fun H hW => ?_)
  refine lv_dup hx hb dX5_init_66 rfl ?_
  refine sBv (sInN (As := []) (rest := [.ref (G.2.2.1 + 167), .ref (G.2.2.1 + 157)]) (k := 167) Cx (t28_X0_init l G (sR (sR (sR (sR (sR (sR (sR (sR (sR S 158 0 (.ref (G.2.2.1 + 159))) 157 0 (.ref (G.2.2.1 + 158))) 160 0 (.ref (G.2.2.1 + 161))) 157 1 (.ref (G.2.2.1 + 160))) 157 2 (.ref (G.2.2.1 + 162))) 163 0 (.ref (G.2.2.1 + 164))) 157 3 (.ref (G.2.2.1 + 163))) 165 0 (.ref (G.2.2.1 + 166))) 157 4 (.ref (G.2.2.1 + 165)))) (c_X5_29 Cx rfl rfl ⟨Nat.le_of_ble_eq_true rfl, Nat.le_of_ble_eq_true rfl⟩) hW rfl hl.1 rfl (Nat.le_of_ble_eq_true rfl) dX5_init_67 ⟨Nat.le_of_ble_eq_true rfl, Nat.le_of_ble_eq_true rfl⟩) hL (fun u H locs hq hW hL => ?_)
  subst hq
  refine p_X5_37 Cx hnm hW hL (k := 157) (by decide) rfl dX5_init_70 (fun H locs hW hL => ?_)
  refine lv_aload_n hx hb dX5_init_73 rfl (lv_at hl 0 rfl) ?_
  refine n_X5_23 Cx hW rfl (Nat.le_of_ble_eq_true rfl) (Nat.le_of_ble_eq_true rfl) dX5_init_74 (fun H hW => ?_)
  refine lv_dup hx hb dX5_init_77 rfl ?_
  refine sBv (sInN (As := []) (rest := [.ref (G.2.2.1 + 169), .ref (G.2.2.1 + 157)]) (k := 169) Cx (t29_X0_init l G (sR (sR (sR (sR (sR (sR (sR (sR (sR (sR (sR S 158 0 (.ref (G.2.2.1 + 159))) 157 0 (.ref (G.2.2.1 + 158))) 160 0 (.ref (G.2.2.1 + 161))) 157 1 (.ref (G.2.2.1 + 160))) 157 2 (.ref (G.2.2.1 + 162))) 163 0 (.ref (G.2.2.1 + 164))) 157 3 (.ref (G.2.2.1 + 163))) 165 0 (.ref (G.2.2.1 + 166))) 157 4 (.ref (G.2.2.1 + 165))) 167 0 (.ref (G.2.2.1 + 168))) 157 5 (.ref (G.2.2.1 + 167)))) (c_X5_29 Cx rfl rfl ⟨Nat.le_of_ble_eq_true rfl, Nat.le_of_ble_eq_true rfl⟩) hW rfl hl.1 rfl (Nat.le_of_ble_eq_true rfl) dX5_init_78 ⟨Nat.le_of_ble_eq_true rfl, Nat.le_of_ble_eq_true rfl⟩) hL (fun u H locs hq hW hL => ?_)
  subst hq
  refine p_X5_40 Cx hnm hW hL (k := 157) (by decide) rfl dX5_init_81 (fun H locs hW hL => ?_)
  refine lv_aload_n hx hb dX5_init_84 rfl (lv_at hl 0 rfl) ?_
  refine n_X5_23 Cx hW rfl (Nat.le_of_ble_eq_true rfl) (Nat.le_of_ble_eq_true rfl) dX5_init_85 (fun H hW => ?_)
  refine lv_dup hx hb dX5_init_88 rfl ?_
  refine sBv (sInN (As := []) (rest := [.ref (G.2.2.1 + 171), .ref (G.2.2.1 + 157)]) (k := 171) Cx (t30_X0_init l G (sR (sR (sR (sR (sR (sR (sR (sR (sR (sR (sR (sR (sR S 158 0 (.ref (G.2.2.1 + 159))) 157 0 (.ref (G.2.2.1 + 158))) 160 0 (.ref (G.2.2.1 + 161))) 157 1 (.ref (G.2.2.1 + 160))) 157 2 (.ref (G.2.2.1 + 162))) 163 0 (.ref (G.2.2.1 + 164))) 157 3 (.ref (G.2.2.1 + 163))) 165 0 (.ref (G.2.2.1 + 166))) 157 4 (.ref (G.2.2.1 + 165))) 167 0 (.ref (G.2.2.1 + 168))) 157 5 (.ref (G.2.2.1 + 167))) 169 0 (.ref (G.2.2.1 + 170))) 157 6 (.ref (G.2.2.1 + 169)))) (c_X5_29 Cx rfl rfl ⟨Nat.le_of_ble_eq_true rfl, Nat.le_of_ble_eq_true rfl⟩) hW rfl hl.1 rfl (Nat.le_of_ble_eq_true rfl) dX5_init_89 ⟨Nat.le_of_ble_eq_true rfl, Nat.le_of_ble_eq_true rfl⟩) hL (fun u H locs hq hW hL => ?_)
  subst hq
  refine p_X5_43 Cx hnm hW hL (k := 157) (by decide) rfl dX5_init_92 (fun H locs hW hL => ?_)
  refine lv_aload_n hx hb dX5_init_95 rfl (lv_at hl 0 rfl) ?_
  refine n_X5_23 Cx hW rfl (Nat.le_of_ble_eq_true rfl) (Nat.le_of_ble_eq_true rfl) dX5_init_96 (fun H hW => ?_)
  refine lv_dup hx hb dX5_init_99 rfl ?_
  refine sBv (sInN (As := []) (rest := [.ref (G.2.2.1 + 173), .ref (G.2.2.1 + 157)]) (k := 173) Cx (t31_X0_init l G (sR (sR (sR (sR (sR (sR (sR (sR (sR (sR (sR (sR (sR (sR (sR S 158 0 (.ref (G.2.2.1 + 159))) 157 0 (.ref (G.2.2.1 + 158))) 160 0 (.ref (G.2.2.1 + 161))) 157 1 (.ref (G.2.2.1 + 160))) 157 2 (.ref (G.2.2.1 + 162))) 163 0 (.ref (G.2.2.1 + 164))) 157 3 (.ref (G.2.2.1 + 163))) 165 0 (.ref (G.2.2.1 + 166))) 157 4 (.ref (G.2.2.1 + 165))) 167 0 (.ref (G.2.2.1 + 168))) 157 5 (.ref (G.2.2.1 + 167))) 169 0 (.ref (G.2.2.1 + 170))) 157 6 (.ref (G.2.2.1 + 169))) 171 0 (.ref (G.2.2.1 + 172))) 157 7 (.ref (G.2.2.1 + 171)))) (c_X5_29 Cx rfl rfl ⟨Nat.le_of_ble_eq_true rfl, Nat.le_of_ble_eq_true rfl⟩) hW rfl hl.1 rfl (Nat.le_of_ble_eq_true rfl) dX5_init_100 ⟨Nat.le_of_ble_eq_true rfl, Nat.le_of_ble_eq_true rfl⟩) hL (fun u H locs hq hW hL => ?_)
  subst hq
  refine p_X5_46 Cx hnm hW hL (k := 157) (by decide) rfl dX5_init_103 (fun H locs hW hL => ?_)
  refine lv_aload_n hx hb dX5_init_106 rfl (lv_at hl 0 rfl) ?_
  refine n_X5_23 Cx hW rfl (Nat.le_of_ble_eq_true rfl) (Nat.le_of_ble_eq_true rfl) dX5_init_107 (fun H hW => ?_)
  refine lv_dup hx hb dX5_init_110 rfl ?_
  refine sBv (sInN (As := []) (rest := [.ref (G.2.2.1 + 175), .ref (G.2.2.1 + 157)]) (k := 175) Cx (t32_X0_init l G (sR (sR (sR (sR (sR (sR (sR (sR (sR (sR (sR (sR (sR (sR (sR (sR (sR S 158 0 (.ref (G.2.2.1 + 159))) 157 0 (.ref (G.2.2.1 + 158))) 160 0 (.ref (G.2.2.1 + 161))) 157 1 (.ref (G.2.2.1 + 160))) 157 2 (.ref (G.2.2.1 + 162))) 163 0 (.ref (G.2.2.1 + 164))) 157 3 (.ref (G.2.2.1 + 163))) 165 0 (.ref (G.2.2.1 + 166))) 157 4 (.ref (G.2.2.1 + 165))) 167 0 (.ref (G.2.2.1 + 168))) 157 5 (.ref (G.2.2.1 + 167))) 169 0 (.ref (G.2.2.1 + 170))) 157 6 (.ref (G.2.2.1 + 169))) 171 0 (.ref (G.2.2.1 + 172))) 157 7 (.ref (G.2.2.1 + 171))) 173 0 (.ref (G.2.2.1 + 174))) 157 8 (.ref (G.2.2.1 + 173)))) (c_X5_29 Cx rfl rfl ⟨Nat.le_of_ble_eq_true rfl, Nat.le_of_ble_eq_true rfl⟩) hW rfl hl.1 rfl (Nat.le_of_ble_eq_true rfl) dX5_init_111 ⟨Nat.le_of_ble_eq_true rfl, Nat.le_of_ble_eq_true rfl⟩) hL (fun u H locs hq hW hL => ?_)
  subst hq
  refine p_X5_49 Cx hnm hW hL (k := 157) (by decide) rfl dX5_init_114 (fun H locs hW hL => ?_)
  exact sVret Cx hr hlk hW hL rfl dX5_init_117

set_option maxRecDepth 100000 in
set_option maxHeartbeats 4000000 in
theorem t34_X0_init (l : Launch) (G : sG) (S : sS)   : Met l yX0_init (.code yX0_init cX0_init 1 none :: tb) (rmk 1 1 32) (sPc G 178 S [.ref (G.2.2.1 + 177)]) (sQv G 179 (fun u => u = (sR S 177 0 (.ref (G.2.2.1 + 178))))) 1 32 (sF G) := by
  refine sEnter (by decide) (Nat.le_of_ble_eq_true rfl) ?_
  intro p e s m args below meth c Cx hr hlk hnm hW ls hl
  have Cx : sC G p m c cX0_init 1 s args RX0 := Cx
  obtain ⟨hx, hb, hml, hown, hts⟩ := id Cx.1
  have hL : sL G [] := sL_nil
  have hl : lv_has ls 1 [(0, .ref (G.2.2.1 + 177))] := hl
  refine lv_aload_n hx hb dX0_init_0 rfl (lv_at hl 0 rfl) ?_
  refine W.objInit hx hb hown (hts _ w_398) (hts _ w_233) (hts _ w_234) rfl (by rw [hml]; exact hl.1) rfl dX0_init_1 (Nat.le_of_ble_eq_true rfl) (Nat.le_of_ble_eq_true rfl) ?_
  refine W.eq (g2 := F0 m 4 ls []) rfl ?_
  refine lv_aload_n hx hb dX0_init_4 rfl (lv_at hl 0 rfl) ?_
  refine lv_bipush (v := 32) hx hb dX0_init_5 (by decide) ?_
  refine sNewa (atype := .int) (ty := .int) Cx (N := 32) rfl 0 rfl (fun U h => h) w_294 hW rfl rfl (by decide) rfl (Nat.le_of_ble_eq_true rfl) (Nat.le_of_ble_eq_true rfl) (Nat.le_of_ble_eq_true rfl) dX0_init_7 (fun H hW => ?_)
  refine p_X0_9 Cx hnm hW hL (k := 177) (by decide) rfl dX0_init_9 (fun H locs hW hL => ?_)
  exact sVret Cx hr hlk hW hL rfl dX0_init_12

set_option maxRecDepth 100000 in
set_option maxHeartbeats 4000000 in
theorem t35_X0_init (l : Launch) (G : sG) (S : sS)   : Met l yX0_init (.code yX0_init cX0_init 1 none :: tb) (rmk 1 1 32) (sPc G 180 S [.ref (G.2.2.1 + 179)]) (sQv G 181 (fun u => u = (sR S 179 0 (.ref (G.2.2.1 + 180))))) 1 32 (sF G) := by
  refine sEnter (by decide) (Nat.le_of_ble_eq_true rfl) ?_
  intro p e s m args below meth c Cx hr hlk hnm hW ls hl
  have Cx : sC G p m c cX0_init 1 s args RX0 := Cx
  obtain ⟨hx, hb, hml, hown, hts⟩ := id Cx.1
  have hL : sL G [] := sL_nil
  have hl : lv_has ls 1 [(0, .ref (G.2.2.1 + 179))] := hl
  refine lv_aload_n hx hb dX0_init_0 rfl (lv_at hl 0 rfl) ?_
  refine W.objInit hx hb hown (hts _ w_398) (hts _ w_233) (hts _ w_234) rfl (by rw [hml]; exact hl.1) rfl dX0_init_1 (Nat.le_of_ble_eq_true rfl) (Nat.le_of_ble_eq_true rfl) ?_
  refine W.eq (g2 := F0 m 4 ls []) rfl ?_
  refine lv_aload_n hx hb dX0_init_4 rfl (lv_at hl 0 rfl) ?_
  refine lv_bipush (v := 32) hx hb dX0_init_5 (by decide) ?_
  refine sNewa (atype := .int) (ty := .int) Cx (N := 32) rfl 0 rfl (fun U h => h) w_294 hW rfl rfl (by decide) rfl (Nat.le_of_ble_eq_true rfl) (Nat.le_of_ble_eq_true rfl) (Nat.le_of_ble_eq_true rfl) dX0_init_7 (fun H hW => ?_)
  refine p_X0_9 Cx hnm hW hL (k := 179) (by decide) rfl dX0_init_9 (fun H locs hW hL => ?_)
  exact sVret Cx hr hlk hW hL rfl dX0_init_12

set_option maxRecDepth 100000 in
set_option maxHeartbeats 4000000 in
theorem t36_X0_init (l : Launch) (G : sG) (S : sS)   : Met l yX0_init (.code yX0_init cX0_init 1 none :: tb) (rmk 1 1 32) (sPc G 182 S [.ref (G.2.2.1 + 181)]) (sQv G 183 (fun u => u = (sR S 181 0 (.ref (G.2.2.1 + 182))))) 1 32 (sF G) := by
  refine sEnter (by decide) (Nat.le_of_ble_eq_true rfl) ?_
  intro p e s m args below meth c Cx hr hlk hnm hW ls hl
  have Cx : sC G p m c cX0_init 1 s args RX0 := Cx
  obtain ⟨hx, hb, hml, hown, hts⟩ := id Cx.1
  have hL : sL G [] := sL_nil
  have hl : lv_has ls 1 [(0, .ref (G.2.2.1 + 181))] := hl
  refine lv_aload_n hx hb dX0_init_0 rfl (lv_at hl 0 rfl) ?_
  refine W.objInit hx hb hown (hts _ w_398) (hts _ w_233) (hts _ w_234) rfl (by rw [hml]; exact hl.1) rfl dX0_init_1 (Nat.le_of_ble_eq_true rfl) (Nat.le_of_ble_eq_true rfl) ?_
  refine W.eq (g2 := F0 m 4 ls []) rfl ?_
  refine lv_aload_n hx hb dX0_init_4 rfl (lv_at hl 0 rfl) ?_
  refine lv_bipush (v := 32) hx hb dX0_init_5 (by decide) ?_
  refine sNewa (atype := .int) (ty := .int) Cx (N := 32) rfl 0 rfl (fun U h => h) w_294 hW rfl rfl (by decide) rfl (Nat.le_of_ble_eq_true rfl) (Nat.le_of_ble_eq_true rfl) (Nat.le_of_ble_eq_true rfl) dX0_init_7 (fun H hW => ?_)
  refine p_X0_9 Cx hnm hW hL (k := 181) (by decide) rfl dX0_init_9 (fun H locs hW hL => ?_)
  exact sVret Cx hr hlk hW hL rfl dX0_init_12

set_option maxRecDepth 100000 in
set_option maxHeartbeats 4000000 in
theorem t37_X0_init (l : Launch) (G : sG) (S : sS)   : Met l yX0_init (.code yX0_init cX0_init 1 none :: tb) (rmk 1 1 32) (sPc G 184 S [.ref (G.2.2.1 + 183)]) (sQv G 185 (fun u => u = (sR S 183 0 (.ref (G.2.2.1 + 184))))) 1 32 (sF G) := by
  refine sEnter (by decide) (Nat.le_of_ble_eq_true rfl) ?_
  intro p e s m args below meth c Cx hr hlk hnm hW ls hl
  have Cx : sC G p m c cX0_init 1 s args RX0 := Cx
  obtain ⟨hx, hb, hml, hown, hts⟩ := id Cx.1
  have hL : sL G [] := sL_nil
  have hl : lv_has ls 1 [(0, .ref (G.2.2.1 + 183))] := hl
  refine lv_aload_n hx hb dX0_init_0 rfl (lv_at hl 0 rfl) ?_
  refine W.objInit hx hb hown (hts _ w_398) (hts _ w_233) (hts _ w_234) rfl (by rw [hml]; exact hl.1) rfl dX0_init_1 (Nat.le_of_ble_eq_true rfl) (Nat.le_of_ble_eq_true rfl) ?_
  refine W.eq (g2 := F0 m 4 ls []) rfl ?_
  refine lv_aload_n hx hb dX0_init_4 rfl (lv_at hl 0 rfl) ?_
  refine lv_bipush (v := 32) hx hb dX0_init_5 (by decide) ?_
  refine sNewa (atype := .int) (ty := .int) Cx (N := 32) rfl 0 rfl (fun U h => h) w_294 hW rfl rfl (by decide) rfl (Nat.le_of_ble_eq_true rfl) (Nat.le_of_ble_eq_true rfl) (Nat.le_of_ble_eq_true rfl) dX0_init_7 (fun H hW => ?_)
  refine p_X0_9 Cx hnm hW hL (k := 183) (by decide) rfl dX0_init_9 (fun H locs hW hL => ?_)
  exact sVret Cx hr hlk hW hL rfl dX0_init_12

set_option maxRecDepth 100000 in
set_option maxHeartbeats 4000000 in
theorem t38_X3_init (l : Launch) (G : sG) (S : sS)   : Met l yX3_init (.code yX3_init cX3_init 1 none :: tb) (rmk 1 2 234) (sPc G 186 S [.ref (G.2.2.1 + 185)]) (sQv G 188 (fun u => u = (sR (sR S 185 0 (.ref (G.2.2.1 + 186))) 185 1 (.ref (G.2.2.1 + 187))))) 2 234 (sF G) := by
  refine sEnter (by decide) (Nat.le_of_ble_eq_true rfl) ?_
  intro p e s m args below meth c Cx hr hlk hnm hW ls hl
  have Cx : sC G p m c cX3_init 1 s args RX3 := Cx
  obtain ⟨hx, hb, hml, hown, hts⟩ := id Cx.1
  have hL : sL G [] := sL_nil
  have hl : lv_has ls 1 [(0, .ref (G.2.2.1 + 185))] := hl
  refine lv_aload_n hx hb dX3_init_0 rfl (lv_at hl 0 rfl) ?_
  refine W.objInit hx hb hown (hts _ w_260) (hts _ w_233) (hts _ w_234) rfl (by rw [hml]; exact hl.1) rfl dX3_init_1 (Nat.le_of_ble_eq_true rfl) (Nat.le_of_ble_eq_true rfl) ?_
  refine W.eq (g2 := F0 m 4 ls []) rfl ?_
  refine lv_aload_n hx hb dX3_init_4 rfl (lv_at hl 0 rfl) ?_
  refine lv_sipush (v := 221) hx hb dX3_init_5 (by decide) ?_
  refine sNewa (atype := .int) (ty := .int) Cx (N := 221) rfl 0 rfl (fun U h => h) w_294 hW rfl rfl (by decide) rfl (Nat.le_of_ble_eq_true rfl) (Nat.le_of_ble_eq_true rfl) (Nat.le_of_ble_eq_true rfl) dX3_init_8 (fun H hW => ?_)
  refine p_X3_11 Cx hnm hW hL (k := 185) (by decide) rfl dX3_init_10 (fun H locs hW hL => ?_)
  refine lv_aload_n hx hb dX3_init_13 rfl (lv_at hl 0 rfl) ?_
  refine lv_bipush (v := 13) hx hb dX3_init_14 (by decide) ?_
  refine sNewa (atype := .boolean) (ty := .boolean) Cx (N := 13) rfl 3 rfl (fun U h => h) w_295 hW rfl rfl (by decide) rfl (Nat.le_of_ble_eq_true rfl) (Nat.le_of_ble_eq_true rfl) (Nat.le_of_ble_eq_true rfl) dX3_init_16 (fun H hW => ?_)
  refine p_X3_15 Cx hnm hW hL (k := 185) (by decide) rfl dX3_init_18 (fun H locs hW hL => ?_)
  exact sVret Cx hr hlk hW hL rfl dX3_init_21

set_option maxRecDepth 100000 in
set_option maxHeartbeats 4000000 in
theorem t39_X7_init (l : Launch) (G : sG) (S : sS)   : Met l yX7_init (.code yX7_init cX7_init 1 none :: tb) (rmk 3 68 149271) (sPc G 120 S [.ref (G.2.2.1 + 119)]) (sQv G 188 (fun u => u = (sR (sR (sR (sR (sR (sR (sR (sR (sR (sR (sR (sR (sR (sR (sR (sR (sR (sR (sR (sR (sR (sR (sR (sR (sR (sR (sR (sR (sR (sR (sR (sR (sR (sR (sR (sR (sR (sR (sR (sR (sR (sR (sR (sR (sR (sR (sR (sR (sR (sR (sR (sR (sR (sR (sR (sR (sR (sR (sR (sR (sR (sR (sR (sR (sR (sR (sR (sR S 120 0 (.ref (G.2.2.1 + 121))) 120 1 (.ref (G.2.2.1 + 122))) 123 0 (.ref (G.2.2.1 + 124))) 120 2 (.ref (G.2.2.1 + 123))) 125 0 (.ref (G.2.2.1 + 126))) 120 3 (.ref (G.2.2.1 + 125))) 127 0 (.ref (G.2.2.1 + 128))) 120 4 (.ref (G.2.2.1 + 127))) 129 0 (.ref (G.2.2.1 + 130))) 120 5 (.ref (G.2.2.1 + 129))) 131 0 (.ref (G.2.2.1 + 132))) 120 6 (.ref (G.2.2.1 + 131))) 133 0 (.ref (G.2.2.1 + 134))) 120 7 (.ref (G.2.2.1 + 133))) 119 0 (.ref (G.2.2.1 + 120))) 135 0 (.ref (G.2.2.1 + 136))) 135 1 (.ref (G.2.2.1 + 137))) 135 2 (.ref (G.2.2.1 + 138))) 135 3 (.ref (G.2.2.1 + 139))) 135 4 (.ref (G.2.2.1 + 140))) 141 0 (.ref (G.2.2.1 + 142))) 135 5 (.ref (G.2.2.1 + 141))) 143 0 (.ref (G.2.2.1 + 144))) 135 6 (.ref (G.2.2.1 + 143))) 145 0 (.ref (G.2.2.1 + 146))) 135 7 (.ref (G.2.2.1 + 145))) 147 0 (.ref (G.2.2.1 + 148))) 135 8 (.ref (G.2.2.1 + 147))) 149 0 (.ref (G.2.2.1 + 150))) 135 9 (.ref (G.2.2.1 + 149))) 151 0 (.ref (G.2.2.1 + 152))) 135 10 (.ref (G.2.2.1 + 151))) 153 0 (.ref (G.2.2.1 + 154))) 135 11 (.ref (G.2.2.1 + 153))) 155 0 (.ref (G.2.2.1 + 156))) 135 12 (.ref (G.2.2.1 + 155))) 119 1 (.ref (G.2.2.1 + 135))) 158 0 (.ref (G.2.2.1 + 159))) 157 0 (.ref (G.2.2.1 + 158))) 160 0 (.ref (G.2.2.1 + 161))) 157 1 (.ref (G.2.2.1 + 160))) 157 2 (.ref (G.2.2.1 + 162))) 163 0 (.ref (G.2.2.1 + 164))) 157 3 (.ref (G.2.2.1 + 163))) 165 0 (.ref (G.2.2.1 + 166))) 157 4 (.ref (G.2.2.1 + 165))) 167 0 (.ref (G.2.2.1 + 168))) 157 5 (.ref (G.2.2.1 + 167))) 169 0 (.ref (G.2.2.1 + 170))) 157 6 (.ref (G.2.2.1 + 169))) 171 0 (.ref (G.2.2.1 + 172))) 157 7 (.ref (G.2.2.1 + 171))) 173 0 (.ref (G.2.2.1 + 174))) 157 8 (.ref (G.2.2.1 + 173))) 175 0 (.ref (G.2.2.1 + 176))) 157 9 (.ref (G.2.2.1 + 175))) 119 2 (.ref (G.2.2.1 + 157))) 177 0 (.ref (G.2.2.1 + 178))) 119 3 (.ref (G.2.2.1 + 177))) 179 0 (.ref (G.2.2.1 + 180))) 119 4 (.ref (G.2.2.1 + 179))) 181 0 (.ref (G.2.2.1 + 182))) 119 5 (.ref (G.2.2.1 + 181))) 183 0 (.ref (G.2.2.1 + 184))) 119 6 (.ref (G.2.2.1 + 183))) 185 0 (.ref (G.2.2.1 + 186))) 185 1 (.ref (G.2.2.1 + 187))) 119 7 (.ref (G.2.2.1 + 185))))) 68 149271 (sF G) := by
  refine sEnter (by decide) (Nat.le_of_ble_eq_true rfl) ?_
  intro p e s m args below meth c Cx hr hlk hnm hW ls hl
  have Cx : sC G p m c cX7_init 1 s args RX7 := Cx
  obtain ⟨hx, hb, hml, hown, hts⟩ := id Cx.1
  have hL : sL G [] := sL_nil
  have hl : lv_has ls 1 [(0, .ref (G.2.2.1 + 119))] := hl
  refine lv_aload_n hx hb dX7_init_0 rfl (lv_at hl 0 rfl) ?_
  refine W.objInit hx hb hown (hts _ w_386) (hts _ w_233) (hts _ w_234) rfl (by rw [hml]; exact hl.1) rfl dX7_init_1 (Nat.le_of_ble_eq_true rfl) (Nat.le_of_ble_eq_true rfl) ?_
  refine W.eq (g2 := F0 m 4 ls []) rfl ?_
  refine lv_aload_n hx hb dX7_init_4 rfl (lv_at hl 0 rfl) ?_
  refine n_X7_9 Cx hW rfl (Nat.le_of_ble_eq_true rfl) (Nat.le_of_ble_eq_true rfl) dX7_init_5 (fun H hW => ?_)
  refine lv_dup hx hb dX7_init_8 rfl ?_
  refine sBv (sInN (As := []) (rest := [.ref (G.2.2.1 + 120), .ref (G.2.2.1 + 119)]) (k := 120) Cx (t14_X6_init l G S) (c_X7_11 Cx rfl rfl ⟨Nat.le_of_ble_eq_true rfl, Nat.le_of_ble_eq_true rfl⟩) hW rfl hl.1 rfl (Nat.le_of_ble_eq_true rfl) dX7_init_9 ⟨Nat.le_of_ble_eq_true rfl, Nat.le_of_ble_eq_true rfl⟩) hL (fun u H locs hq hW hL => ?_)
  subst hq
  refine p_X7_12 Cx hnm hW hL (k := 119) (by decide) rfl dX7_init_12 (fun H locs hW hL => ?_)
  refine lv_aload_n hx hb dX7_init_15 rfl (lv_at hl 0 rfl) ?_
  refine n_X7_18 Cx hW rfl (Nat.le_of_ble_eq_true rfl) (Nat.le_of_ble_eq_true rfl) dX7_init_16 (fun H hW => ?_)
  refine lv_dup hx hb dX7_init_19 rfl ?_
  refine sBv (sInN (As := []) (rest := [.ref (G.2.2.1 + 135), .ref (G.2.2.1 + 119)]) (k := 135) Cx (t23_X2_init l G (sR (sR (sR (sR (sR (sR (sR (sR (sR (sR (sR (sR (sR (sR (sR S 120 0 (.ref (G.2.2.1 + 121))) 120 1 (.ref (G.2.2.1 + 122))) 123 0 (.ref (G.2.2.1 + 124))) 120 2 (.ref (G.2.2.1 + 123))) 125 0 (.ref (G.2.2.1 + 126))) 120 3 (.ref (G.2.2.1 + 125))) 127 0 (.ref (G.2.2.1 + 128))) 120 4 (.ref (G.2.2.1 + 127))) 129 0 (.ref (G.2.2.1 + 130))) 120 5 (.ref (G.2.2.1 + 129))) 131 0 (.ref (G.2.2.1 + 132))) 120 6 (.ref (G.2.2.1 + 131))) 133 0 (.ref (G.2.2.1 + 134))) 120 7 (.ref (G.2.2.1 + 133))) 119 0 (.ref (G.2.2.1 + 120)))) (c_X7_20 Cx rfl rfl ⟨Nat.le_of_ble_eq_true rfl, Nat.le_of_ble_eq_true rfl⟩) hW rfl hl.1 rfl (Nat.le_of_ble_eq_true rfl) dX7_init_20 ⟨Nat.le_of_ble_eq_true rfl, Nat.le_of_ble_eq_true rfl⟩) hL (fun u H locs hq hW hL => ?_)
  subst hq
  refine p_X7_21 Cx hnm hW hL (k := 119) (by decide) rfl dX7_init_23 (fun H locs hW hL => ?_)
  refine lv_aload_n hx hb dX7_init_26 rfl (lv_at hl 0 rfl) ?_
  refine n_X7_25 Cx hW rfl (Nat.le_of_ble_eq_true rfl) (Nat.le_of_ble_eq_true rfl) dX7_init_27 (fun H hW => ?_)
  refine lv_dup hx hb dX7_init_30 rfl ?_
  refine sBv (sInN (As := []) (rest := [.ref (G.2.2.1 + 157), .ref (G.2.2.1 + 119)]) (k := 157) Cx (t33_X5_init l G (sR (sR (sR (sR (sR (sR (sR (sR (sR (sR (sR (sR (sR (sR (sR (sR (sR (sR (sR (sR (sR (sR (sR (sR (sR (sR (sR (sR (sR (sR (sR (sR (sR (sR (sR (sR (sR S 120 0 (.ref (G.2.2.1 + 121))) 120 1 (.ref (G.2.2.1 + 122))) 123 0 (.ref (G.2.2.1 + 124))) 120 2 (.ref (G.2.2.1 + 123))) 125 0 (.ref (G.2.2.1 + 126))) 120 3 (.ref (G.2.2.1 + 125))) 127 0 (.ref (G.2.2.1 + 128))) 120 4 (.ref (G.2.2.1 + 127))) 129 0 (.ref (G.2.2.1 + 130))) 120 5 (.ref (G.2.2.1 + 129))) 131 0 (.ref (G.2.2.1 + 132))) 120 6 (.ref (G.2.2.1 + 131))) 133 0 (.ref (G.2.2.1 + 134))) 120 7 (.ref (G.2.2.1 + 133))) 119 0 (.ref (G.2.2.1 + 120))) 135 0 (.ref (G.2.2.1 + 136))) 135 1 (.ref (G.2.2.1 + 137))) 135 2 (.ref (G.2.2.1 + 138))) 135 3 (.ref (G.2.2.1 + 139))) 135 4 (.ref (G.2.2.1 + 140))) 141 0 (.ref (G.2.2.1 + 142))) 135 5 (.ref (G.2.2.1 + 141))) 143 0 (.ref (G.2.2.1 + 144))) 135 6 (.ref (G.2.2.1 + 143))) 145 0 (.ref (G.2.2.1 + 146))) 135 7 (.ref (G.2.2.1 + 145))) 147 0 (.ref (G.2.2.1 + 148))) 135 8 (.ref (G.2.2.1 + 147))) 149 0 (.ref (G.2.2.1 + 150))) 135 9 (.ref (G.2.2.1 + 149))) 151 0 (.ref (G.2.2.1 + 152))) 135 10 (.ref (G.2.2.1 + 151))) 153 0 (.ref (G.2.2.1 + 154))) 135 11 (.ref (G.2.2.1 + 153))) 155 0 (.ref (G.2.2.1 + 156))) 135 12 (.ref (G.2.2.1 + 155))) 119 1 (.ref (G.2.2.1 + 135)))) (c_X7_27 Cx rfl rfl ⟨Nat.le_of_ble_eq_true rfl, Nat.le_of_ble_eq_true rfl⟩) hW rfl hl.1 rfl (Nat.le_of_ble_eq_true rfl) dX7_init_31 ⟨Nat.le_of_ble_eq_true rfl, Nat.le_of_ble_eq_true rfl⟩) hL (fun u H locs hq hW hL => ?_)
  subst hq
  refine p_X7_28 Cx hnm hW hL (k := 119) (by decide) rfl dX7_init_34 (fun H locs hW hL => ?_)
  refine lv_aload_n hx hb dX7_init_37 rfl (lv_at hl 0 rfl) ?_
  refine n_X7_32 Cx hW rfl (Nat.le_of_ble_eq_true rfl) (Nat.le_of_ble_eq_true rfl) dX7_init_38 (fun H hW => ?_)
  refine lv_dup hx hb dX7_init_41 rfl ?_
  refine sBv (sInN (As := []) (rest := [.ref (G.2.2.1 + 177), .ref (G.2.2.1 + 119)]) (k := 177) Cx (t34_X0_init l G (sR (sR (sR (sR (sR (sR (sR (sR (sR (sR (sR (sR (sR (sR (sR (sR (sR (sR (sR (sR (sR (sR (sR (sR (sR (sR (sR (sR (sR (sR (sR (sR (sR (sR (sR (sR (sR (sR (sR (sR (sR (sR (sR (sR (sR (sR (sR (sR (sR (sR (sR (sR (sR (sR (sR (sR (sR S 120 0 (.ref (G.2.2.1 + 121))) 120 1 (.ref (G.2.2.1 + 122))) 123 0 (.ref (G.2.2.1 + 124))) 120 2 (.ref (G.2.2.1 + 123))) 125 0 (.ref (G.2.2.1 + 126))) 120 3 (.ref (G.2.2.1 + 125))) 127 0 (.ref (G.2.2.1 + 128))) 120 4 (.ref (G.2.2.1 + 127))) 129 0 (.ref (G.2.2.1 + 130))) 120 5 (.ref (G.2.2.1 + 129))) 131 0 (.ref (G.2.2.1 + 132))) 120 6 (.ref (G.2.2.1 + 131))) 133 0 (.ref (G.2.2.1 + 134))) 120 7 (.ref (G.2.2.1 + 133))) 119 0 (.ref (G.2.2.1 + 120))) 135 0 (.ref (G.2.2.1 + 136))) 135 1 (.ref (G.2.2.1 + 137))) 135 2 (.ref (G.2.2.1 + 138))) 135 3 (.ref (G.2.2.1 + 139))) 135 4 (.ref (G.2.2.1 + 140))) 141 0 (.ref (G.2.2.1 + 142))) 135 5 (.ref (G.2.2.1 + 141))) 143 0 (.ref (G.2.2.1 + 144))) 135 6 (.ref (G.2.2.1 + 143))) 145 0 (.ref (G.2.2.1 + 146))) 135 7 (.ref (G.2.2.1 + 145))) 147 0 (.ref (G.2.2.1 + 148))) 135 8 (.ref (G.2.2.1 + 147))) 149 0 (.ref (G.2.2.1 + 150))) 135 9 (.ref (G.2.2.1 + 149))) 151 0 (.ref (G.2.2.1 + 152))) 135 10 (.ref (G.2.2.1 + 151))) 153 0 (.ref (G.2.2.1 + 154))) 135 11 (.ref (G.2.2.1 + 153))) 155 0 (.ref (G.2.2.1 + 156))) 135 12 (.ref (G.2.2.1 + 155))) 119 1 (.ref (G.2.2.1 + 135))) 158 0 (.ref (G.2.2.1 + 159))) 157 0 (.ref (G.2.2.1 + 158))) 160 0 (.ref (G.2.2.1 + 161))) 157 1 (.ref (G.2.2.1 + 160))) 157 2 (.ref (G.2.2.1 + 162))) 163 0 (.ref (G.2.2.1 + 164))) 157 3 (.ref (G.2.2.1 + 163))) 165 0 (.ref (G.2.2.1 + 166))) 157 4 (.ref (G.2.2.1 + 165))) 167 0 (.ref (G.2.2.1 + 168))) 157 5 (.ref (G.2.2.1 + 167))) 169 0 (.ref (G.2.2.1 + 170))) 157 6 (.ref (G.2.2.1 + 169))) 171 0 (.ref (G.2.2.1 + 172))) 157 7 (.ref (G.2.2.1 + 171))) 173 0 (.ref (G.2.2.1 + 174))) 157 8 (.ref (G.2.2.1 + 173))) 175 0 (.ref (G.2.2.1 + 176))) 157 9 (.ref (G.2.2.1 + 175))) 119 2 (.ref (G.2.2.1 + 157)))) (c_X7_34 Cx rfl rfl ⟨Nat.le_of_ble_eq_true rfl, Nat.le_of_ble_eq_true rfl⟩) hW rfl hl.1 rfl (Nat.le_of_ble_eq_true rfl) dX7_init_42 ⟨Nat.le_of_ble_eq_true rfl, Nat.le_of_ble_eq_true rfl⟩) hL (fun u H locs hq hW hL => ?_)
  subst hq
  refine p_X7_35 Cx hnm hW hL (k := 119) (by decide) rfl dX7_init_45 (fun H locs hW hL => ?_)
  refine lv_aload_n hx hb dX7_init_48 rfl (lv_at hl 0 rfl) ?_
  refine n_X7_32 Cx hW rfl (Nat.le_of_ble_eq_true rfl) (Nat.le_of_ble_eq_true rfl) dX7_init_49 (fun H hW => ?_)
  refine lv_dup hx hb dX7_init_52 rfl ?_
  refine sBv (sInN (As := []) (rest := [.ref (G.2.2.1 + 179), .ref (G.2.2.1 + 119)]) (k := 179) Cx (t35_X0_init l G (sR (sR (sR (sR (sR (sR (sR (sR (sR (sR (sR (sR (sR (sR (sR (sR (sR (sR (sR (sR (sR (sR (sR (sR (sR (sR (sR (sR (sR (sR (sR (sR (sR (sR (sR (sR (sR (sR (sR (sR (sR (sR (sR (sR (sR (sR (sR (sR (sR (sR (sR (sR (sR (sR (sR (sR (sR (sR (sR S 120 0 (.ref (G.2.2.1 + 121))) 120 1 (.ref (G.2.2.1 + 122))) 123 0 (.ref (G.2.2.1 + 124))) 120 2 (.ref (G.2.2.1 + 123))) 125 0 (.ref (G.2.2.1 + 126))) 120 3 (.ref (G.2.2.1 + 125))) 127 0 (.ref (G.2.2.1 + 128))) 120 4 (.ref (G.2.2.1 + 127))) 129 0 (.ref (G.2.2.1 + 130))) 120 5 (.ref (G.2.2.1 + 129))) 131 0 (.ref (G.2.2.1 + 132))) 120 6 (.ref (G.2.2.1 + 131))) 133 0 (.ref (G.2.2.1 + 134))) 120 7 (.ref (G.2.2.1 + 133))) 119 0 (.ref (G.2.2.1 + 120))) 135 0 (.ref (G.2.2.1 + 136))) 135 1 (.ref (G.2.2.1 + 137))) 135 2 (.ref (G.2.2.1 + 138))) 135 3 (.ref (G.2.2.1 + 139))) 135 4 (.ref (G.2.2.1 + 140))) 141 0 (.ref (G.2.2.1 + 142))) 135 5 (.ref (G.2.2.1 + 141))) 143 0 (.ref (G.2.2.1 + 144))) 135 6 (.ref (G.2.2.1 + 143))) 145 0 (.ref (G.2.2.1 + 146))) 135 7 (.ref (G.2.2.1 + 145))) 147 0 (.ref (G.2.2.1 + 148))) 135 8 (.ref (G.2.2.1 + 147))) 149 0 (.ref (G.2.2.1 + 150))) 135 9 (.ref (G.2.2.1 + 149))) 151 0 (.ref (G.2.2.1 + 152))) 135 10 (.ref (G.2.2.1 + 151))) 153 0 (.ref (G.2.2.1 + 154))) 135 11 (.ref (G.2.2.1 + 153))) 155 0 (.ref (G.2.2.1 + 156))) 135 12 (.ref (G.2.2.1 + 155))) 119 1 (.ref (G.2.2.1 + 135))) 158 0 (.ref (G.2.2.1 + 159))) 157 0 (.ref (G.2.2.1 + 158))) 160 0 (.ref (G.2.2.1 + 161))) 157 1 (.ref (G.2.2.1 + 160))) 157 2 (.ref (G.2.2.1 + 162))) 163 0 (.ref (G.2.2.1 + 164))) 157 3 (.ref (G.2.2.1 + 163))) 165 0 (.ref (G.2.2.1 + 166))) 157 4 (.ref (G.2.2.1 + 165))) 167 0 (.ref (G.2.2.1 + 168))) 157 5 (.ref (G.2.2.1 + 167))) 169 0 (.ref (G.2.2.1 + 170))) 157 6 (.ref (G.2.2.1 + 169))) 171 0 (.ref (G.2.2.1 + 172))) 157 7 (.ref (G.2.2.1 + 171))) 173 0 (.ref (G.2.2.1 + 174))) 157 8 (.ref (G.2.2.1 + 173))) 175 0 (.ref (G.2.2.1 + 176))) 157 9 (.ref (G.2.2.1 + 175))) 119 2 (.ref (G.2.2.1 + 157))) 177 0 (.ref (G.2.2.1 + 178))) 119 3 (.ref (G.2.2.1 + 177)))) (c_X7_34 Cx rfl rfl ⟨Nat.le_of_ble_eq_true rfl, Nat.le_of_ble_eq_true rfl⟩) hW rfl hl.1 rfl (Nat.le_of_ble_eq_true rfl) dX7_init_53 ⟨Nat.le_of_ble_eq_true rfl, Nat.le_of_ble_eq_true rfl⟩) hL (fun u H locs hq hW hL => ?_)
  subst hq
  refine p_X7_39 Cx hnm hW hL (k := 119) (by decide) rfl dX7_init_56 (fun H locs hW hL => ?_)
  refine lv_aload_n hx hb dX7_init_59 rfl (lv_at hl 0 rfl) ?_
  refine n_X7_32 Cx hW rfl (Nat.le_of_ble_eq_true rfl) (Nat.le_of_ble_eq_true rfl) dX7_init_60 (fun H hW => ?_)
  refine lv_dup hx hb dX7_init_63 rfl ?_
  refine sBv (sInN (As := []) (rest := [.ref (G.2.2.1 + 181), .ref (G.2.2.1 + 119)]) (k := 181) Cx (t36_X0_init l G (sR (sR (sR (sR (sR (sR (sR (sR (sR (sR (sR (sR (sR (sR (sR (sR (sR (sR (sR (sR (sR (sR (sR (sR (sR (sR (sR (sR (sR (sR (sR (sR (sR (sR (sR (sR (sR (sR (sR (sR (sR (sR (sR (sR (sR (sR (sR (sR (sR (sR (sR (sR (sR (sR (sR (sR (sR (sR (sR (sR (sR S 120 0 (.ref (G.2.2.1 + 121))) 120 1 (.ref (G.2.2.1 + 122))) 123 0 (.ref (G.2.2.1 + 124))) 120 2 (.ref (G.2.2.1 + 123))) 125 0 (.ref (G.2.2.1 + 126))) 120 3 (.ref (G.2.2.1 + 125))) 127 0 (.ref (G.2.2.1 + 128))) 120 4 (.ref (G.2.2.1 + 127))) 129 0 (.ref (G.2.2.1 + 130))) 120 5 (.ref (G.2.2.1 + 129))) 131 0 (.ref (G.2.2.1 + 132))) 120 6 (.ref (G.2.2.1 + 131))) 133 0 (.ref (G.2.2.1 + 134))) 120 7 (.ref (G.2.2.1 + 133))) 119 0 (.ref (G.2.2.1 + 120))) 135 0 (.ref (G.2.2.1 + 136))) 135 1 (.ref (G.2.2.1 + 137))) 135 2 (.ref (G.2.2.1 + 138))) 135 3 (.ref (G.2.2.1 + 139))) 135 4 (.ref (G.2.2.1 + 140))) 141 0 (.ref (G.2.2.1 + 142))) 135 5 (.ref (G.2.2.1 + 141))) 143 0 (.ref (G.2.2.1 + 144))) 135 6 (.ref (G.2.2.1 + 143))) 145 0 (.ref (G.2.2.1 + 146))) 135 7 (.ref (G.2.2.1 + 145))) 147 0 (.ref (G.2.2.1 + 148))) 135 8 (.ref (G.2.2.1 + 147))) 149 0 (.ref (G.2.2.1 + 150))) 135 9 (.ref (G.2.2.1 + 149))) 151 0 (.ref (G.2.2.1 + 152))) 135 10 (.ref (G.2.2.1 + 151))) 153 0 (.ref (G.2.2.1 + 154))) 135 11 (.ref (G.2.2.1 + 153))) 155 0 (.ref (G.2.2.1 + 156))) 135 12 (.ref (G.2.2.1 + 155))) 119 1 (.ref (G.2.2.1 + 135))) 158 0 (.ref (G.2.2.1 + 159))) 157 0 (.ref (G.2.2.1 + 158))) 160 0 (.ref (G.2.2.1 + 161))) 157 1 (.ref (G.2.2.1 + 160))) 157 2 (.ref (G.2.2.1 + 162))) 163 0 (.ref (G.2.2.1 + 164))) 157 3 (.ref (G.2.2.1 + 163))) 165 0 (.ref (G.2.2.1 + 166))) 157 4 (.ref (G.2.2.1 + 165))) 167 0 (.ref (G.2.2.1 + 168))) 157 5 (.ref (G.2.2.1 + 167))) 169 0 (.ref (G.2.2.1 + 170))) 157 6 (.ref (G.2.2.1 + 169))) 171 0 (.ref (G.2.2.1 + 172))) 157 7 (.ref (G.2.2.1 + 171))) 173 0 (.ref (G.2.2.1 + 174))) 157 8 (.ref (G.2.2.1 + 173))) 175 0 (.ref (G.2.2.1 + 176))) 157 9 (.ref (G.2.2.1 + 175))) 119 2 (.ref (G.2.2.1 + 157))) 177 0 (.ref (G.2.2.1 + 178))) 119 3 (.ref (G.2.2.1 + 177))) 179 0 (.ref (G.2.2.1 + 180))) 119 4 (.ref (G.2.2.1 + 179)))) (c_X7_34 Cx rfl rfl ⟨Nat.le_of_ble_eq_true rfl, Nat.le_of_ble_eq_true rfl⟩) hW rfl hl.1 rfl (Nat.le_of_ble_eq_true rfl) dX7_init_64 ⟨Nat.le_of_ble_eq_true rfl, Nat.le_of_ble_eq_true rfl⟩) hL (fun u H locs hq hW hL => ?_)
  subst hq
  refine p_X7_42 Cx hnm hW hL (k := 119) (by decide) rfl dX7_init_67 (fun H locs hW hL => ?_)
  refine lv_aload_n hx hb dX7_init_70 rfl (lv_at hl 0 rfl) ?_
  refine n_X7_32 Cx hW rfl (Nat.le_of_ble_eq_true rfl) (Nat.le_of_ble_eq_true rfl) dX7_init_71 (fun H hW => ?_)
  refine lv_dup hx hb dX7_init_74 rfl ?_
  refine sBv (sInN (As := []) (rest := [.ref (G.2.2.1 + 183), .ref (G.2.2.1 + 119)]) (k := 183) Cx (t37_X0_init l G (sR (sR (sR (sR (sR (sR (sR (sR (sR (sR (sR (sR (sR (sR (sR (sR (sR (sR (sR (sR (sR (sR (sR (sR (sR (sR (sR (sR (sR (sR (sR (sR (sR (sR (sR (sR (sR (sR (sR (sR (sR (sR (sR (sR (sR (sR (sR (sR (sR (sR (sR (sR (sR (sR (sR (sR (sR (sR (sR (sR (sR (sR (sR S 120 0 (.ref (G.2.2.1 + 121))) 120 1 (.ref (G.2.2.1 + 122))) 123 0 (.ref (G.2.2.1 + 124))) 120 2 (.ref (G.2.2.1 + 123))) 125 0 (.ref (G.2.2.1 + 126))) 120 3 (.ref (G.2.2.1 + 125))) 127 0 (.ref (G.2.2.1 + 128))) 120 4 (.ref (G.2.2.1 + 127))) 129 0 (.ref (G.2.2.1 + 130))) 120 5 (.ref (G.2.2.1 + 129))) 131 0 (.ref (G.2.2.1 + 132))) 120 6 (.ref (G.2.2.1 + 131))) 133 0 (.ref (G.2.2.1 + 134))) 120 7 (.ref (G.2.2.1 + 133))) 119 0 (.ref (G.2.2.1 + 120))) 135 0 (.ref (G.2.2.1 + 136))) 135 1 (.ref (G.2.2.1 + 137))) 135 2 (.ref (G.2.2.1 + 138))) 135 3 (.ref (G.2.2.1 + 139))) 135 4 (.ref (G.2.2.1 + 140))) 141 0 (.ref (G.2.2.1 + 142))) 135 5 (.ref (G.2.2.1 + 141))) 143 0 (.ref (G.2.2.1 + 144))) 135 6 (.ref (G.2.2.1 + 143))) 145 0 (.ref (G.2.2.1 + 146))) 135 7 (.ref (G.2.2.1 + 145))) 147 0 (.ref (G.2.2.1 + 148))) 135 8 (.ref (G.2.2.1 + 147))) 149 0 (.ref (G.2.2.1 + 150))) 135 9 (.ref (G.2.2.1 + 149))) 151 0 (.ref (G.2.2.1 + 152))) 135 10 (.ref (G.2.2.1 + 151))) 153 0 (.ref (G.2.2.1 + 154))) 135 11 (.ref (G.2.2.1 + 153))) 155 0 (.ref (G.2.2.1 + 156))) 135 12 (.ref (G.2.2.1 + 155))) 119 1 (.ref (G.2.2.1 + 135))) 158 0 (.ref (G.2.2.1 + 159))) 157 0 (.ref (G.2.2.1 + 158))) 160 0 (.ref (G.2.2.1 + 161))) 157 1 (.ref (G.2.2.1 + 160))) 157 2 (.ref (G.2.2.1 + 162))) 163 0 (.ref (G.2.2.1 + 164))) 157 3 (.ref (G.2.2.1 + 163))) 165 0 (.ref (G.2.2.1 + 166))) 157 4 (.ref (G.2.2.1 + 165))) 167 0 (.ref (G.2.2.1 + 168))) 157 5 (.ref (G.2.2.1 + 167))) 169 0 (.ref (G.2.2.1 + 170))) 157 6 (.ref (G.2.2.1 + 169))) 171 0 (.ref (G.2.2.1 + 172))) 157 7 (.ref (G.2.2.1 + 171))) 173 0 (.ref (G.2.2.1 + 174))) 157 8 (.ref (G.2.2.1 + 173))) 175 0 (.ref (G.2.2.1 + 176))) 157 9 (.ref (G.2.2.1 + 175))) 119 2 (.ref (G.2.2.1 + 157))) 177 0 (.ref (G.2.2.1 + 178))) 119 3 (.ref (G.2.2.1 + 177))) 179 0 (.ref (G.2.2.1 + 180))) 119 4 (.ref (G.2.2.1 + 179))) 181 0 (.ref (G.2.2.1 + 182))) 119 5 (.ref (G.2.2.1 + 181)))) (c_X7_34 Cx rfl rfl ⟨Nat.le_of_ble_eq_true rfl, Nat.le_of_ble_eq_true rfl⟩) hW rfl hl.1 rfl (Nat.le_of_ble_eq_true rfl) dX7_init_75 ⟨Nat.le_of_ble_eq_true rfl, Nat.le_of_ble_eq_true rfl⟩) hL (fun u H locs hq hW hL => ?_)
  subst hq
  refine p_X7_45 Cx hnm hW hL (k := 119) (by decide) rfl dX7_init_78 (fun H locs hW hL => ?_)
  refine lv_aload_n hx hb dX7_init_81 rfl (lv_at hl 0 rfl) ?_
  refine n_X7_48 Cx hW rfl (Nat.le_of_ble_eq_true rfl) (Nat.le_of_ble_eq_true rfl) dX7_init_82 (fun H hW => ?_)
  refine lv_dup hx hb dX7_init_85 rfl ?_
  refine sBv (sInN (As := []) (rest := [.ref (G.2.2.1 + 185), .ref (G.2.2.1 + 119)]) (k := 185) Cx (t38_X3_init l G (sR (sR (sR (sR (sR (sR (sR (sR (sR (sR (sR (sR (sR (sR (sR (sR (sR (sR (sR (sR (sR (sR (sR (sR (sR (sR (sR (sR (sR (sR (sR (sR (sR (sR (sR (sR (sR (sR (sR (sR (sR (sR (sR (sR (sR (sR (sR (sR (sR (sR (sR (sR (sR (sR (sR (sR (sR (sR (sR (sR (sR (sR (sR (sR (sR S 120 0 (.ref (G.2.2.1 + 121))) 120 1 (.ref (G.2.2.1 + 122))) 123 0 (.ref (G.2.2.1 + 124))) 120 2 (.ref (G.2.2.1 + 123))) 125 0 (.ref (G.2.2.1 + 126))) 120 3 (.ref (G.2.2.1 + 125))) 127 0 (.ref (G.2.2.1 + 128))) 120 4 (.ref (G.2.2.1 + 127))) 129 0 (.ref (G.2.2.1 + 130))) 120 5 (.ref (G.2.2.1 + 129))) 131 0 (.ref (G.2.2.1 + 132))) 120 6 (.ref (G.2.2.1 + 131))) 133 0 (.ref (G.2.2.1 + 134))) 120 7 (.ref (G.2.2.1 + 133))) 119 0 (.ref (G.2.2.1 + 120))) 135 0 (.ref (G.2.2.1 + 136))) 135 1 (.ref (G.2.2.1 + 137))) 135 2 (.ref (G.2.2.1 + 138))) 135 3 (.ref (G.2.2.1 + 139))) 135 4 (.ref (G.2.2.1 + 140))) 141 0 (.ref (G.2.2.1 + 142))) 135 5 (.ref (G.2.2.1 + 141))) 143 0 (.ref (G.2.2.1 + 144))) 135 6 (.ref (G.2.2.1 + 143))) 145 0 (.ref (G.2.2.1 + 146))) 135 7 (.ref (G.2.2.1 + 145))) 147 0 (.ref (G.2.2.1 + 148))) 135 8 (.ref (G.2.2.1 + 147))) 149 0 (.ref (G.2.2.1 + 150))) 135 9 (.ref (G.2.2.1 + 149))) 151 0 (.ref (G.2.2.1 + 152))) 135 10 (.ref (G.2.2.1 + 151))) 153 0 (.ref (G.2.2.1 + 154))) 135 11 (.ref (G.2.2.1 + 153))) 155 0 (.ref (G.2.2.1 + 156))) 135 12 (.ref (G.2.2.1 + 155))) 119 1 (.ref (G.2.2.1 + 135))) 158 0 (.ref (G.2.2.1 + 159))) 157 0 (.ref (G.2.2.1 + 158))) 160 0 (.ref (G.2.2.1 + 161))) 157 1 (.ref (G.2.2.1 + 160))) 157 2 (.ref (G.2.2.1 + 162))) 163 0 (.ref (G.2.2.1 + 164))) 157 3 (.ref (G.2.2.1 + 163))) 165 0 (.ref (G.2.2.1 + 166))) 157 4 (.ref (G.2.2.1 + 165))) 167 0 (.ref (G.2.2.1 + 168))) 157 5 (.ref (G.2.2.1 + 167))) 169 0 (.ref (G.2.2.1 + 170))) 157 6 (.ref (G.2.2.1 + 169))) 171 0 (.ref (G.2.2.1 + 172))) 157 7 (.ref (G.2.2.1 + 171))) 173 0 (.ref (G.2.2.1 + 174))) 157 8 (.ref (G.2.2.1 + 173))) 175 0 (.ref (G.2.2.1 + 176))) 157 9 (.ref (G.2.2.1 + 175))) 119 2 (.ref (G.2.2.1 + 157))) 177 0 (.ref (G.2.2.1 + 178))) 119 3 (.ref (G.2.2.1 + 177))) 179 0 (.ref (G.2.2.1 + 180))) 119 4 (.ref (G.2.2.1 + 179))) 181 0 (.ref (G.2.2.1 + 182))) 119 5 (.ref (G.2.2.1 + 181))) 183 0 (.ref (G.2.2.1 + 184))) 119 6 (.ref (G.2.2.1 + 183)))) (c_X7_50 Cx rfl rfl ⟨Nat.le_of_ble_eq_true rfl, Nat.le_of_ble_eq_true rfl⟩) hW rfl hl.1 rfl (Nat.le_of_ble_eq_true rfl) dX7_init_86 ⟨Nat.le_of_ble_eq_true rfl, Nat.le_of_ble_eq_true rfl⟩) hL (fun u H locs hq hW hL => ?_)
  subst hq
  refine p_X7_51 Cx hW hL (k := 119) (by decide) rfl dX7_init_89 (fun H locs hW hL => ?_)
  exact sVret Cx hr hlk hW hL rfl dX7_init_92

set_option maxRecDepth 100000 in
set_option maxHeartbeats 4000000 in
theorem t40_X10_init (l : Launch) (G : sG) (S : sS)   : Met l yX10_init (.code yX10_init cX10_init 2 none :: tb) (rmk 1 1 0) (sPc G 191 S [.ref (G.2.2.1 + 190), .int 0]) (sQv G 192 (fun u => u = (sR S 190 0 (.ref (G.2.2.1 + 191))))) 1 0 (sF G) := by
  refine sEnter (by decide) (Nat.le_of_ble_eq_true rfl) ?_
  intro p e s m args below meth c Cx hr hlk hnm hW ls hl
  have Cx : sC G p m c cX10_init 2 s args RX10 := Cx
  obtain ⟨hx, hb, hml, hown, hts⟩ := id Cx.1
  have hL : sL G [] := sL_nil
  have hl : lv_has ls 2 [(0, .ref (G.2.2.1 + 190)), (1, .int 0)] := hl
  refine lv_aload_n hx hb dX10_init_0 rfl (lv_at hl 0 rfl) ?_
  refine W.objInit hx hb hown (hts _ w_240) (hts _ w_233) (hts _ w_234) rfl (by rw [hml]; exact hl.1) rfl dX10_init_1 (Nat.le_of_ble_eq_true rfl) (Nat.le_of_ble_eq_true rfl) ?_
  refine W.eq (g2 := F0 m 4 ls []) rfl ?_
  refine lv_aload_n hx hb dX10_init_4 rfl (lv_at hl 0 rfl) ?_
  refine lv_iload_n hx hb dX10_init_5 rfl (lv_at hl 1 rfl) ?_
  refine lv_iconst (v := 0) hx hb dX10_init_6 (by decide) ?_
  refine va_mmax hx hb (hml.trans hl.1.symm) hown (hts _ w_241) (hts _ w_242) (hts _ w_206) (hts _ w_243) (Nat.le_of_ble_eq_true rfl) (Nat.le_of_ble_eq_true rfl) (Nat.le_of_ble_eq_true rfl) (Nat.le_of_ble_eq_true rfl) dX10_init_7 ?_
  refine sCi (v := 0) (by decide) ?_
  refine sNewa (atype := .byte) (ty := .byte) Cx (N := 0) rfl 2 rfl (fun U h => h) w_254 hW rfl rfl (by decide) rfl (Nat.le_of_ble_eq_true rfl) (Nat.le_of_ble_eq_true rfl) (Nat.le_of_ble_eq_true rfl) dX10_init_10 (fun H hW => ?_)
  refine p_X10_15 Cx hnm hW hL (k := 190) (by decide) rfl dX10_init_12 (fun H locs hW hL => ?_)
  exact sVret Cx hr hlk hW hL rfl dX10_init_15

set_option maxRecDepth 100000 in
set_option maxHeartbeats 4000000 in
theorem t41_X4_init (l : Launch) (G : sG) (S : sS)   : Met l yX4_init (.code yX4_init cX4_init 1 none :: tb) (rmk 2 3 30004) (sPc G 190 S [.ref (G.2.2.1 + 189)]) (sQv G 193 (fun u => u = (sR (sR (sR S 190 0 (.ref (G.2.2.1 + 191))) 189 0 (.ref (G.2.2.1 + 190))) 189 1 (.ref (G.2.2.1 + 192))))) 3 30004 (sF G) := by
  refine sEnter (by decide) (Nat.le_of_ble_eq_true rfl) ?_
  intro p e s m args below meth c Cx hr hlk hnm hW ls hl
  have Cx : sC G p m c cX4_init 1 s args RX4 := Cx
  obtain ⟨hx, hb, hml, hown, hts⟩ := id Cx.1
  have hL : sL G [] := sL_nil
  have hl : lv_has ls 1 [(0, .ref (G.2.2.1 + 189))] := hl
  refine lv_aload_n hx hb dX4_init_0 rfl (lv_at hl 0 rfl) ?_
  refine W.objInit hx hb hown (hts _ w_627) (hts _ w_233) (hts _ w_234) rfl (by rw [hml]; exact hl.1) rfl dX4_init_1 (Nat.le_of_ble_eq_true rfl) (Nat.le_of_ble_eq_true rfl) ?_
  refine W.eq (g2 := F0 m 4 ls []) rfl ?_
  refine lv_aload_n hx hb dX4_init_4 rfl (lv_at hl 0 rfl) ?_
  refine n_X4_9 Cx hW rfl (Nat.le_of_ble_eq_true rfl) (Nat.le_of_ble_eq_true rfl) dX4_init_5 (fun H hW => ?_)
  refine lv_dup hx hb dX4_init_8 rfl ?_
  refine lv_iconst (v := 0) hx hb dX4_init_9 (by decide) ?_
  refine sBv (sIn (As := [.int 0]) (rest := [.ref (G.2.2.1 + 190), .ref (G.2.2.1 + 189)]) (k := 190) Cx (t40_X10_init l G S) (c_X4_11 Cx rfl rfl ⟨Nat.le_of_ble_eq_true rfl, Nat.le_of_ble_eq_true rfl⟩) hW rfl hl.1 rfl (Nat.le_of_ble_eq_true rfl) dX4_init_10 ⟨Nat.le_of_ble_eq_true rfl, Nat.le_of_ble_eq_true rfl⟩) hL (fun u H locs hq hW hL => ?_)
  subst hq
  refine p_X4_14 Cx hW hL (k := 189) (by decide) rfl dX4_init_13 (fun H locs hW hL => ?_)
  refine lv_aload_n hx hb dX4_init_16 rfl (lv_at hl 0 rfl) ?_
  refine lv_sipush (v := 30001) hx hb dX4_init_17 (by decide) ?_
  refine sNewa (atype := .int) (ty := .int) Cx (N := 30001) rfl 0 rfl (fun U h => h) w_294 hW rfl rfl (by decide) rfl (Nat.le_of_ble_eq_true rfl) (Nat.le_of_ble_eq_true rfl) (Nat.le_of_ble_eq_true rfl) dX4_init_20 (fun H hW => ?_)
  refine p_X4_20 Cx hnm hW hL (k := 189) (by decide) rfl dX4_init_22 (fun H locs hW hL => ?_)
  exact sVret Cx hr hlk hW hL rfl dX4_init_25

set_option maxRecDepth 100000 in
set_option maxHeartbeats 4000000 in
theorem t42_X0_init (l : Launch) (G : sG) (S : sS)   : Met l yX0_init (.code yX0_init cX0_init 1 none :: tb) (rmk 1 1 32) (sPc G 197 S [.ref (G.2.2.1 + 196)]) (sQv G 198 (fun u => u = (sR S 196 0 (.ref (G.2.2.1 + 197))))) 1 32 (sF G) := by
  refine sEnter (by decide) (Nat.le_of_ble_eq_true rfl) ?_
  intro p e s m args below meth c Cx hr hlk hnm hW ls hl
  have Cx : sC G p m c cX0_init 1 s args RX0 := Cx
  obtain ⟨hx, hb, hml, hown, hts⟩ := id Cx.1
  have hL : sL G [] := sL_nil
  have hl : lv_has ls 1 [(0, .ref (G.2.2.1 + 196))] := hl
  refine lv_aload_n hx hb dX0_init_0 rfl (lv_at hl 0 rfl) ?_
  refine W.objInit hx hb hown (hts _ w_398) (hts _ w_233) (hts _ w_234) rfl (by rw [hml]; exact hl.1) rfl dX0_init_1 (Nat.le_of_ble_eq_true rfl) (Nat.le_of_ble_eq_true rfl) ?_
  refine W.eq (g2 := F0 m 4 ls []) rfl ?_
  refine lv_aload_n hx hb dX0_init_4 rfl (lv_at hl 0 rfl) ?_
  refine lv_bipush (v := 32) hx hb dX0_init_5 (by decide) ?_
  refine sNewa (atype := .int) (ty := .int) Cx (N := 32) rfl 0 rfl (fun U h => h) w_294 hW rfl rfl (by decide) rfl (Nat.le_of_ble_eq_true rfl) (Nat.le_of_ble_eq_true rfl) (Nat.le_of_ble_eq_true rfl) dX0_init_7 (fun H hW => ?_)
  refine p_X0_9 Cx hnm hW hL (k := 196) (by decide) rfl dX0_init_9 (fun H locs hW hL => ?_)
  exact sVret Cx hr hlk hW hL rfl dX0_init_12

set_option maxRecDepth 100000 in
set_option maxHeartbeats 4000000 in
theorem t43_X0_init (l : Launch) (G : sG) (S : sS)   : Met l yX0_init (.code yX0_init cX0_init 1 none :: tb) (rmk 1 1 32) (sPc G 199 S [.ref (G.2.2.1 + 198)]) (sQv G 200 (fun u => u = (sR S 198 0 (.ref (G.2.2.1 + 199))))) 1 32 (sF G) := by
  refine sEnter (by decide) (Nat.le_of_ble_eq_true rfl) ?_
  intro p e s m args below meth c Cx hr hlk hnm hW ls hl
  have Cx : sC G p m c cX0_init 1 s args RX0 := Cx
  obtain ⟨hx, hb, hml, hown, hts⟩ := id Cx.1
  have hL : sL G [] := sL_nil
  have hl : lv_has ls 1 [(0, .ref (G.2.2.1 + 198))] := hl
  refine lv_aload_n hx hb dX0_init_0 rfl (lv_at hl 0 rfl) ?_
  refine W.objInit hx hb hown (hts _ w_398) (hts _ w_233) (hts _ w_234) rfl (by rw [hml]; exact hl.1) rfl dX0_init_1 (Nat.le_of_ble_eq_true rfl) (Nat.le_of_ble_eq_true rfl) ?_
  refine W.eq (g2 := F0 m 4 ls []) rfl ?_
  refine lv_aload_n hx hb dX0_init_4 rfl (lv_at hl 0 rfl) ?_
  refine lv_bipush (v := 32) hx hb dX0_init_5 (by decide) ?_
  refine sNewa (atype := .int) (ty := .int) Cx (N := 32) rfl 0 rfl (fun U h => h) w_294 hW rfl rfl (by decide) rfl (Nat.le_of_ble_eq_true rfl) (Nat.le_of_ble_eq_true rfl) (Nat.le_of_ble_eq_true rfl) dX0_init_7 (fun H hW => ?_)
  refine p_X0_9 Cx hnm hW hL (k := 198) (by decide) rfl dX0_init_9 (fun H locs hW hL => ?_)
  exact sVret Cx hr hlk hW hL rfl dX0_init_12

set_option maxRecDepth 100000 in
set_option maxHeartbeats 4000000 in
theorem t44_X0_init (l : Launch) (G : sG) (S : sS)   : Met l yX0_init (.code yX0_init cX0_init 1 none :: tb) (rmk 1 1 32) (sPc G 201 S [.ref (G.2.2.1 + 200)]) (sQv G 202 (fun u => u = (sR S 200 0 (.ref (G.2.2.1 + 201))))) 1 32 (sF G) := by
  refine sEnter (by decide) (Nat.le_of_ble_eq_true rfl) ?_
  intro p e s m args below meth c Cx hr hlk hnm hW ls hl
  have Cx : sC G p m c cX0_init 1 s args RX0 := Cx
  obtain ⟨hx, hb, hml, hown, hts⟩ := id Cx.1
  have hL : sL G [] := sL_nil
  have hl : lv_has ls 1 [(0, .ref (G.2.2.1 + 200))] := hl
  refine lv_aload_n hx hb dX0_init_0 rfl (lv_at hl 0 rfl) ?_
  refine W.objInit hx hb hown (hts _ w_398) (hts _ w_233) (hts _ w_234) rfl (by rw [hml]; exact hl.1) rfl dX0_init_1 (Nat.le_of_ble_eq_true rfl) (Nat.le_of_ble_eq_true rfl) ?_
  refine W.eq (g2 := F0 m 4 ls []) rfl ?_
  refine lv_aload_n hx hb dX0_init_4 rfl (lv_at hl 0 rfl) ?_
  refine lv_bipush (v := 32) hx hb dX0_init_5 (by decide) ?_
  refine sNewa (atype := .int) (ty := .int) Cx (N := 32) rfl 0 rfl (fun U h => h) w_294 hW rfl rfl (by decide) rfl (Nat.le_of_ble_eq_true rfl) (Nat.le_of_ble_eq_true rfl) (Nat.le_of_ble_eq_true rfl) dX0_init_7 (fun H hW => ?_)
  refine p_X0_9 Cx hnm hW hL (k := 200) (by decide) rfl dX0_init_9 (fun H locs hW hL => ?_)
  exact sVret Cx hr hlk hW hL rfl dX0_init_12

set_option maxRecDepth 100000 in
set_option maxHeartbeats 4000000 in
theorem t45_X0_init (l : Launch) (G : sG) (S : sS)   : Met l yX0_init (.code yX0_init cX0_init 1 none :: tb) (rmk 1 1 32) (sPc G 203 S [.ref (G.2.2.1 + 202)]) (sQv G 204 (fun u => u = (sR S 202 0 (.ref (G.2.2.1 + 203))))) 1 32 (sF G) := by
  refine sEnter (by decide) (Nat.le_of_ble_eq_true rfl) ?_
  intro p e s m args below meth c Cx hr hlk hnm hW ls hl
  have Cx : sC G p m c cX0_init 1 s args RX0 := Cx
  obtain ⟨hx, hb, hml, hown, hts⟩ := id Cx.1
  have hL : sL G [] := sL_nil
  have hl : lv_has ls 1 [(0, .ref (G.2.2.1 + 202))] := hl
  refine lv_aload_n hx hb dX0_init_0 rfl (lv_at hl 0 rfl) ?_
  refine W.objInit hx hb hown (hts _ w_398) (hts _ w_233) (hts _ w_234) rfl (by rw [hml]; exact hl.1) rfl dX0_init_1 (Nat.le_of_ble_eq_true rfl) (Nat.le_of_ble_eq_true rfl) ?_
  refine W.eq (g2 := F0 m 4 ls []) rfl ?_
  refine lv_aload_n hx hb dX0_init_4 rfl (lv_at hl 0 rfl) ?_
  refine lv_bipush (v := 32) hx hb dX0_init_5 (by decide) ?_
  refine sNewa (atype := .int) (ty := .int) Cx (N := 32) rfl 0 rfl (fun U h => h) w_294 hW rfl rfl (by decide) rfl (Nat.le_of_ble_eq_true rfl) (Nat.le_of_ble_eq_true rfl) (Nat.le_of_ble_eq_true rfl) dX0_init_7 (fun H hW => ?_)
  refine p_X0_9 Cx hnm hW hL (k := 202) (by decide) rfl dX0_init_9 (fun H locs hW hL => ?_)
  exact sVret Cx hr hlk hW hL rfl dX0_init_12

set_option maxRecDepth 100000 in
set_option maxHeartbeats 4000000 in
theorem t46_X0_init (l : Launch) (G : sG) (S : sS)   : Met l yX0_init (.code yX0_init cX0_init 1 none :: tb) (rmk 1 1 32) (sPc G 205 S [.ref (G.2.2.1 + 204)]) (sQv G 206 (fun u => u = (sR S 204 0 (.ref (G.2.2.1 + 205))))) 1 32 (sF G) := by
  refine sEnter (by decide) (Nat.le_of_ble_eq_true rfl) ?_
  intro p e s m args below meth c Cx hr hlk hnm hW ls hl
  have Cx : sC G p m c cX0_init 1 s args RX0 := Cx
  obtain ⟨hx, hb, hml, hown, hts⟩ := id Cx.1
  have hL : sL G [] := sL_nil
  have hl : lv_has ls 1 [(0, .ref (G.2.2.1 + 204))] := hl
  refine lv_aload_n hx hb dX0_init_0 rfl (lv_at hl 0 rfl) ?_
  refine W.objInit hx hb hown (hts _ w_398) (hts _ w_233) (hts _ w_234) rfl (by rw [hml]; exact hl.1) rfl dX0_init_1 (Nat.le_of_ble_eq_true rfl) (Nat.le_of_ble_eq_true rfl) ?_
  refine W.eq (g2 := F0 m 4 ls []) rfl ?_
  refine lv_aload_n hx hb dX0_init_4 rfl (lv_at hl 0 rfl) ?_
  refine lv_bipush (v := 32) hx hb dX0_init_5 (by decide) ?_
  refine sNewa (atype := .int) (ty := .int) Cx (N := 32) rfl 0 rfl (fun U h => h) w_294 hW rfl rfl (by decide) rfl (Nat.le_of_ble_eq_true rfl) (Nat.le_of_ble_eq_true rfl) (Nat.le_of_ble_eq_true rfl) dX0_init_7 (fun H hW => ?_)
  refine p_X0_9 Cx hnm hW hL (k := 204) (by decide) rfl dX0_init_9 (fun H locs hW hL => ?_)
  exact sVret Cx hr hlk hW hL rfl dX0_init_12

set_option maxRecDepth 100000 in
set_option maxHeartbeats 4000000 in
theorem t47_X0_init (l : Launch) (G : sG) (S : sS)   : Met l yX0_init (.code yX0_init cX0_init 1 none :: tb) (rmk 1 1 32) (sPc G 207 S [.ref (G.2.2.1 + 206)]) (sQv G 208 (fun u => u = (sR S 206 0 (.ref (G.2.2.1 + 207))))) 1 32 (sF G) := by
  refine sEnter (by decide) (Nat.le_of_ble_eq_true rfl) ?_
  intro p e s m args below meth c Cx hr hlk hnm hW ls hl
  have Cx : sC G p m c cX0_init 1 s args RX0 := Cx
  obtain ⟨hx, hb, hml, hown, hts⟩ := id Cx.1
  have hL : sL G [] := sL_nil
  have hl : lv_has ls 1 [(0, .ref (G.2.2.1 + 206))] := hl
  refine lv_aload_n hx hb dX0_init_0 rfl (lv_at hl 0 rfl) ?_
  refine W.objInit hx hb hown (hts _ w_398) (hts _ w_233) (hts _ w_234) rfl (by rw [hml]; exact hl.1) rfl dX0_init_1 (Nat.le_of_ble_eq_true rfl) (Nat.le_of_ble_eq_true rfl) ?_
  refine W.eq (g2 := F0 m 4 ls []) rfl ?_
  refine lv_aload_n hx hb dX0_init_4 rfl (lv_at hl 0 rfl) ?_
  refine lv_bipush (v := 32) hx hb dX0_init_5 (by decide) ?_
  refine sNewa (atype := .int) (ty := .int) Cx (N := 32) rfl 0 rfl (fun U h => h) w_294 hW rfl rfl (by decide) rfl (Nat.le_of_ble_eq_true rfl) (Nat.le_of_ble_eq_true rfl) (Nat.le_of_ble_eq_true rfl) dX0_init_7 (fun H hW => ?_)
  refine p_X0_9 Cx hnm hW hL (k := 206) (by decide) rfl dX0_init_9 (fun H locs hW hL => ?_)
  exact sVret Cx hr hlk hW hL rfl dX0_init_12

set_option maxRecDepth 100000 in
set_option maxHeartbeats 4000000 in
theorem t48_X6_init (l : Launch) (G : sG) (S : sS)   : Met l yX6_init (.code yX6_init cX6_init 1 none :: tb) (rmk 2 14 4802) (sPc G 194 S [.ref (G.2.2.1 + 193)]) (sQv G 208 (fun u => u = (sR (sR (sR (sR (sR (sR (sR (sR (sR (sR (sR (sR (sR (sR S 193 0 (.ref (G.2.2.1 + 194))) 193 1 (.ref (G.2.2.1 + 195))) 196 0 (.ref (G.2.2.1 + 197))) 193 2 (.ref (G.2.2.1 + 196))) 198 0 (.ref (G.2.2.1 + 199))) 193 3 (.ref (G.2.2.1 + 198))) 200 0 (.ref (G.2.2.1 + 201))) 193 4 (.ref (G.2.2.1 + 200))) 202 0 (.ref (G.2.2.1 + 203))) 193 5 (.ref (G.2.2.1 + 202))) 204 0 (.ref (G.2.2.1 + 205))) 193 6 (.ref (G.2.2.1 + 204))) 206 0 (.ref (G.2.2.1 + 207))) 193 7 (.ref (G.2.2.1 + 206))))) 14 4802 (sF G) := by
  refine sEnter (by decide) (Nat.le_of_ble_eq_true rfl) ?_
  intro p e s m args below meth c Cx hr hlk hnm hW ls hl
  have Cx : sC G p m c cX6_init 1 s args RX6 := Cx
  obtain ⟨hx, hb, hml, hown, hts⟩ := id Cx.1
  have hL : sL G [] := sL_nil
  have hl : lv_has ls 1 [(0, .ref (G.2.2.1 + 193))] := hl
  refine lv_aload_n hx hb dX6_init_0 rfl (lv_at hl 0 rfl) ?_
  refine W.objInit hx hb hown (hts _ w_392) (hts _ w_233) (hts _ w_234) rfl (by rw [hml]; exact hl.1) rfl dX6_init_1 (Nat.le_of_ble_eq_true rfl) (Nat.le_of_ble_eq_true rfl) ?_
  refine W.eq (g2 := F0 m 4 ls []) rfl ?_
  refine lv_aload_n hx hb dX6_init_4 rfl (lv_at hl 0 rfl) ?_
  refine lv_sipush (v := 4264) hx hb dX6_init_5 (by decide) ?_
  refine sNewa (atype := .int) (ty := .int) Cx (N := 4264) rfl 0 rfl (fun U h => h) w_294 hW rfl rfl (by decide) rfl (Nat.le_of_ble_eq_true rfl) (Nat.le_of_ble_eq_true rfl) (Nat.le_of_ble_eq_true rfl) dX6_init_8 (fun H hW => ?_)
  refine p_X6_13 Cx hnm hW hL (k := 193) (by decide) rfl dX6_init_10 (fun H locs hW hL => ?_)
  refine lv_aload_n hx hb dX6_init_13 rfl (lv_at hl 0 rfl) ?_
  refine lv_sipush (v := 328) hx hb dX6_init_14 (by decide) ?_
  refine sNewa (atype := .int) (ty := .int) Cx (N := 328) rfl 0 rfl (fun U h => h) w_294 hW rfl rfl (by decide) rfl (Nat.le_of_ble_eq_true rfl) (Nat.le_of_ble_eq_true rfl) (Nat.le_of_ble_eq_true rfl) dX6_init_17 (fun H hW => ?_)
  refine p_X6_17 Cx hnm hW hL (k := 193) (by decide) rfl dX6_init_19 (fun H locs hW hL => ?_)
  refine lv_aload_n hx hb dX6_init_22 rfl (lv_at hl 0 rfl) ?_
  refine n_X6_11 Cx hW rfl (Nat.le_of_ble_eq_true rfl) (Nat.le_of_ble_eq_true rfl) dX6_init_23 (fun H hW => ?_)
  refine lv_dup hx hb dX6_init_26 rfl ?_
  refine sBv (sInN (As := []) (rest := [.ref (G.2.2.1 + 196), .ref (G.2.2.1 + 193)]) (k := 196) Cx (t42_X0_init l G (sR (sR S 193 0 (.ref (G.2.2.1 + 194))) 193 1 (.ref (G.2.2.1 + 195)))) (c_X6_20 Cx rfl rfl ⟨Nat.le_of_ble_eq_true rfl, Nat.le_of_ble_eq_true rfl⟩) hW rfl hl.1 rfl (Nat.le_of_ble_eq_true rfl) dX6_init_27 ⟨Nat.le_of_ble_eq_true rfl, Nat.le_of_ble_eq_true rfl⟩) hL (fun u H locs hq hW hL => ?_)
  subst hq
  refine p_X6_21 Cx hnm hW hL (k := 193) (by decide) rfl dX6_init_30 (fun H locs hW hL => ?_)
  refine lv_aload_n hx hb dX6_init_33 rfl (lv_at hl 0 rfl) ?_
  refine n_X6_11 Cx hW rfl (Nat.le_of_ble_eq_true rfl) (Nat.le_of_ble_eq_true rfl) dX6_init_34 (fun H hW => ?_)
  refine lv_dup hx hb dX6_init_37 rfl ?_
  refine sBv (sInN (As := []) (rest := [.ref (G.2.2.1 + 198), .ref (G.2.2.1 + 193)]) (k := 198) Cx (t43_X0_init l G (sR (sR (sR (sR S 193 0 (.ref (G.2.2.1 + 194))) 193 1 (.ref (G.2.2.1 + 195))) 196 0 (.ref (G.2.2.1 + 197))) 193 2 (.ref (G.2.2.1 + 196)))) (c_X6_20 Cx rfl rfl ⟨Nat.le_of_ble_eq_true rfl, Nat.le_of_ble_eq_true rfl⟩) hW rfl hl.1 rfl (Nat.le_of_ble_eq_true rfl) dX6_init_38 ⟨Nat.le_of_ble_eq_true rfl, Nat.le_of_ble_eq_true rfl⟩) hL (fun u H locs hq hW hL => ?_)
  subst hq
  refine p_X6_25 Cx hnm hW hL (k := 193) (by decide) rfl dX6_init_41 (fun H locs hW hL => ?_)
  refine lv_aload_n hx hb dX6_init_44 rfl (lv_at hl 0 rfl) ?_
  refine n_X6_11 Cx hW rfl (Nat.le_of_ble_eq_true rfl) (Nat.le_of_ble_eq_true rfl) dX6_init_45 (fun H hW => ?_)
  refine lv_dup hx hb dX6_init_48 rfl ?_
  refine sBv (sInN (As := []) (rest := [.ref (G.2.2.1 + 200), .ref (G.2.2.1 + 193)]) (k := 200) Cx (t44_X0_init l G (sR (sR (sR (sR (sR (sR S 193 0 (.ref (G.2.2.1 + 194))) 193 1 (.ref (G.2.2.1 + 195))) 196 0 (.ref (G.2.2.1 + 197))) 193 2 (.ref (G.2.2.1 + 196))) 198 0 (.ref (G.2.2.1 + 199))) 193 3 (.ref (G.2.2.1 + 198)))) (c_X6_20 Cx rfl rfl ⟨Nat.le_of_ble_eq_true rfl, Nat.le_of_ble_eq_true rfl⟩) hW rfl hl.1 rfl (Nat.le_of_ble_eq_true rfl) dX6_init_49 ⟨Nat.le_of_ble_eq_true rfl, Nat.le_of_ble_eq_true rfl⟩) hL (fun u H locs hq hW hL => ?_)
  subst hq
  refine p_X6_28 Cx hnm hW hL (k := 193) (by decide) rfl dX6_init_52 (fun H locs hW hL => ?_)
  refine lv_aload_n hx hb dX6_init_55 rfl (lv_at hl 0 rfl) ?_
  refine n_X6_11 Cx hW rfl (Nat.le_of_ble_eq_true rfl) (Nat.le_of_ble_eq_true rfl) dX6_init_56 (fun H hW => ?_)
  refine lv_dup hx hb dX6_init_59 rfl ?_
  refine sBv (sInN (As := []) (rest := [.ref (G.2.2.1 + 202), .ref (G.2.2.1 + 193)]) (k := 202) Cx (t45_X0_init l G (sR (sR (sR (sR (sR (sR (sR (sR S 193 0 (.ref (G.2.2.1 + 194))) 193 1 (.ref (G.2.2.1 + 195))) 196 0 (.ref (G.2.2.1 + 197))) 193 2 (.ref (G.2.2.1 + 196))) 198 0 (.ref (G.2.2.1 + 199))) 193 3 (.ref (G.2.2.1 + 198))) 200 0 (.ref (G.2.2.1 + 201))) 193 4 (.ref (G.2.2.1 + 200)))) (c_X6_20 Cx rfl rfl ⟨Nat.le_of_ble_eq_true rfl, Nat.le_of_ble_eq_true rfl⟩) hW rfl hl.1 rfl (Nat.le_of_ble_eq_true rfl) dX6_init_60 ⟨Nat.le_of_ble_eq_true rfl, Nat.le_of_ble_eq_true rfl⟩) hL (fun u H locs hq hW hL => ?_)
  subst hq
  refine p_X6_31 Cx hnm hW hL (k := 193) (by decide) rfl dX6_init_63 (fun H locs hW hL => ?_)
  refine lv_aload_n hx hb dX6_init_66 rfl (lv_at hl 0 rfl) ?_
  refine n_X6_11 Cx hW rfl (Nat.le_of_ble_eq_true rfl) (Nat.le_of_ble_eq_true rfl) dX6_init_67 (fun H hW => ?_)
  refine lv_dup hx hb dX6_init_70 rfl ?_
  refine sBv (sInN (As := []) (rest := [.ref (G.2.2.1 + 204), .ref (G.2.2.1 + 193)]) (k := 204) Cx (t46_X0_init l G (sR (sR (sR (sR (sR (sR (sR (sR (sR (sR S 193 0 (.ref (G.2.2.1 + 194))) 193 1 (.ref (G.2.2.1 + 195))) 196 0 (.ref (G.2.2.1 + 197))) 193 2 (.ref (G.2.2.1 + 196))) 198 0 (.ref (G.2.2.1 + 199))) 193 3 (.ref (G.2.2.1 + 198))) 200 0 (.ref (G.2.2.1 + 201))) 193 4 (.ref (G.2.2.1 + 200))) 202 0 (.ref (G.2.2.1 + 203))) 193 5 (.ref (G.2.2.1 + 202)))) (c_X6_20 Cx rfl rfl ⟨Nat.le_of_ble_eq_true rfl, Nat.le_of_ble_eq_true rfl⟩) hW rfl hl.1 rfl (Nat.le_of_ble_eq_true rfl) dX6_init_71 ⟨Nat.le_of_ble_eq_true rfl, Nat.le_of_ble_eq_true rfl⟩) hL (fun u H locs hq hW hL => ?_)
  subst hq
  refine p_X6_34 Cx hnm hW hL (k := 193) (by decide) rfl dX6_init_74 (fun H locs hW hL => ?_)
  refine lv_aload_n hx hb dX6_init_77 rfl (lv_at hl 0 rfl) ?_
  refine n_X6_11 Cx hW rfl (Nat.le_of_ble_eq_true rfl) (Nat.le_of_ble_eq_true rfl) dX6_init_78 (fun H hW => ?_)
  refine lv_dup hx hb dX6_init_81 rfl ?_
  refine sBv (sInN (As := []) (rest := [.ref (G.2.2.1 + 206), .ref (G.2.2.1 + 193)]) (k := 206) Cx (t47_X0_init l G (sR (sR (sR (sR (sR (sR (sR (sR (sR (sR (sR (sR S 193 0 (.ref (G.2.2.1 + 194))) 193 1 (.ref (G.2.2.1 + 195))) 196 0 (.ref (G.2.2.1 + 197))) 193 2 (.ref (G.2.2.1 + 196))) 198 0 (.ref (G.2.2.1 + 199))) 193 3 (.ref (G.2.2.1 + 198))) 200 0 (.ref (G.2.2.1 + 201))) 193 4 (.ref (G.2.2.1 + 200))) 202 0 (.ref (G.2.2.1 + 203))) 193 5 (.ref (G.2.2.1 + 202))) 204 0 (.ref (G.2.2.1 + 205))) 193 6 (.ref (G.2.2.1 + 204)))) (c_X6_20 Cx rfl rfl ⟨Nat.le_of_ble_eq_true rfl, Nat.le_of_ble_eq_true rfl⟩) hW rfl hl.1 rfl (Nat.le_of_ble_eq_true rfl) dX6_init_82 ⟨Nat.le_of_ble_eq_true rfl, Nat.le_of_ble_eq_true rfl⟩) hL (fun u H locs hq hW hL => ?_)
  subst hq
  refine p_X6_37 Cx hnm hW hL (k := 193) (by decide) rfl dX6_init_85 (fun H locs hW hL => ?_)
  exact sVret Cx hr hlk hW hL rfl dX6_init_88

set_option maxRecDepth 100000 in
set_option maxHeartbeats 4000000 in
theorem t49_X0_init (l : Launch) (G : sG) (S : sS)   : Met l yX0_init (.code yX0_init cX0_init 1 none :: tb) (rmk 1 1 32) (sPc G 210 S [.ref (G.2.2.1 + 209)]) (sQv G 211 (fun u => u = (sR S 209 0 (.ref (G.2.2.1 + 210))))) 1 32 (sF G) := by
  refine sEnter (by decide) (Nat.le_of_ble_eq_true rfl) ?_
  intro p e s m args below meth c Cx hr hlk hnm hW ls hl
  have Cx : sC G p m c cX0_init 1 s args RX0 := Cx
  obtain ⟨hx, hb, hml, hown, hts⟩ := id Cx.1
  have hL : sL G [] := sL_nil
  have hl : lv_has ls 1 [(0, .ref (G.2.2.1 + 209))] := hl
  refine lv_aload_n hx hb dX0_init_0 rfl (lv_at hl 0 rfl) ?_
  refine W.objInit hx hb hown (hts _ w_398) (hts _ w_233) (hts _ w_234) rfl (by rw [hml]; exact hl.1) rfl dX0_init_1 (Nat.le_of_ble_eq_true rfl) (Nat.le_of_ble_eq_true rfl) ?_
  refine W.eq (g2 := F0 m 4 ls []) rfl ?_
  refine lv_aload_n hx hb dX0_init_4 rfl (lv_at hl 0 rfl) ?_
  refine lv_bipush (v := 32) hx hb dX0_init_5 (by decide) ?_
  refine sNewa (atype := .int) (ty := .int) Cx (N := 32) rfl 0 rfl (fun U h => h) w_294 hW rfl rfl (by decide) rfl (Nat.le_of_ble_eq_true rfl) (Nat.le_of_ble_eq_true rfl) (Nat.le_of_ble_eq_true rfl) dX0_init_7 (fun H hW => ?_)
  refine p_X0_9 Cx hnm hW hL (k := 209) (by decide) rfl dX0_init_9 (fun H locs hW hL => ?_)
  exact sVret Cx hr hlk hW hL rfl dX0_init_12

set_option maxRecDepth 100000 in
set_option maxHeartbeats 4000000 in
theorem t50_X0_init (l : Launch) (G : sG) (S : sS)   : Met l yX0_init (.code yX0_init cX0_init 1 none :: tb) (rmk 1 1 32) (sPc G 212 S [.ref (G.2.2.1 + 211)]) (sQv G 213 (fun u => u = (sR S 211 0 (.ref (G.2.2.1 + 212))))) 1 32 (sF G) := by
  refine sEnter (by decide) (Nat.le_of_ble_eq_true rfl) ?_
  intro p e s m args below meth c Cx hr hlk hnm hW ls hl
  have Cx : sC G p m c cX0_init 1 s args RX0 := Cx
  obtain ⟨hx, hb, hml, hown, hts⟩ := id Cx.1
  have hL : sL G [] := sL_nil
  have hl : lv_has ls 1 [(0, .ref (G.2.2.1 + 211))] := hl
  refine lv_aload_n hx hb dX0_init_0 rfl (lv_at hl 0 rfl) ?_
  refine W.objInit hx hb hown (hts _ w_398) (hts _ w_233) (hts _ w_234) rfl (by rw [hml]; exact hl.1) rfl dX0_init_1 (Nat.le_of_ble_eq_true rfl) (Nat.le_of_ble_eq_true rfl) ?_
  refine W.eq (g2 := F0 m 4 ls []) rfl ?_
  refine lv_aload_n hx hb dX0_init_4 rfl (lv_at hl 0 rfl) ?_
  refine lv_bipush (v := 32) hx hb dX0_init_5 (by decide) ?_
  refine sNewa (atype := .int) (ty := .int) Cx (N := 32) rfl 0 rfl (fun U h => h) w_294 hW rfl rfl (by decide) rfl (Nat.le_of_ble_eq_true rfl) (Nat.le_of_ble_eq_true rfl) (Nat.le_of_ble_eq_true rfl) dX0_init_7 (fun H hW => ?_)
  refine p_X0_9 Cx hnm hW hL (k := 211) (by decide) rfl dX0_init_9 (fun H locs hW hL => ?_)
  exact sVret Cx hr hlk hW hL rfl dX0_init_12

set_option maxRecDepth 100000 in
set_option maxHeartbeats 4000000 in
theorem t51_X0_init (l : Launch) (G : sG) (S : sS)   : Met l yX0_init (.code yX0_init cX0_init 1 none :: tb) (rmk 1 1 32) (sPc G 214 S [.ref (G.2.2.1 + 213)]) (sQv G 215 (fun u => u = (sR S 213 0 (.ref (G.2.2.1 + 214))))) 1 32 (sF G) := by
  refine sEnter (by decide) (Nat.le_of_ble_eq_true rfl) ?_
  intro p e s m args below meth c Cx hr hlk hnm hW ls hl
  have Cx : sC G p m c cX0_init 1 s args RX0 := Cx
  obtain ⟨hx, hb, hml, hown, hts⟩ := id Cx.1
  have hL : sL G [] := sL_nil
  have hl : lv_has ls 1 [(0, .ref (G.2.2.1 + 213))] := hl
  refine lv_aload_n hx hb dX0_init_0 rfl (lv_at hl 0 rfl) ?_
  refine W.objInit hx hb hown (hts _ w_398) (hts _ w_233) (hts _ w_234) rfl (by rw [hml]; exact hl.1) rfl dX0_init_1 (Nat.le_of_ble_eq_true rfl) (Nat.le_of_ble_eq_true rfl) ?_
  refine W.eq (g2 := F0 m 4 ls []) rfl ?_
  refine lv_aload_n hx hb dX0_init_4 rfl (lv_at hl 0 rfl) ?_
  refine lv_bipush (v := 32) hx hb dX0_init_5 (by decide) ?_
  refine sNewa (atype := .int) (ty := .int) Cx (N := 32) rfl 0 rfl (fun U h => h) w_294 hW rfl rfl (by decide) rfl (Nat.le_of_ble_eq_true rfl) (Nat.le_of_ble_eq_true rfl) (Nat.le_of_ble_eq_true rfl) dX0_init_7 (fun H hW => ?_)
  refine p_X0_9 Cx hnm hW hL (k := 213) (by decide) rfl dX0_init_9 (fun H locs hW hL => ?_)
  exact sVret Cx hr hlk hW hL rfl dX0_init_12

set_option maxRecDepth 100000 in
set_option maxHeartbeats 4000000 in
theorem t52_X0_init (l : Launch) (G : sG) (S : sS)   : Met l yX0_init (.code yX0_init cX0_init 1 none :: tb) (rmk 1 1 32) (sPc G 216 S [.ref (G.2.2.1 + 215)]) (sQv G 217 (fun u => u = (sR S 215 0 (.ref (G.2.2.1 + 216))))) 1 32 (sF G) := by
  refine sEnter (by decide) (Nat.le_of_ble_eq_true rfl) ?_
  intro p e s m args below meth c Cx hr hlk hnm hW ls hl
  have Cx : sC G p m c cX0_init 1 s args RX0 := Cx
  obtain ⟨hx, hb, hml, hown, hts⟩ := id Cx.1
  have hL : sL G [] := sL_nil
  have hl : lv_has ls 1 [(0, .ref (G.2.2.1 + 215))] := hl
  refine lv_aload_n hx hb dX0_init_0 rfl (lv_at hl 0 rfl) ?_
  refine W.objInit hx hb hown (hts _ w_398) (hts _ w_233) (hts _ w_234) rfl (by rw [hml]; exact hl.1) rfl dX0_init_1 (Nat.le_of_ble_eq_true rfl) (Nat.le_of_ble_eq_true rfl) ?_
  refine W.eq (g2 := F0 m 4 ls []) rfl ?_
  refine lv_aload_n hx hb dX0_init_4 rfl (lv_at hl 0 rfl) ?_
  refine lv_bipush (v := 32) hx hb dX0_init_5 (by decide) ?_
  refine sNewa (atype := .int) (ty := .int) Cx (N := 32) rfl 0 rfl (fun U h => h) w_294 hW rfl rfl (by decide) rfl (Nat.le_of_ble_eq_true rfl) (Nat.le_of_ble_eq_true rfl) (Nat.le_of_ble_eq_true rfl) dX0_init_7 (fun H hW => ?_)
  refine p_X0_9 Cx hnm hW hL (k := 215) (by decide) rfl dX0_init_9 (fun H locs hW hL => ?_)
  exact sVret Cx hr hlk hW hL rfl dX0_init_12

set_option maxRecDepth 100000 in
set_option maxHeartbeats 4000000 in
theorem t53_X0_init (l : Launch) (G : sG) (S : sS)   : Met l yX0_init (.code yX0_init cX0_init 1 none :: tb) (rmk 1 1 32) (sPc G 218 S [.ref (G.2.2.1 + 217)]) (sQv G 219 (fun u => u = (sR S 217 0 (.ref (G.2.2.1 + 218))))) 1 32 (sF G) := by
  refine sEnter (by decide) (Nat.le_of_ble_eq_true rfl) ?_
  intro p e s m args below meth c Cx hr hlk hnm hW ls hl
  have Cx : sC G p m c cX0_init 1 s args RX0 := Cx
  obtain ⟨hx, hb, hml, hown, hts⟩ := id Cx.1
  have hL : sL G [] := sL_nil
  have hl : lv_has ls 1 [(0, .ref (G.2.2.1 + 217))] := hl
  refine lv_aload_n hx hb dX0_init_0 rfl (lv_at hl 0 rfl) ?_
  refine W.objInit hx hb hown (hts _ w_398) (hts _ w_233) (hts _ w_234) rfl (by rw [hml]; exact hl.1) rfl dX0_init_1 (Nat.le_of_ble_eq_true rfl) (Nat.le_of_ble_eq_true rfl) ?_
  refine W.eq (g2 := F0 m 4 ls []) rfl ?_
  refine lv_aload_n hx hb dX0_init_4 rfl (lv_at hl 0 rfl) ?_
  refine lv_bipush (v := 32) hx hb dX0_init_5 (by decide) ?_
  refine sNewa (atype := .int) (ty := .int) Cx (N := 32) rfl 0 rfl (fun U h => h) w_294 hW rfl rfl (by decide) rfl (Nat.le_of_ble_eq_true rfl) (Nat.le_of_ble_eq_true rfl) (Nat.le_of_ble_eq_true rfl) dX0_init_7 (fun H hW => ?_)
  refine p_X0_9 Cx hnm hW hL (k := 217) (by decide) rfl dX0_init_9 (fun H locs hW hL => ?_)
  exact sVret Cx hr hlk hW hL rfl dX0_init_12

set_option maxRecDepth 100000 in
set_option maxHeartbeats 4000000 in
theorem t54_X0_init (l : Launch) (G : sG) (S : sS)   : Met l yX0_init (.code yX0_init cX0_init 1 none :: tb) (rmk 1 1 32) (sPc G 220 S [.ref (G.2.2.1 + 219)]) (sQv G 221 (fun u => u = (sR S 219 0 (.ref (G.2.2.1 + 220))))) 1 32 (sF G) := by
  refine sEnter (by decide) (Nat.le_of_ble_eq_true rfl) ?_
  intro p e s m args below meth c Cx hr hlk hnm hW ls hl
  have Cx : sC G p m c cX0_init 1 s args RX0 := Cx
  obtain ⟨hx, hb, hml, hown, hts⟩ := id Cx.1
  have hL : sL G [] := sL_nil
  have hl : lv_has ls 1 [(0, .ref (G.2.2.1 + 219))] := hl
  refine lv_aload_n hx hb dX0_init_0 rfl (lv_at hl 0 rfl) ?_
  refine W.objInit hx hb hown (hts _ w_398) (hts _ w_233) (hts _ w_234) rfl (by rw [hml]; exact hl.1) rfl dX0_init_1 (Nat.le_of_ble_eq_true rfl) (Nat.le_of_ble_eq_true rfl) ?_
  refine W.eq (g2 := F0 m 4 ls []) rfl ?_
  refine lv_aload_n hx hb dX0_init_4 rfl (lv_at hl 0 rfl) ?_
  refine lv_bipush (v := 32) hx hb dX0_init_5 (by decide) ?_
  refine sNewa (atype := .int) (ty := .int) Cx (N := 32) rfl 0 rfl (fun U h => h) w_294 hW rfl rfl (by decide) rfl (Nat.le_of_ble_eq_true rfl) (Nat.le_of_ble_eq_true rfl) (Nat.le_of_ble_eq_true rfl) dX0_init_7 (fun H hW => ?_)
  refine p_X0_9 Cx hnm hW hL (k := 219) (by decide) rfl dX0_init_9 (fun H locs hW hL => ?_)
  exact sVret Cx hr hlk hW hL rfl dX0_init_12

set_option maxRecDepth 100000 in
set_option maxHeartbeats 4000000 in
theorem t55_X0_init (l : Launch) (G : sG) (S : sS)   : Met l yX0_init (.code yX0_init cX0_init 1 none :: tb) (rmk 1 1 32) (sPc G 222 S [.ref (G.2.2.1 + 221)]) (sQv G 223 (fun u => u = (sR S 221 0 (.ref (G.2.2.1 + 222))))) 1 32 (sF G) := by
  refine sEnter (by decide) (Nat.le_of_ble_eq_true rfl) ?_
  intro p e s m args below meth c Cx hr hlk hnm hW ls hl
  have Cx : sC G p m c cX0_init 1 s args RX0 := Cx
  obtain ⟨hx, hb, hml, hown, hts⟩ := id Cx.1
  have hL : sL G [] := sL_nil
  have hl : lv_has ls 1 [(0, .ref (G.2.2.1 + 221))] := hl
  refine lv_aload_n hx hb dX0_init_0 rfl (lv_at hl 0 rfl) ?_
  refine W.objInit hx hb hown (hts _ w_398) (hts _ w_233) (hts _ w_234) rfl (by rw [hml]; exact hl.1) rfl dX0_init_1 (Nat.le_of_ble_eq_true rfl) (Nat.le_of_ble_eq_true rfl) ?_
  refine W.eq (g2 := F0 m 4 ls []) rfl ?_
  refine lv_aload_n hx hb dX0_init_4 rfl (lv_at hl 0 rfl) ?_
  refine lv_bipush (v := 32) hx hb dX0_init_5 (by decide) ?_
  refine sNewa (atype := .int) (ty := .int) Cx (N := 32) rfl 0 rfl (fun U h => h) w_294 hW rfl rfl (by decide) rfl (Nat.le_of_ble_eq_true rfl) (Nat.le_of_ble_eq_true rfl) (Nat.le_of_ble_eq_true rfl) dX0_init_7 (fun H hW => ?_)
  refine p_X0_9 Cx hnm hW hL (k := 221) (by decide) rfl dX0_init_9 (fun H locs hW hL => ?_)
  exact sVret Cx hr hlk hW hL rfl dX0_init_12

set_option maxRecDepth 100000 in
set_option maxHeartbeats 4000000 in
theorem t56_X0_init (l : Launch) (G : sG) (S : sS)   : Met l yX0_init (.code yX0_init cX0_init 1 none :: tb) (rmk 1 1 32) (sPc G 224 S [.ref (G.2.2.1 + 223)]) (sQv G 225 (fun u => u = (sR S 223 0 (.ref (G.2.2.1 + 224))))) 1 32 (sF G) := by
  refine sEnter (by decide) (Nat.le_of_ble_eq_true rfl) ?_
  intro p e s m args below meth c Cx hr hlk hnm hW ls hl
  have Cx : sC G p m c cX0_init 1 s args RX0 := Cx
  obtain ⟨hx, hb, hml, hown, hts⟩ := id Cx.1
  have hL : sL G [] := sL_nil
  have hl : lv_has ls 1 [(0, .ref (G.2.2.1 + 223))] := hl
  refine lv_aload_n hx hb dX0_init_0 rfl (lv_at hl 0 rfl) ?_
  refine W.objInit hx hb hown (hts _ w_398) (hts _ w_233) (hts _ w_234) rfl (by rw [hml]; exact hl.1) rfl dX0_init_1 (Nat.le_of_ble_eq_true rfl) (Nat.le_of_ble_eq_true rfl) ?_
  refine W.eq (g2 := F0 m 4 ls []) rfl ?_
  refine lv_aload_n hx hb dX0_init_4 rfl (lv_at hl 0 rfl) ?_
  refine lv_bipush (v := 32) hx hb dX0_init_5 (by decide) ?_
  refine sNewa (atype := .int) (ty := .int) Cx (N := 32) rfl 0 rfl (fun U h => h) w_294 hW rfl rfl (by decide) rfl (Nat.le_of_ble_eq_true rfl) (Nat.le_of_ble_eq_true rfl) (Nat.le_of_ble_eq_true rfl) dX0_init_7 (fun H hW => ?_)
  refine p_X0_9 Cx hnm hW hL (k := 223) (by decide) rfl dX0_init_9 (fun H locs hW hL => ?_)
  exact sVret Cx hr hlk hW hL rfl dX0_init_12

set_option maxRecDepth 100000 in
set_option maxHeartbeats 4000000 in
theorem t57_X3_init (l : Launch) (G : sG) (S : sS)   : Met l yX3_init (.code yX3_init cX3_init 1 none :: tb) (rmk 1 2 234) (sPc G 229 S [.ref (G.2.2.1 + 228)]) (sQv G 231 (fun u => u = (sR (sR S 228 0 (.ref (G.2.2.1 + 229))) 228 1 (.ref (G.2.2.1 + 230))))) 2 234 (sF G) := by
  refine sEnter (by decide) (Nat.le_of_ble_eq_true rfl) ?_
  intro p e s m args below meth c Cx hr hlk hnm hW ls hl
  have Cx : sC G p m c cX3_init 1 s args RX3 := Cx
  obtain ⟨hx, hb, hml, hown, hts⟩ := id Cx.1
  have hL : sL G [] := sL_nil
  have hl : lv_has ls 1 [(0, .ref (G.2.2.1 + 228))] := hl
  refine lv_aload_n hx hb dX3_init_0 rfl (lv_at hl 0 rfl) ?_
  refine W.objInit hx hb hown (hts _ w_260) (hts _ w_233) (hts _ w_234) rfl (by rw [hml]; exact hl.1) rfl dX3_init_1 (Nat.le_of_ble_eq_true rfl) (Nat.le_of_ble_eq_true rfl) ?_
  refine W.eq (g2 := F0 m 4 ls []) rfl ?_
  refine lv_aload_n hx hb dX3_init_4 rfl (lv_at hl 0 rfl) ?_
  refine lv_sipush (v := 221) hx hb dX3_init_5 (by decide) ?_
  refine sNewa (atype := .int) (ty := .int) Cx (N := 221) rfl 0 rfl (fun U h => h) w_294 hW rfl rfl (by decide) rfl (Nat.le_of_ble_eq_true rfl) (Nat.le_of_ble_eq_true rfl) (Nat.le_of_ble_eq_true rfl) dX3_init_8 (fun H hW => ?_)
  refine p_X3_11 Cx hnm hW hL (k := 228) (by decide) rfl dX3_init_10 (fun H locs hW hL => ?_)
  refine lv_aload_n hx hb dX3_init_13 rfl (lv_at hl 0 rfl) ?_
  refine lv_bipush (v := 13) hx hb dX3_init_14 (by decide) ?_
  refine sNewa (atype := .boolean) (ty := .boolean) Cx (N := 13) rfl 3 rfl (fun U h => h) w_295 hW rfl rfl (by decide) rfl (Nat.le_of_ble_eq_true rfl) (Nat.le_of_ble_eq_true rfl) (Nat.le_of_ble_eq_true rfl) dX3_init_16 (fun H hW => ?_)
  refine p_X3_15 Cx hnm hW hL (k := 228) (by decide) rfl dX3_init_18 (fun H locs hW hL => ?_)
  exact sVret Cx hr hlk hW hL rfl dX3_init_21

set_option maxRecDepth 100000 in
set_option maxHeartbeats 4000000 in
theorem t58_X1_init (l : Launch) (G : sG) (S : sS)   : Met l yX1_init (.code yX1_init cX1_init 1 none :: tb) (rmk 3 42 35853) (sPc G 189 S [.ref (G.2.2.1 + 188)]) (sQv G 231 (fun u => u = (sR (sR (sR (sR (sR (sR (sR (sR (sR (sR (sR (sR (sR (sR (sR (sR (sR (sR (sR (sR (sR (sR (sR (sR (sR (sR (sR (sR (sR (sR (sR (sR (sR (sR (sR (sR (sR (sR (sR (sR (sR (sR S 190 0 (.ref (G.2.2.1 + 191))) 189 0 (.ref (G.2.2.1 + 190))) 189 1 (.ref (G.2.2.1 + 192))) 188 0 (.ref (G.2.2.1 + 189))) 193 0 (.ref (G.2.2.1 + 194))) 193 1 (.ref (G.2.2.1 + 195))) 196 0 (.ref (G.2.2.1 + 197))) 193 2 (.ref (G.2.2.1 + 196))) 198 0 (.ref (G.2.2.1 + 199))) 193 3 (.ref (G.2.2.1 + 198))) 200 0 (.ref (G.2.2.1 + 201))) 193 4 (.ref (G.2.2.1 + 200))) 202 0 (.ref (G.2.2.1 + 203))) 193 5 (.ref (G.2.2.1 + 202))) 204 0 (.ref (G.2.2.1 + 205))) 193 6 (.ref (G.2.2.1 + 204))) 206 0 (.ref (G.2.2.1 + 207))) 193 7 (.ref (G.2.2.1 + 206))) 188 1 (.ref (G.2.2.1 + 193))) 188 2 (.ref (G.2.2.1 + 208))) 209 0 (.ref (G.2.2.1 + 210))) 188 3 (.ref (G.2.2.1 + 209))) 211 0 (.ref (G.2.2.1 + 212))) 188 4 (.ref (G.2.2.1 + 211))) 213 0 (.ref (G.2.2.1 + 214))) 188 5 (.ref (G.2.2.1 + 213))) 215 0 (.ref (G.2.2.1 + 216))) 188 6 (.ref (G.2.2.1 + 215))) 217 0 (.ref (G.2.2.1 + 218))) 188 7 (.ref (G.2.2.1 + 217))) 219 0 (.ref (G.2.2.1 + 220))) 188 8 (.ref (G.2.2.1 + 219))) 221 0 (.ref (G.2.2.1 + 222))) 188 9 (.ref (G.2.2.1 + 221))) 223 0 (.ref (G.2.2.1 + 224))) 188 10 (.ref (G.2.2.1 + 223))) 188 11 (.ref (G.2.2.1 + 225))) 188 12 (.ref (G.2.2.1 + 226))) 188 13 (.ref (G.2.2.1 + 227))) 228 0 (.ref (G.2.2.1 + 229))) 228 1 (.ref (G.2.2.1 + 230))) 188 15 (.ref (G.2.2.1 + 228))))) 42 35853 (sF G) := by
  refine sEnter (by decide) (Nat.le_of_ble_eq_true rfl) ?_
  intro p e s m args below meth c Cx hr hlk hnm hW ls hl
  have Cx : sC G p m c cX1_init 1 s args RX1 := Cx
  obtain ⟨hx, hb, hml, hown, hts⟩ := id Cx.1
  have hL : sL G [] := sL_nil
  have hl : lv_has ls 1 [(0, .ref (G.2.2.1 + 188))] := hl
  refine lv_aload_n hx hb dX1_init_0 rfl (lv_at hl 0 rfl) ?_
  refine W.objInit hx hb hown (hts _ w_621) (hts _ w_233) (hts _ w_234) rfl (by rw [hml]; exact hl.1) rfl dX1_init_1 (Nat.le_of_ble_eq_true rfl) (Nat.le_of_ble_eq_true rfl) ?_
  refine W.eq (g2 := F0 m 4 ls []) rfl ?_
  refine lv_aload_n hx hb dX1_init_4 rfl (lv_at hl 0 rfl) ?_
  refine n_X1_9 Cx hW rfl (Nat.le_of_ble_eq_true rfl) (Nat.le_of_ble_eq_true rfl) dX1_init_5 (fun H hW => ?_)
  refine lv_dup hx hb dX1_init_8 rfl ?_
  refine sBv (sInN (As := []) (rest := [.ref (G.2.2.1 + 189), .ref (G.2.2.1 + 188)]) (k := 189) Cx (t41_X4_init l G S) (c_X1_11 Cx rfl rfl ⟨Nat.le_of_ble_eq_true rfl, Nat.le_of_ble_eq_true rfl⟩) hW rfl hl.1 rfl (Nat.le_of_ble_eq_true rfl) dX1_init_9 ⟨Nat.le_of_ble_eq_true rfl, Nat.le_of_ble_eq_true rfl⟩) hL (fun u H locs hq hW hL => ?_)
  subst hq
  refine p_X1_12 Cx hnm hW hL (k := 188) (by decide) rfl dX1_init_12 (fun H locs hW hL => ?_)
  refine lv_aload_n hx hb dX1_init_15 rfl (lv_at hl 0 rfl) ?_
  refine n_X1_18 Cx hW rfl (Nat.le_of_ble_eq_true rfl) (Nat.le_of_ble_eq_true rfl) dX1_init_16 (fun H hW => ?_)
  refine lv_dup hx hb dX1_init_19 rfl ?_
  refine sBv (sInN (As := []) (rest := [.ref (G.2.2.1 + 193), .ref (G.2.2.1 + 188)]) (k := 193) Cx (t48_X6_init l G (sR (sR (sR (sR S 190 0 (.ref (G.2.2.1 + 191))) 189 0 (.ref (G.2.2.1 + 190))) 189 1 (.ref (G.2.2.1 + 192))) 188 0 (.ref (G.2.2.1 + 189)))) (c_X1_20 Cx rfl rfl ⟨Nat.le_of_ble_eq_true rfl, Nat.le_of_ble_eq_true rfl⟩) hW rfl hl.1 rfl (Nat.le_of_ble_eq_true rfl) dX1_init_20 ⟨Nat.le_of_ble_eq_true rfl, Nat.le_of_ble_eq_true rfl⟩) hL (fun u H locs hq hW hL => ?_)
  subst hq
  refine p_X1_21 Cx hnm hW hL (k := 188) (by decide) rfl dX1_init_23 (fun H locs hW hL => ?_)
  refine lv_aload_n hx hb dX1_init_26 rfl (lv_at hl 0 rfl) ?_
  refine lv_bipush (v := 104) hx hb dX1_init_27 (by decide) ?_
  refine sNewa (atype := .int) (ty := .int) Cx (N := 104) rfl 0 rfl (fun U h => h) w_294 hW rfl rfl (by decide) rfl (Nat.le_of_ble_eq_true rfl) (Nat.le_of_ble_eq_true rfl) (Nat.le_of_ble_eq_true rfl) dX1_init_29 (fun H hW => ?_)
  refine p_X1_27 Cx hnm hW hL (k := 188) (by decide) rfl dX1_init_31 (fun H locs hW hL => ?_)
  refine lv_aload_n hx hb dX1_init_34 rfl (lv_at hl 0 rfl) ?_
  refine n_X1_25 Cx hW rfl (Nat.le_of_ble_eq_true rfl) (Nat.le_of_ble_eq_true rfl) dX1_init_35 (fun H hW => ?_)
  refine lv_dup hx hb dX1_init_38 rfl ?_
  refine sBv (sInN (As := []) (rest := [.ref (G.2.2.1 + 209), .ref (G.2.2.1 + 188)]) (k := 209) Cx (t49_X0_init l G (sR (sR (sR (sR (sR (sR (sR (sR (sR (sR (sR (sR (sR (sR (sR (sR (sR (sR (sR (sR S 190 0 (.ref (G.2.2.1 + 191))) 189 0 (.ref (G.2.2.1 + 190))) 189 1 (.ref (G.2.2.1 + 192))) 188 0 (.ref (G.2.2.1 + 189))) 193 0 (.ref (G.2.2.1 + 194))) 193 1 (.ref (G.2.2.1 + 195))) 196 0 (.ref (G.2.2.1 + 197))) 193 2 (.ref (G.2.2.1 + 196))) 198 0 (.ref (G.2.2.1 + 199))) 193 3 (.ref (G.2.2.1 + 198))) 200 0 (.ref (G.2.2.1 + 201))) 193 4 (.ref (G.2.2.1 + 200))) 202 0 (.ref (G.2.2.1 + 203))) 193 5 (.ref (G.2.2.1 + 202))) 204 0 (.ref (G.2.2.1 + 205))) 193 6 (.ref (G.2.2.1 + 204))) 206 0 (.ref (G.2.2.1 + 207))) 193 7 (.ref (G.2.2.1 + 206))) 188 1 (.ref (G.2.2.1 + 193))) 188 2 (.ref (G.2.2.1 + 208)))) (c_X1_31 Cx rfl rfl ⟨Nat.le_of_ble_eq_true rfl, Nat.le_of_ble_eq_true rfl⟩) hW rfl hl.1 rfl (Nat.le_of_ble_eq_true rfl) dX1_init_39 ⟨Nat.le_of_ble_eq_true rfl, Nat.le_of_ble_eq_true rfl⟩) hL (fun u H locs hq hW hL => ?_)
  subst hq
  refine p_X1_32 Cx hnm hW hL (k := 188) (by decide) rfl dX1_init_42 (fun H locs hW hL => ?_)
  refine lv_aload_n hx hb dX1_init_45 rfl (lv_at hl 0 rfl) ?_
  refine n_X1_25 Cx hW rfl (Nat.le_of_ble_eq_true rfl) (Nat.le_of_ble_eq_true rfl) dX1_init_46 (fun H hW => ?_)
  refine lv_dup hx hb dX1_init_49 rfl ?_
  refine sBv (sInN (As := []) (rest := [.ref (G.2.2.1 + 211), .ref (G.2.2.1 + 188)]) (k := 211) Cx (t50_X0_init l G (sR (sR (sR (sR (sR (sR (sR (sR (sR (sR (sR (sR (sR (sR (sR (sR (sR (sR (sR (sR (sR (sR S 190 0 (.ref (G.2.2.1 + 191))) 189 0 (.ref (G.2.2.1 + 190))) 189 1 (.ref (G.2.2.1 + 192))) 188 0 (.ref (G.2.2.1 + 189))) 193 0 (.ref (G.2.2.1 + 194))) 193 1 (.ref (G.2.2.1 + 195))) 196 0 (.ref (G.2.2.1 + 197))) 193 2 (.ref (G.2.2.1 + 196))) 198 0 (.ref (G.2.2.1 + 199))) 193 3 (.ref (G.2.2.1 + 198))) 200 0 (.ref (G.2.2.1 + 201))) 193 4 (.ref (G.2.2.1 + 200))) 202 0 (.ref (G.2.2.1 + 203))) 193 5 (.ref (G.2.2.1 + 202))) 204 0 (.ref (G.2.2.1 + 205))) 193 6 (.ref (G.2.2.1 + 204))) 206 0 (.ref (G.2.2.1 + 207))) 193 7 (.ref (G.2.2.1 + 206))) 188 1 (.ref (G.2.2.1 + 193))) 188 2 (.ref (G.2.2.1 + 208))) 209 0 (.ref (G.2.2.1 + 210))) 188 3 (.ref (G.2.2.1 + 209)))) (c_X1_31 Cx rfl rfl ⟨Nat.le_of_ble_eq_true rfl, Nat.le_of_ble_eq_true rfl⟩) hW rfl hl.1 rfl (Nat.le_of_ble_eq_true rfl) dX1_init_50 ⟨Nat.le_of_ble_eq_true rfl, Nat.le_of_ble_eq_true rfl⟩) hL (fun u H locs hq hW hL => ?_)
  subst hq
  refine p_X1_36 Cx hnm hW hL (k := 188) (by decide) rfl dX1_init_53 (fun H locs hW hL => ?_)
  refine lv_aload_n hx hb dX1_init_56 rfl (lv_at hl 0 rfl) ?_
  refine n_X1_25 Cx hW rfl (Nat.le_of_ble_eq_true rfl) (Nat.le_of_ble_eq_true rfl) dX1_init_57 (fun H hW => ?_)
  refine lv_dup hx hb dX1_init_60 rfl ?_
  refine sBv (sInN (As := []) (rest := [.ref (G.2.2.1 + 213), .ref (G.2.2.1 + 188)]) (k := 213) Cx (t51_X0_init l G (sR (sR (sR (sR (sR (sR (sR (sR (sR (sR (sR (sR (sR (sR (sR (sR (sR (sR (sR (sR (sR (sR (sR (sR S 190 0 (.ref (G.2.2.1 + 191))) 189 0 (.ref (G.2.2.1 + 190))) 189 1 (.ref (G.2.2.1 + 192))) 188 0 (.ref (G.2.2.1 + 189))) 193 0 (.ref (G.2.2.1 + 194))) 193 1 (.ref (G.2.2.1 + 195))) 196 0 (.ref (G.2.2.1 + 197))) 193 2 (.ref (G.2.2.1 + 196))) 198 0 (.ref (G.2.2.1 + 199))) 193 3 (.ref (G.2.2.1 + 198))) 200 0 (.ref (G.2.2.1 + 201))) 193 4 (.ref (G.2.2.1 + 200))) 202 0 (.ref (G.2.2.1 + 203))) 193 5 (.ref (G.2.2.1 + 202))) 204 0 (.ref (G.2.2.1 + 205))) 193 6 (.ref (G.2.2.1 + 204))) 206 0 (.ref (G.2.2.1 + 207))) 193 7 (.ref (G.2.2.1 + 206))) 188 1 (.ref (G.2.2.1 + 193))) 188 2 (.ref (G.2.2.1 + 208))) 209 0 (.ref (G.2.2.1 + 210))) 188 3 (.ref (G.2.2.1 + 209))) 211 0 (.ref (G.2.2.1 + 212))) 188 4 (.ref (G.2.2.1 + 211)))) (c_X1_31 Cx rfl rfl ⟨Nat.le_of_ble_eq_true rfl, Nat.le_of_ble_eq_true rfl⟩) hW rfl hl.1 rfl (Nat.le_of_ble_eq_true rfl) dX1_init_61 ⟨Nat.le_of_ble_eq_true rfl, Nat.le_of_ble_eq_true rfl⟩) hL (fun u H locs hq hW hL => ?_)
  subst hq
  refine p_X1_39 Cx hnm hW hL (k := 188) (by decide) rfl dX1_init_64 (fun H locs hW hL => ?_)
  refine lv_aload_n hx hb dX1_init_67 rfl (lv_at hl 0 rfl) ?_
  refine n_X1_25 Cx hW rfl (Nat.le_of_ble_eq_true rfl) (Nat.le_of_ble_eq_true rfl) dX1_init_68 (fun H hW => ?_)
  refine lv_dup hx hb dX1_init_71 rfl ?_
  refine sBv (sInN (As := []) (rest := [.ref (G.2.2.1 + 215), .ref (G.2.2.1 + 188)]) (k := 215) Cx (t52_X0_init l G (sR (sR (sR (sR (sR (sR (sR (sR (sR (sR (sR (sR (sR (sR (sR (sR (sR (sR (sR (sR (sR (sR (sR (sR (sR (sR S 190 0 (.ref (G.2.2.1 + 191))) 189 0 (.ref (G.2.2.1 + 190))) 189 1 (.ref (G.2.2.1 + 192))) 188 0 (.ref (G.2.2.1 + 189))) 193 0 (.ref (G.2.2.1 + 194))) 193 1 (.ref (G.2.2.1 + 195))) 196 0 (.ref (G.2.2.1 + 197))) 193 2 (.ref (G.2.2.1 + 196))) 198 0 (.ref (G.2.2.1 + 199))) 193 3 (.ref (G.2.2.1 + 198))) 200 0 (.ref (G.2.2.1 + 201))) 193 4 (.ref (G.2.2.1 + 200))) 202 0 (.ref (G.2.2.1 + 203))) 193 5 (.ref (G.2.2.1 + 202))) 204 0 (.ref (G.2.2.1 + 205))) 193 6 (.ref (G.2.2.1 + 204))) 206 0 (.ref (G.2.2.1 + 207))) 193 7 (.ref (G.2.2.1 + 206))) 188 1 (.ref (G.2.2.1 + 193))) 188 2 (.ref (G.2.2.1 + 208))) 209 0 (.ref (G.2.2.1 + 210))) 188 3 (.ref (G.2.2.1 + 209))) 211 0 (.ref (G.2.2.1 + 212))) 188 4 (.ref (G.2.2.1 + 211))) 213 0 (.ref (G.2.2.1 + 214))) 188 5 (.ref (G.2.2.1 + 213)))) (c_X1_31 Cx rfl rfl ⟨Nat.le_of_ble_eq_true rfl, Nat.le_of_ble_eq_true rfl⟩) hW rfl hl.1 rfl (Nat.le_of_ble_eq_true rfl) dX1_init_72 ⟨Nat.le_of_ble_eq_true rfl, Nat.le_of_ble_eq_true rfl⟩) hL (fun u H locs hq hW hL => ?_)
  subst hq
  refine p_X1_42 Cx hnm hW hL (k := 188) (by decide) rfl dX1_init_75 (fun H locs hW hL => ?_)
  refine lv_aload_n hx hb dX1_init_78 rfl (lv_at hl 0 rfl) ?_
  refine n_X1_25 Cx hW rfl (Nat.le_of_ble_eq_true rfl) (Nat.le_of_ble_eq_true rfl) dX1_init_79 (fun H hW => ?_)
  refine lv_dup hx hb dX1_init_82 rfl ?_
  refine sBv (sInN (As := []) (rest := [.ref (G.2.2.1 + 217), .ref (G.2.2.1 + 188)]) (k := 217) Cx (t53_X0_init l G (sR (sR (sR (sR (sR (sR (sR (sR (sR (sR (sR (sR (sR (sR (sR (sR (sR (sR (sR (sR (sR (sR (sR (sR (sR (sR (sR (sR S 190 0 (.ref (G.2.2.1 + 191))) 189 0 (.ref (G.2.2.1 + 190))) 189 1 (.ref (G.2.2.1 + 192))) 188 0 (.ref (G.2.2.1 + 189))) 193 0 (.ref (G.2.2.1 + 194))) 193 1 (.ref (G.2.2.1 + 195))) 196 0 (.ref (G.2.2.1 + 197))) 193 2 (.ref (G.2.2.1 + 196))) 198 0 (.ref (G.2.2.1 + 199))) 193 3 (.ref (G.2.2.1 + 198))) 200 0 (.ref (G.2.2.1 + 201))) 193 4 (.ref (G.2.2.1 + 200))) 202 0 (.ref (G.2.2.1 + 203))) 193 5 (.ref (G.2.2.1 + 202))) 204 0 (.ref (G.2.2.1 + 205))) 193 6 (.ref (G.2.2.1 + 204))) 206 0 (.ref (G.2.2.1 + 207))) 193 7 (.ref (G.2.2.1 + 206))) 188 1 (.ref (G.2.2.1 + 193))) 188 2 (.ref (G.2.2.1 + 208))) 209 0 (.ref (G.2.2.1 + 210))) 188 3 (.ref (G.2.2.1 + 209))) 211 0 (.ref (G.2.2.1 + 212))) 188 4 (.ref (G.2.2.1 + 211))) 213 0 (.ref (G.2.2.1 + 214))) 188 5 (.ref (G.2.2.1 + 213))) 215 0 (.ref (G.2.2.1 + 216))) 188 6 (.ref (G.2.2.1 + 215)))) (c_X1_31 Cx rfl rfl ⟨Nat.le_of_ble_eq_true rfl, Nat.le_of_ble_eq_true rfl⟩) hW rfl hl.1 rfl (Nat.le_of_ble_eq_true rfl) dX1_init_83 ⟨Nat.le_of_ble_eq_true rfl, Nat.le_of_ble_eq_true rfl⟩) hL (fun u H locs hq hW hL => ?_)
  subst hq
  refine p_X1_45 Cx hnm hW hL (k := 188) (by decide) rfl dX1_init_86 (fun H locs hW hL => ?_)
  refine lv_aload_n hx hb dX1_init_89 rfl (lv_at hl 0 rfl) ?_
  refine n_X1_25 Cx hW rfl (Nat.le_of_ble_eq_true rfl) (Nat.le_of_ble_eq_true rfl) dX1_init_90 (fun H hW => ?_)
  refine lv_dup hx hb dX1_init_93 rfl ?_
  refine sBv (sInN (As := []) (rest := [.ref (G.2.2.1 + 219), .ref (G.2.2.1 + 188)]) (k := 219) Cx (t54_X0_init l G (sR (sR (sR (sR (sR (sR (sR (sR (sR (sR (sR (sR (sR (sR (sR (sR (sR (sR (sR (sR (sR (sR (sR (sR (sR (sR (sR (sR (sR (sR S 190 0 (.ref (G.2.2.1 + 191))) 189 0 (.ref (G.2.2.1 + 190))) 189 1 (.ref (G.2.2.1 + 192))) 188 0 (.ref (G.2.2.1 + 189))) 193 0 (.ref (G.2.2.1 + 194))) 193 1 (.ref (G.2.2.1 + 195))) 196 0 (.ref (G.2.2.1 + 197))) 193 2 (.ref (G.2.2.1 + 196))) 198 0 (.ref (G.2.2.1 + 199))) 193 3 (.ref (G.2.2.1 + 198))) 200 0 (.ref (G.2.2.1 + 201))) 193 4 (.ref (G.2.2.1 + 200))) 202 0 (.ref (G.2.2.1 + 203))) 193 5 (.ref (G.2.2.1 + 202))) 204 0 (.ref (G.2.2.1 + 205))) 193 6 (.ref (G.2.2.1 + 204))) 206 0 (.ref (G.2.2.1 + 207))) 193 7 (.ref (G.2.2.1 + 206))) 188 1 (.ref (G.2.2.1 + 193))) 188 2 (.ref (G.2.2.1 + 208))) 209 0 (.ref (G.2.2.1 + 210))) 188 3 (.ref (G.2.2.1 + 209))) 211 0 (.ref (G.2.2.1 + 212))) 188 4 (.ref (G.2.2.1 + 211))) 213 0 (.ref (G.2.2.1 + 214))) 188 5 (.ref (G.2.2.1 + 213))) 215 0 (.ref (G.2.2.1 + 216))) 188 6 (.ref (G.2.2.1 + 215))) 217 0 (.ref (G.2.2.1 + 218))) 188 7 (.ref (G.2.2.1 + 217)))) (c_X1_31 Cx rfl rfl ⟨Nat.le_of_ble_eq_true rfl, Nat.le_of_ble_eq_true rfl⟩) hW rfl hl.1 rfl (Nat.le_of_ble_eq_true rfl) dX1_init_94 ⟨Nat.le_of_ble_eq_true rfl, Nat.le_of_ble_eq_true rfl⟩) hL (fun u H locs hq hW hL => ?_)
  subst hq
  refine p_X1_48 Cx hnm hW hL (k := 188) (by decide) rfl dX1_init_97 (fun H locs hW hL => ?_)
  refine lv_aload_n hx hb dX1_init_100 rfl (lv_at hl 0 rfl) ?_
  refine n_X1_25 Cx hW rfl (Nat.le_of_ble_eq_true rfl) (Nat.le_of_ble_eq_true rfl) dX1_init_101 (fun H hW => ?_)
  refine lv_dup hx hb dX1_init_104 rfl ?_
  refine sBv (sInN (As := []) (rest := [.ref (G.2.2.1 + 221), .ref (G.2.2.1 + 188)]) (k := 221) Cx (t55_X0_init l G (sR (sR (sR (sR (sR (sR (sR (sR (sR (sR (sR (sR (sR (sR (sR (sR (sR (sR (sR (sR (sR (sR (sR (sR (sR (sR (sR (sR (sR (sR (sR (sR S 190 0 (.ref (G.2.2.1 + 191))) 189 0 (.ref (G.2.2.1 + 190))) 189 1 (.ref (G.2.2.1 + 192))) 188 0 (.ref (G.2.2.1 + 189))) 193 0 (.ref (G.2.2.1 + 194))) 193 1 (.ref (G.2.2.1 + 195))) 196 0 (.ref (G.2.2.1 + 197))) 193 2 (.ref (G.2.2.1 + 196))) 198 0 (.ref (G.2.2.1 + 199))) 193 3 (.ref (G.2.2.1 + 198))) 200 0 (.ref (G.2.2.1 + 201))) 193 4 (.ref (G.2.2.1 + 200))) 202 0 (.ref (G.2.2.1 + 203))) 193 5 (.ref (G.2.2.1 + 202))) 204 0 (.ref (G.2.2.1 + 205))) 193 6 (.ref (G.2.2.1 + 204))) 206 0 (.ref (G.2.2.1 + 207))) 193 7 (.ref (G.2.2.1 + 206))) 188 1 (.ref (G.2.2.1 + 193))) 188 2 (.ref (G.2.2.1 + 208))) 209 0 (.ref (G.2.2.1 + 210))) 188 3 (.ref (G.2.2.1 + 209))) 211 0 (.ref (G.2.2.1 + 212))) 188 4 (.ref (G.2.2.1 + 211))) 213 0 (.ref (G.2.2.1 + 214))) 188 5 (.ref (G.2.2.1 + 213))) 215 0 (.ref (G.2.2.1 + 216))) 188 6 (.ref (G.2.2.1 + 215))) 217 0 (.ref (G.2.2.1 + 218))) 188 7 (.ref (G.2.2.1 + 217))) 219 0 (.ref (G.2.2.1 + 220))) 188 8 (.ref (G.2.2.1 + 219)))) (c_X1_31 Cx rfl rfl ⟨Nat.le_of_ble_eq_true rfl, Nat.le_of_ble_eq_true rfl⟩) hW rfl hl.1 rfl (Nat.le_of_ble_eq_true rfl) dX1_init_105 ⟨Nat.le_of_ble_eq_true rfl, Nat.le_of_ble_eq_true rfl⟩) hL (fun u H locs hq hW hL => ?_)
  subst hq
  refine p_X1_51 Cx hnm hW hL (k := 188) (by decide) rfl dX1_init_108 (fun H locs hW hL => ?_)
  refine lv_aload_n hx hb dX1_init_111 rfl (lv_at hl 0 rfl) ?_
  refine n_X1_25 Cx hW rfl (Nat.le_of_ble_eq_true rfl) (Nat.le_of_ble_eq_true rfl) dX1_init_112 (fun H hW => ?_)
  refine lv_dup hx hb dX1_init_115 rfl ?_
  refine sBv (sInN (As := []) (rest := [.ref (G.2.2.1 + 223), .ref (G.2.2.1 + 188)]) (k := 223) Cx (t56_X0_init l G (sR (sR (sR (sR (sR (sR (sR (sR (sR (sR (sR (sR (sR (sR (sR (sR (sR (sR (sR (sR (sR (sR (sR (sR (sR (sR (sR (sR (sR (sR (sR (sR (sR (sR S 190 0 (.ref (G.2.2.1 + 191))) 189 0 (.ref (G.2.2.1 + 190))) 189 1 (.ref (G.2.2.1 + 192))) 188 0 (.ref (G.2.2.1 + 189))) 193 0 (.ref (G.2.2.1 + 194))) 193 1 (.ref (G.2.2.1 + 195))) 196 0 (.ref (G.2.2.1 + 197))) 193 2 (.ref (G.2.2.1 + 196))) 198 0 (.ref (G.2.2.1 + 199))) 193 3 (.ref (G.2.2.1 + 198))) 200 0 (.ref (G.2.2.1 + 201))) 193 4 (.ref (G.2.2.1 + 200))) 202 0 (.ref (G.2.2.1 + 203))) 193 5 (.ref (G.2.2.1 + 202))) 204 0 (.ref (G.2.2.1 + 205))) 193 6 (.ref (G.2.2.1 + 204))) 206 0 (.ref (G.2.2.1 + 207))) 193 7 (.ref (G.2.2.1 + 206))) 188 1 (.ref (G.2.2.1 + 193))) 188 2 (.ref (G.2.2.1 + 208))) 209 0 (.ref (G.2.2.1 + 210))) 188 3 (.ref (G.2.2.1 + 209))) 211 0 (.ref (G.2.2.1 + 212))) 188 4 (.ref (G.2.2.1 + 211))) 213 0 (.ref (G.2.2.1 + 214))) 188 5 (.ref (G.2.2.1 + 213))) 215 0 (.ref (G.2.2.1 + 216))) 188 6 (.ref (G.2.2.1 + 215))) 217 0 (.ref (G.2.2.1 + 218))) 188 7 (.ref (G.2.2.1 + 217))) 219 0 (.ref (G.2.2.1 + 220))) 188 8 (.ref (G.2.2.1 + 219))) 221 0 (.ref (G.2.2.1 + 222))) 188 9 (.ref (G.2.2.1 + 221)))) (c_X1_31 Cx rfl rfl ⟨Nat.le_of_ble_eq_true rfl, Nat.le_of_ble_eq_true rfl⟩) hW rfl hl.1 rfl (Nat.le_of_ble_eq_true rfl) dX1_init_116 ⟨Nat.le_of_ble_eq_true rfl, Nat.le_of_ble_eq_true rfl⟩) hL (fun u H locs hq hW hL => ?_)
  subst hq
  refine p_X1_54 Cx hnm hW hL (k := 188) (by decide) rfl dX1_init_119 (fun H locs hW hL => ?_)
  refine lv_aload_n hx hb dX1_init_122 rfl (lv_at hl 0 rfl) ?_
  refine lv_bipush (v := 41) hx hb dX1_init_123 (by decide) ?_
  refine sNewa (atype := .int) (ty := .int) Cx (N := 41) rfl 0 rfl (fun U h => h) w_294 hW rfl rfl (by decide) rfl (Nat.le_of_ble_eq_true rfl) (Nat.le_of_ble_eq_true rfl) (Nat.le_of_ble_eq_true rfl) dX1_init_125 (fun H hW => ?_)
  refine p_X1_57 Cx hnm hW hL (k := 188) (by decide) rfl dX1_init_127 (fun H locs hW hL => ?_)
  refine lv_aload_n hx hb dX1_init_130 rfl (lv_at hl 0 rfl) ?_
  refine lv_bipush (v := 41) hx hb dX1_init_131 (by decide) ?_
  refine sNewa (atype := .int) (ty := .int) Cx (N := 41) rfl 0 rfl (fun U h => h) w_294 hW rfl rfl (by decide) rfl (Nat.le_of_ble_eq_true rfl) (Nat.le_of_ble_eq_true rfl) (Nat.le_of_ble_eq_true rfl) dX1_init_133 (fun H hW => ?_)
  refine p_X1_60 Cx hnm hW hL (k := 188) (by decide) rfl dX1_init_135 (fun H locs hW hL => ?_)
  refine lv_aload_n hx hb dX1_init_138 rfl (lv_at hl 0 rfl) ?_
  refine lv_sipush (v := 328) hx hb dX1_init_139 (by decide) ?_
  refine sNewa (atype := .int) (ty := .int) Cx (N := 328) rfl 0 rfl (fun U h => h) w_294 hW rfl rfl (by decide) rfl (Nat.le_of_ble_eq_true rfl) (Nat.le_of_ble_eq_true rfl) (Nat.le_of_ble_eq_true rfl) dX1_init_142 (fun H hW => ?_)
  refine p_X1_63 Cx hnm hW hL (k := 188) (by decide) rfl dX1_init_144 (fun H locs hW hL => ?_)
  refine lv_aload_n hx hb dX1_init_147 rfl (lv_at hl 0 rfl) ?_
  refine n_X1_66 Cx hW rfl (Nat.le_of_ble_eq_true rfl) (Nat.le_of_ble_eq_true rfl) dX1_init_148 (fun H hW => ?_)
  refine lv_dup hx hb dX1_init_151 rfl ?_
  refine sBv (sInN (As := []) (rest := [.ref (G.2.2.1 + 228), .ref (G.2.2.1 + 188)]) (k := 228) Cx (t57_X3_init l G (sR (sR (sR (sR (sR (sR (sR (sR (sR (sR (sR (sR (sR (sR (sR (sR (sR (sR (sR (sR (sR (sR (sR (sR (sR (sR (sR (sR (sR (sR (sR (sR (sR (sR (sR (sR (sR (sR (sR S 190 0 (.ref (G.2.2.1 + 191))) 189 0 (.ref (G.2.2.1 + 190))) 189 1 (.ref (G.2.2.1 + 192))) 188 0 (.ref (G.2.2.1 + 189))) 193 0 (.ref (G.2.2.1 + 194))) 193 1 (.ref (G.2.2.1 + 195))) 196 0 (.ref (G.2.2.1 + 197))) 193 2 (.ref (G.2.2.1 + 196))) 198 0 (.ref (G.2.2.1 + 199))) 193 3 (.ref (G.2.2.1 + 198))) 200 0 (.ref (G.2.2.1 + 201))) 193 4 (.ref (G.2.2.1 + 200))) 202 0 (.ref (G.2.2.1 + 203))) 193 5 (.ref (G.2.2.1 + 202))) 204 0 (.ref (G.2.2.1 + 205))) 193 6 (.ref (G.2.2.1 + 204))) 206 0 (.ref (G.2.2.1 + 207))) 193 7 (.ref (G.2.2.1 + 206))) 188 1 (.ref (G.2.2.1 + 193))) 188 2 (.ref (G.2.2.1 + 208))) 209 0 (.ref (G.2.2.1 + 210))) 188 3 (.ref (G.2.2.1 + 209))) 211 0 (.ref (G.2.2.1 + 212))) 188 4 (.ref (G.2.2.1 + 211))) 213 0 (.ref (G.2.2.1 + 214))) 188 5 (.ref (G.2.2.1 + 213))) 215 0 (.ref (G.2.2.1 + 216))) 188 6 (.ref (G.2.2.1 + 215))) 217 0 (.ref (G.2.2.1 + 218))) 188 7 (.ref (G.2.2.1 + 217))) 219 0 (.ref (G.2.2.1 + 220))) 188 8 (.ref (G.2.2.1 + 219))) 221 0 (.ref (G.2.2.1 + 222))) 188 9 (.ref (G.2.2.1 + 221))) 223 0 (.ref (G.2.2.1 + 224))) 188 10 (.ref (G.2.2.1 + 223))) 188 11 (.ref (G.2.2.1 + 225))) 188 12 (.ref (G.2.2.1 + 226))) 188 13 (.ref (G.2.2.1 + 227)))) (c_X1_68 Cx rfl rfl ⟨Nat.le_of_ble_eq_true rfl, Nat.le_of_ble_eq_true rfl⟩) hW rfl hl.1 rfl (Nat.le_of_ble_eq_true rfl) dX1_init_152 ⟨Nat.le_of_ble_eq_true rfl, Nat.le_of_ble_eq_true rfl⟩) hL (fun u H locs hq hW hL => ?_)
  subst hq
  refine p_X1_69 Cx hW hL (k := 188) (by decide) rfl dX1_init_155 (fun H locs hW hL => ?_)
  exact sVret Cx hr hlk hW hL rfl dX1_init_158

set_option maxRecDepth 100000 in
set_option maxHeartbeats 4000000 in
theorem c_House (l : Launch) (G : sG) (S : sS)   : Met l yX11_init (.code yX11_init cX11_init 1 none :: tb) (rmk 4 230 225966) (sPc G 1 S [.ref (G.2.2.1 + 0)]) (sQv G 231 (fun u => u = (sI (sR (sR (sR (sR (sR (sR (sR (sR (sR (sR (sR (sR (sR (sR (sR (sR (sR (sR (sR (sR (sR (sR (sR (sR (sR (sR (sR (sR (sR (sR (sR (sR (sR (sR (sR (sR (sR (sR (sR (sR (sR (sR (sR (sR (sR (sR (sR (sR (sR (sR (sR (sR (sR (sR (sR (sR (sR (sR (sR (sR (sR (sR (sR (sR (sR (sR (sR (sR (sR (sR (sR (sR (sR (sR (sR (sR (sR (sR (sR (sR (sR (sR (sR (sR (sR (sR (sR (sR (sR (sR (sR (sR (sR (sR (sR (sR (sR (sR (sR (sR (sR (sR (sR (sR (sR (sR (sR (sR (sR (sR (sR (sR (sR (sR (sR (sR (sR (sR (sM G.2.2.1 (sR (sM G.2.2.1 (sR (sM G.2.2.1 (sR (sR (sR (sR (sR (sR (sR (sR (sR (sR (sR (sR (sR (sR (sR (sR (sR S 1 0 (.ref (G.2.2.1 + 2))) 0 0 (.ref (G.2.2.1 + 1))) 3 0 (.ref (G.2.2.1 + 4))) 0 1 (.ref (G.2.2.1 + 3))) 5 0 (.ref (G.2.2.1 + 6))) 5 1 (.ref (G.2.2.1 + 7))) 0 5 (.ref (G.2.2.1 + 5))) 8 0 (.ref (G.2.2.1 + 9))) 8 1 (.ref (G.2.2.1 + 10))) 0 6 (.ref (G.2.2.1 + 8))) 12 0 (.ref (G.2.2.1 + 13))) 12 1 (.ref (G.2.2.1 + 14))) 12 2 (.ref (G.2.2.1 + 15))) 11 0 (.ref (G.2.2.1 + 12))) 11 1 (.ref (G.2.2.1 + 16))) 11 2 (.ref (G.2.2.1 + 17))) 11 3 (.ref (G.2.2.1 + 18))) 19 31) 11 4 (.ref (G.2.2.1 + 19))) 51 31) 11 5 (.ref (G.2.2.1 + 51))) 83 31) 11 6 (.ref (G.2.2.1 + 83))) 11 7 (.ref (G.2.2.1 + 115))) 116 0 (.ref (G.2.2.1 + 117))) 116 1 (.ref (G.2.2.1 + 118))) 11 8 (.ref (G.2.2.1 + 116))) 0 2 (.ref (G.2.2.1 + 11))) 120 0 (.ref (G.2.2.1 + 121))) 120 1 (.ref (G.2.2.1 + 122))) 123 0 (.ref (G.2.2.1 + 124))) 120 2 (.ref (G.2.2.1 + 123))) 125 0 (.ref (G.2.2.1 + 126))) 120 3 (.ref (G.2.2.1 + 125))) 127 0 (.ref (G.2.2.1 + 128))) 120 4 (.ref (G.2.2.1 + 127))) 129 0 (.ref (G.2.2.1 + 130))) 120 5 (.ref (G.2.2.1 + 129))) 131 0 (.ref (G.2.2.1 + 132))) 120 6 (.ref (G.2.2.1 + 131))) 133 0 (.ref (G.2.2.1 + 134))) 120 7 (.ref (G.2.2.1 + 133))) 119 0 (.ref (G.2.2.1 + 120))) 135 0 (.ref (G.2.2.1 + 136))) 135 1 (.ref (G.2.2.1 + 137))) 135 2 (.ref (G.2.2.1 + 138))) 135 3 (.ref (G.2.2.1 + 139))) 135 4 (.ref (G.2.2.1 + 140))) 141 0 (.ref (G.2.2.1 + 142))) 135 5 (.ref (G.2.2.1 + 141))) 143 0 (.ref (G.2.2.1 + 144))) 135 6 (.ref (G.2.2.1 + 143))) 145 0 (.ref (G.2.2.1 + 146))) 135 7 (.ref (G.2.2.1 + 145))) 147 0 (.ref (G.2.2.1 + 148))) 135 8 (.ref (G.2.2.1 + 147))) 149 0 (.ref (G.2.2.1 + 150))) 135 9 (.ref (G.2.2.1 + 149))) 151 0 (.ref (G.2.2.1 + 152))) 135 10 (.ref (G.2.2.1 + 151))) 153 0 (.ref (G.2.2.1 + 154))) 135 11 (.ref (G.2.2.1 + 153))) 155 0 (.ref (G.2.2.1 + 156))) 135 12 (.ref (G.2.2.1 + 155))) 119 1 (.ref (G.2.2.1 + 135))) 158 0 (.ref (G.2.2.1 + 159))) 157 0 (.ref (G.2.2.1 + 158))) 160 0 (.ref (G.2.2.1 + 161))) 157 1 (.ref (G.2.2.1 + 160))) 157 2 (.ref (G.2.2.1 + 162))) 163 0 (.ref (G.2.2.1 + 164))) 157 3 (.ref (G.2.2.1 + 163))) 165 0 (.ref (G.2.2.1 + 166))) 157 4 (.ref (G.2.2.1 + 165))) 167 0 (.ref (G.2.2.1 + 168))) 157 5 (.ref (G.2.2.1 + 167))) 169 0 (.ref (G.2.2.1 + 170))) 157 6 (.ref (G.2.2.1 + 169))) 171 0 (.ref (G.2.2.1 + 172))) 157 7 (.ref (G.2.2.1 + 171))) 173 0 (.ref (G.2.2.1 + 174))) 157 8 (.ref (G.2.2.1 + 173))) 175 0 (.ref (G.2.2.1 + 176))) 157 9 (.ref (G.2.2.1 + 175))) 119 2 (.ref (G.2.2.1 + 157))) 177 0 (.ref (G.2.2.1 + 178))) 119 3 (.ref (G.2.2.1 + 177))) 179 0 (.ref (G.2.2.1 + 180))) 119 4 (.ref (G.2.2.1 + 179))) 181 0 (.ref (G.2.2.1 + 182))) 119 5 (.ref (G.2.2.1 + 181))) 183 0 (.ref (G.2.2.1 + 184))) 119 6 (.ref (G.2.2.1 + 183))) 185 0 (.ref (G.2.2.1 + 186))) 185 1 (.ref (G.2.2.1 + 187))) 119 7 (.ref (G.2.2.1 + 185))) 0 3 (.ref (G.2.2.1 + 119))) 190 0 (.ref (G.2.2.1 + 191))) 189 0 (.ref (G.2.2.1 + 190))) 189 1 (.ref (G.2.2.1 + 192))) 188 0 (.ref (G.2.2.1 + 189))) 193 0 (.ref (G.2.2.1 + 194))) 193 1 (.ref (G.2.2.1 + 195))) 196 0 (.ref (G.2.2.1 + 197))) 193 2 (.ref (G.2.2.1 + 196))) 198 0 (.ref (G.2.2.1 + 199))) 193 3 (.ref (G.2.2.1 + 198))) 200 0 (.ref (G.2.2.1 + 201))) 193 4 (.ref (G.2.2.1 + 200))) 202 0 (.ref (G.2.2.1 + 203))) 193 5 (.ref (G.2.2.1 + 202))) 204 0 (.ref (G.2.2.1 + 205))) 193 6 (.ref (G.2.2.1 + 204))) 206 0 (.ref (G.2.2.1 + 207))) 193 7 (.ref (G.2.2.1 + 206))) 188 1 (.ref (G.2.2.1 + 193))) 188 2 (.ref (G.2.2.1 + 208))) 209 0 (.ref (G.2.2.1 + 210))) 188 3 (.ref (G.2.2.1 + 209))) 211 0 (.ref (G.2.2.1 + 212))) 188 4 (.ref (G.2.2.1 + 211))) 213 0 (.ref (G.2.2.1 + 214))) 188 5 (.ref (G.2.2.1 + 213))) 215 0 (.ref (G.2.2.1 + 216))) 188 6 (.ref (G.2.2.1 + 215))) 217 0 (.ref (G.2.2.1 + 218))) 188 7 (.ref (G.2.2.1 + 217))) 219 0 (.ref (G.2.2.1 + 220))) 188 8 (.ref (G.2.2.1 + 219))) 221 0 (.ref (G.2.2.1 + 222))) 188 9 (.ref (G.2.2.1 + 221))) 223 0 (.ref (G.2.2.1 + 224))) 188 10 (.ref (G.2.2.1 + 223))) 188 11 (.ref (G.2.2.1 + 225))) 188 12 (.ref (G.2.2.1 + 226))) 188 13 (.ref (G.2.2.1 + 227))) 228 0 (.ref (G.2.2.1 + 229))) 228 1 (.ref (G.2.2.1 + 230))) 188 15 (.ref (G.2.2.1 + 228))) 0 4 (.ref (G.2.2.1 + 188))) 0 10 ((-1))))) 230 225966 (sF G) := by
  refine sEnter (by decide) (Nat.le_of_ble_eq_true rfl) ?_
  intro p e s m args below meth c Cx hr hlk hnm hW ls hl
  have Cx : sC G p m c cX11_init 1 s args RX11 := Cx
  obtain ⟨hx, hb, hml, hown, hts⟩ := id Cx.1
  have hL : sL G [] := sL_nil
  have hl : lv_has ls 1 [(0, .ref (G.2.2.1 + 0))] := hl
  refine lv_aload_n hx hb dX11_init_0 rfl (lv_at hl 0 rfl) ?_
  refine W.objInit hx hb hown (hts _ w_232) (hts _ w_233) (hts _ w_234) rfl (by rw [hml]; exact hl.1) rfl dX11_init_1 (Nat.le_of_ble_eq_true rfl) (Nat.le_of_ble_eq_true rfl) ?_
  refine W.eq (g2 := F0 m 4 ls []) rfl ?_
  refine lv_aload_n hx hb dX11_init_4 rfl (lv_at hl 0 rfl) ?_
  refine n_X11_7 Cx hW rfl (Nat.le_of_ble_eq_true rfl) (Nat.le_of_ble_eq_true rfl) dX11_init_5 (fun H hW => ?_)
  refine lv_dup hx hb dX11_init_8 rfl ?_
  refine lv_sipush (v := 30000) hx hb dX11_init_9 (by decide) ?_
  refine sBv (sIn (As := [.int 30000]) (rest := [.ref (G.2.2.1 + 1), .ref (G.2.2.1 + 0)]) (k := 1) Cx (t1_X10_init l G S) (c_X11_11 Cx rfl rfl ⟨Nat.le_of_ble_eq_true rfl, Nat.le_of_ble_eq_true rfl⟩) hW rfl hl.1 rfl (Nat.le_of_ble_eq_true rfl) dX11_init_12 ⟨Nat.le_of_ble_eq_true rfl, Nat.le_of_ble_eq_true rfl⟩) hL (fun u H locs hq hW hL => ?_)
  subst hq
  refine p_X11_14 Cx hnm hW hL (k := 0) (by decide) rfl dX11_init_15 (fun H locs hW hL => ?_)
  refine lv_aload_n hx hb dX11_init_18 rfl (lv_at hl 0 rfl) ?_
  refine n_X11_7 Cx hW rfl (Nat.le_of_ble_eq_true rfl) (Nat.le_of_ble_eq_true rfl) dX11_init_19 (fun H hW => ?_)
  refine lv_dup hx hb dX11_init_22 rfl ?_
  refine lv_bipush (v := 120) hx hb dX11_init_23 (by decide) ?_
  refine sBv (sIn (As := [.int 120]) (rest := [.ref (G.2.2.1 + 3), .ref (G.2.2.1 + 0)]) (k := 3) Cx (t2_X10_init l G (sR (sR S 1 0 (.ref (G.2.2.1 + 2))) 0 0 (.ref (G.2.2.1 + 1)))) (c_X11_11 Cx rfl rfl ⟨Nat.le_of_ble_eq_true rfl, Nat.le_of_ble_eq_true rfl⟩) hW rfl hl.1 rfl (Nat.le_of_ble_eq_true rfl) dX11_init_25 ⟨Nat.le_of_ble_eq_true rfl, Nat.le_of_ble_eq_true rfl⟩) hL (fun u H locs hq hW hL => ?_)
  subst hq
  refine p_X11_18 Cx hnm hW hL (k := 0) (by decide) rfl dX11_init_28 (fun H locs hW hL => ?_)
  refine lv_aload_n hx hb dX11_init_31 rfl (lv_at hl 0 rfl) ?_
  refine n_X11_21 Cx hW rfl (Nat.le_of_ble_eq_true rfl) (Nat.le_of_ble_eq_true rfl) dX11_init_32 (fun H hW => ?_)
  refine lv_dup hx hb dX11_init_35 rfl ?_
  refine sBv (sInN (As := []) (rest := [.ref (G.2.2.1 + 5), .ref (G.2.2.1 + 0)]) (k := 5) Cx (t3_X3_init l G (sR (sR (sR (sR S 1 0 (.ref (G.2.2.1 + 2))) 0 0 (.ref (G.2.2.1 + 1))) 3 0 (.ref (G.2.2.1 + 4))) 0 1 (.ref (G.2.2.1 + 3)))) (c_X11_23 Cx rfl rfl ⟨Nat.le_of_ble_eq_true rfl, Nat.le_of_ble_eq_true rfl⟩) hW rfl hl.1 rfl (Nat.le_of_ble_eq_true rfl) dX11_init_36 ⟨Nat.le_of_ble_eq_true rfl, Nat.le_of_ble_eq_true rfl⟩) hL (fun u H locs hq hW hL => ?_)
  subst hq
  refine p_X11_24 Cx hW hL (k := 0) (by decide) rfl dX11_init_39 (fun H locs hW hL => ?_)
  refine lv_aload_n hx hb dX11_init_42 rfl (lv_at hl 0 rfl) ?_
  refine n_X11_21 Cx hW rfl (Nat.le_of_ble_eq_true rfl) (Nat.le_of_ble_eq_true rfl) dX11_init_43 (fun H hW => ?_)
  refine lv_dup hx hb dX11_init_46 rfl ?_
  refine sBv (sInN (As := []) (rest := [.ref (G.2.2.1 + 8), .ref (G.2.2.1 + 0)]) (k := 8) Cx (t4_X3_init l G (sR (sR (sR (sR (sR (sR (sR S 1 0 (.ref (G.2.2.1 + 2))) 0 0 (.ref (G.2.2.1 + 1))) 3 0 (.ref (G.2.2.1 + 4))) 0 1 (.ref (G.2.2.1 + 3))) 5 0 (.ref (G.2.2.1 + 6))) 5 1 (.ref (G.2.2.1 + 7))) 0 5 (.ref (G.2.2.1 + 5)))) (c_X11_23 Cx rfl rfl ⟨Nat.le_of_ble_eq_true rfl, Nat.le_of_ble_eq_true rfl⟩) hW rfl hl.1 rfl (Nat.le_of_ble_eq_true rfl) dX11_init_47 ⟨Nat.le_of_ble_eq_true rfl, Nat.le_of_ble_eq_true rfl⟩) hL (fun u H locs hq hW hL => ?_)
  subst hq
  refine p_X11_28 Cx hW hL (k := 0) (by decide) rfl dX11_init_50 (fun H locs hW hL => ?_)
  refine lv_aload_n hx hb dX11_init_53 rfl (lv_at hl 0 rfl) ?_
  refine n_X11_31 Cx hW rfl (Nat.le_of_ble_eq_true rfl) (Nat.le_of_ble_eq_true rfl) dX11_init_54 (fun H hW => ?_)
  refine lv_dup hx hb dX11_init_57 rfl ?_
  refine sBv (sInN (As := []) (rest := [.ref (G.2.2.1 + 11), .ref (G.2.2.1 + 0)]) (k := 11) Cx (t7_X9_init l G (sR (sR (sR (sR (sR (sR (sR (sR (sR (sR S 1 0 (.ref (G.2.2.1 + 2))) 0 0 (.ref (G.2.2.1 + 1))) 3 0 (.ref (G.2.2.1 + 4))) 0 1 (.ref (G.2.2.1 + 3))) 5 0 (.ref (G.2.2.1 + 6))) 5 1 (.ref (G.2.2.1 + 7))) 0 5 (.ref (G.2.2.1 + 5))) 8 0 (.ref (G.2.2.1 + 9))) 8 1 (.ref (G.2.2.1 + 10))) 0 6 (.ref (G.2.2.1 + 8)))) (c_X11_33 Cx rfl rfl ⟨Nat.le_of_ble_eq_true rfl, Nat.le_of_ble_eq_true rfl⟩) hW rfl hl.1 rfl (Nat.le_of_ble_eq_true rfl) dX11_init_58 ⟨Nat.le_of_ble_eq_true rfl, Nat.le_of_ble_eq_true rfl⟩) hL (fun u H locs hq hW hL => ?_)
  subst hq
  refine p_X11_34 Cx hnm hW hL (k := 0) (by decide) rfl dX11_init_61 (fun H locs hW hL => ?_)
  refine lv_aload_n hx hb dX11_init_64 rfl (lv_at hl 0 rfl) ?_
  refine n_X11_38 Cx hW rfl (Nat.le_of_ble_eq_true rfl) (Nat.le_of_ble_eq_true rfl) dX11_init_65 (fun H hW => ?_)
  refine lv_dup hx hb dX11_init_68 rfl ?_
  refine sBv (sInN (As := []) (rest := [.ref (G.2.2.1 + 119), .ref (G.2.2.1 + 0)]) (k := 119) Cx (t39_X7_init l G (sR (sR (sR (sR (sR (sR (sM G.2.2.1 (sR (sM G.2.2.1 (sR (sM G.2.2.1 (sR (sR (sR (sR (sR (sR (sR (sR (sR (sR (sR (sR (sR (sR (sR (sR (sR S 1 0 (.ref (G.2.2.1 + 2))) 0 0 (.ref (G.2.2.1 + 1))) 3 0 (.ref (G.2.2.1 + 4))) 0 1 (.ref (G.2.2.1 + 3))) 5 0 (.ref (G.2.2.1 + 6))) 5 1 (.ref (G.2.2.1 + 7))) 0 5 (.ref (G.2.2.1 + 5))) 8 0 (.ref (G.2.2.1 + 9))) 8 1 (.ref (G.2.2.1 + 10))) 0 6 (.ref (G.2.2.1 + 8))) 12 0 (.ref (G.2.2.1 + 13))) 12 1 (.ref (G.2.2.1 + 14))) 12 2 (.ref (G.2.2.1 + 15))) 11 0 (.ref (G.2.2.1 + 12))) 11 1 (.ref (G.2.2.1 + 16))) 11 2 (.ref (G.2.2.1 + 17))) 11 3 (.ref (G.2.2.1 + 18))) 19 31) 11 4 (.ref (G.2.2.1 + 19))) 51 31) 11 5 (.ref (G.2.2.1 + 51))) 83 31) 11 6 (.ref (G.2.2.1 + 83))) 11 7 (.ref (G.2.2.1 + 115))) 116 0 (.ref (G.2.2.1 + 117))) 116 1 (.ref (G.2.2.1 + 118))) 11 8 (.ref (G.2.2.1 + 116))) 0 2 (.ref (G.2.2.1 + 11)))) (c_X11_40 Cx rfl rfl ⟨Nat.le_of_ble_eq_true rfl, Nat.le_of_ble_eq_true rfl⟩) hW rfl hl.1 rfl (Nat.le_of_ble_eq_true rfl) dX11_init_69 ⟨Nat.le_of_ble_eq_true rfl, Nat.le_of_ble_eq_true rfl⟩) hL (fun u H locs hq hW hL => ?_)
  subst hq
  refine p_X11_41 Cx hnm hW hL (k := 0) (by decide) rfl dX11_init_72 (fun H locs hW hL => ?_)
  refine lv_aload_n hx hb dX11_init_75 rfl (lv_at hl 0 rfl) ?_
  refine n_X11_45 Cx hW rfl (Nat.le_of_ble_eq_true rfl) (Nat.le_of_ble_eq_true rfl) dX11_init_76 (fun H hW => ?_)
  refine lv_dup hx hb dX11_init_79 rfl ?_
  refine sBv (sInN (As := []) (rest := [.ref (G.2.2.1 + 188), .ref (G.2.2.1 + 0)]) (k := 188) Cx (t58_X1_init l G (sR (sR (sR (sR (sR (sR (sR (sR (sR (sR (sR (sR (sR (sR (sR (sR (sR (sR (sR (sR (sR (sR (sR (sR (sR (sR (sR (sR (sR (sR (sR (sR (sR (sR (sR (sR (sR (sR (sR (sR (sR (sR (sR (sR (sR (sR (sR (sR (sR (sR (sR (sR (sR (sR (sR (sR (sR (sR (sR (sR (sR (sR (sR (sR (sR (sR (sR (sR (sR (sR (sR (sR (sR (sR (sR (sM G.2.2.1 (sR (sM G.2.2.1 (sR (sM G.2.2.1 (sR (sR (sR (sR (sR (sR (sR (sR (sR (sR (sR (sR (sR (sR (sR (sR (sR S 1 0 (.ref (G.2.2.1 + 2))) 0 0 (.ref (G.2.2.1 + 1))) 3 0 (.ref (G.2.2.1 + 4))) 0 1 (.ref (G.2.2.1 + 3))) 5 0 (.ref (G.2.2.1 + 6))) 5 1 (.ref (G.2.2.1 + 7))) 0 5 (.ref (G.2.2.1 + 5))) 8 0 (.ref (G.2.2.1 + 9))) 8 1 (.ref (G.2.2.1 + 10))) 0 6 (.ref (G.2.2.1 + 8))) 12 0 (.ref (G.2.2.1 + 13))) 12 1 (.ref (G.2.2.1 + 14))) 12 2 (.ref (G.2.2.1 + 15))) 11 0 (.ref (G.2.2.1 + 12))) 11 1 (.ref (G.2.2.1 + 16))) 11 2 (.ref (G.2.2.1 + 17))) 11 3 (.ref (G.2.2.1 + 18))) 19 31) 11 4 (.ref (G.2.2.1 + 19))) 51 31) 11 5 (.ref (G.2.2.1 + 51))) 83 31) 11 6 (.ref (G.2.2.1 + 83))) 11 7 (.ref (G.2.2.1 + 115))) 116 0 (.ref (G.2.2.1 + 117))) 116 1 (.ref (G.2.2.1 + 118))) 11 8 (.ref (G.2.2.1 + 116))) 0 2 (.ref (G.2.2.1 + 11))) 120 0 (.ref (G.2.2.1 + 121))) 120 1 (.ref (G.2.2.1 + 122))) 123 0 (.ref (G.2.2.1 + 124))) 120 2 (.ref (G.2.2.1 + 123))) 125 0 (.ref (G.2.2.1 + 126))) 120 3 (.ref (G.2.2.1 + 125))) 127 0 (.ref (G.2.2.1 + 128))) 120 4 (.ref (G.2.2.1 + 127))) 129 0 (.ref (G.2.2.1 + 130))) 120 5 (.ref (G.2.2.1 + 129))) 131 0 (.ref (G.2.2.1 + 132))) 120 6 (.ref (G.2.2.1 + 131))) 133 0 (.ref (G.2.2.1 + 134))) 120 7 (.ref (G.2.2.1 + 133))) 119 0 (.ref (G.2.2.1 + 120))) 135 0 (.ref (G.2.2.1 + 136))) 135 1 (.ref (G.2.2.1 + 137))) 135 2 (.ref (G.2.2.1 + 138))) 135 3 (.ref (G.2.2.1 + 139))) 135 4 (.ref (G.2.2.1 + 140))) 141 0 (.ref (G.2.2.1 + 142))) 135 5 (.ref (G.2.2.1 + 141))) 143 0 (.ref (G.2.2.1 + 144))) 135 6 (.ref (G.2.2.1 + 143))) 145 0 (.ref (G.2.2.1 + 146))) 135 7 (.ref (G.2.2.1 + 145))) 147 0 (.ref (G.2.2.1 + 148))) 135 8 (.ref (G.2.2.1 + 147))) 149 0 (.ref (G.2.2.1 + 150))) 135 9 (.ref (G.2.2.1 + 149))) 151 0 (.ref (G.2.2.1 + 152))) 135 10 (.ref (G.2.2.1 + 151))) 153 0 (.ref (G.2.2.1 + 154))) 135 11 (.ref (G.2.2.1 + 153))) 155 0 (.ref (G.2.2.1 + 156))) 135 12 (.ref (G.2.2.1 + 155))) 119 1 (.ref (G.2.2.1 + 135))) 158 0 (.ref (G.2.2.1 + 159))) 157 0 (.ref (G.2.2.1 + 158))) 160 0 (.ref (G.2.2.1 + 161))) 157 1 (.ref (G.2.2.1 + 160))) 157 2 (.ref (G.2.2.1 + 162))) 163 0 (.ref (G.2.2.1 + 164))) 157 3 (.ref (G.2.2.1 + 163))) 165 0 (.ref (G.2.2.1 + 166))) 157 4 (.ref (G.2.2.1 + 165))) 167 0 (.ref (G.2.2.1 + 168))) 157 5 (.ref (G.2.2.1 + 167))) 169 0 (.ref (G.2.2.1 + 170))) 157 6 (.ref (G.2.2.1 + 169))) 171 0 (.ref (G.2.2.1 + 172))) 157 7 (.ref (G.2.2.1 + 171))) 173 0 (.ref (G.2.2.1 + 174))) 157 8 (.ref (G.2.2.1 + 173))) 175 0 (.ref (G.2.2.1 + 176))) 157 9 (.ref (G.2.2.1 + 175))) 119 2 (.ref (G.2.2.1 + 157))) 177 0 (.ref (G.2.2.1 + 178))) 119 3 (.ref (G.2.2.1 + 177))) 179 0 (.ref (G.2.2.1 + 180))) 119 4 (.ref (G.2.2.1 + 179))) 181 0 (.ref (G.2.2.1 + 182))) 119 5 (.ref (G.2.2.1 + 181))) 183 0 (.ref (G.2.2.1 + 184))) 119 6 (.ref (G.2.2.1 + 183))) 185 0 (.ref (G.2.2.1 + 186))) 185 1 (.ref (G.2.2.1 + 187))) 119 7 (.ref (G.2.2.1 + 185))) 0 3 (.ref (G.2.2.1 + 119)))) (c_X11_47 Cx rfl rfl ⟨Nat.le_of_ble_eq_true rfl, Nat.le_of_ble_eq_true rfl⟩) hW rfl hl.1 rfl (Nat.le_of_ble_eq_true rfl) dX11_init_80 ⟨Nat.le_of_ble_eq_true rfl, Nat.le_of_ble_eq_true rfl⟩) hL (fun u H locs hq hW hL => ?_)
  subst hq
  refine p_X11_48 Cx hnm hW hL (k := 0) (by decide) rfl dX11_init_83 (fun H locs hW hL => ?_)
  refine lv_aload_n hx hb dX11_init_86 rfl (lv_at hl 0 rfl) ?_
  refine lv_iconst (v := (-1)) hx hb dX11_init_87 (by decide) ?_
  refine p_X11_52 Cx hW hL (k := 0) (by decide) rfl dX11_init_88 (fun H locs hW hL => ?_)
  exact sVret Cx hr hlk hW hL rfl dX11_init_91
end
section
set_option maxRecDepth 100000 in
set_option maxHeartbeats 4000000 in
theorem c_Model (l : Launch) (G : sG) (S : sS)   : Met l yX12_init (.code yX12_init cX12_init 1 none :: tb) (rmk 1 62 509401) (sPc G 232 S [.ref (G.2.2.1 + 231)]) (sQv G 294 (fun u => u = (sR (sR (sR (sR (sR (sR (sR (sR (sR (sR (sR (sR (sR (sR (sR (sR (sR (sR (sR (sR (sR (sR (sR (sR (sR (sR (sR (sR (sR (sR (sR (sR (sR (sR (sR (sR (sR (sR (sR (sR (sR (sR (sR (sR (sR (sR (sR (sR (sR (sR (sR (sR (sR (sR (sR (sR (sR (sR (sR (sR (sR (sR S 231 0 (.ref (G.2.2.1 + 232))) 231 2 (.ref (G.2.2.1 + 233))) 231 3 (.ref (G.2.2.1 + 234))) 231 4 (.ref (G.2.2.1 + 235))) 231 5 (.ref (G.2.2.1 + 236))) 231 7 (.ref (G.2.2.1 + 237))) 231 8 (.ref (G.2.2.1 + 238))) 231 9 (.ref (G.2.2.1 + 239))) 231 10 (.ref (G.2.2.1 + 240))) 231 11 (.ref (G.2.2.1 + 241))) 231 12 (.ref (G.2.2.1 + 242))) 231 13 (.ref (G.2.2.1 + 243))) 231 15 (.ref (G.2.2.1 + 244))) 231 16 (.ref (G.2.2.1 + 245))) 231 17 (.ref (G.2.2.1 + 246))) 231 18 (.ref (G.2.2.1 + 247))) 231 26 (.ref (G.2.2.1 + 248))) 231 27 (.ref (G.2.2.1 + 249))) 231 28 (.ref (G.2.2.1 + 250))) 231 29 (.ref (G.2.2.1 + 251))) 231 30 (.ref (G.2.2.1 + 252))) 231 31 (.ref (G.2.2.1 + 253))) 231 37 (.ref (G.2.2.1 + 254))) 231 38 (.ref (G.2.2.1 + 255))) 231 39 (.ref (G.2.2.1 + 256))) 231 41 (.ref (G.2.2.1 + 257))) 231 44 (.ref (G.2.2.1 + 258))) 231 50 (.ref (G.2.2.1 + 259))) 231 51 (.ref (G.2.2.1 + 260))) 231 52 (.ref (G.2.2.1 + 261))) 231 53 (.ref (G.2.2.1 + 262))) 231 54 (.ref (G.2.2.1 + 263))) 231 55 (.ref (G.2.2.1 + 264))) 231 56 (.ref (G.2.2.1 + 265))) 231 57 (.ref (G.2.2.1 + 266))) 231 73 (.ref (G.2.2.1 + 267))) 231 74 (.ref (G.2.2.1 + 268))) 231 75 (.ref (G.2.2.1 + 269))) 231 76 (.ref (G.2.2.1 + 270))) 231 77 (.ref (G.2.2.1 + 271))) 231 80 (.ref (G.2.2.1 + 272))) 231 81 (.ref (G.2.2.1 + 273))) 231 82 (.ref (G.2.2.1 + 274))) 231 83 (.ref (G.2.2.1 + 275))) 231 85 (.ref (G.2.2.1 + 276))) 231 87 (.ref (G.2.2.1 + 277))) 231 88 (.ref (G.2.2.1 + 278))) 231 89 (.ref (G.2.2.1 + 279))) 231 90 (.ref (G.2.2.1 + 280))) 231 91 (.ref (G.2.2.1 + 281))) 231 92 (.ref (G.2.2.1 + 282))) 231 93 (.ref (G.2.2.1 + 283))) 231 94 (.ref (G.2.2.1 + 284))) 231 95 (.ref (G.2.2.1 + 285))) 231 96 (.ref (G.2.2.1 + 286))) 231 97 (.ref (G.2.2.1 + 287))) 231 98 (.ref (G.2.2.1 + 288))) 231 99 (.ref (G.2.2.1 + 289))) 231 101 (.ref (G.2.2.1 + 290))) 231 102 (.ref (G.2.2.1 + 291))) 231 103 (.ref (G.2.2.1 + 292))) 231 104 (.ref (G.2.2.1 + 293))))) 62 509401 (sF G) := by
  refine sEnter (by decide) (Nat.le_of_ble_eq_true rfl) ?_
  intro p e s m args below meth c Cx hr hlk hnm hW ls hl
  have Cx : sC G p m c cX12_init 1 s args RX12 := Cx
  obtain ⟨hx, hb, hml, hown, hts⟩ := id Cx.1
  have hL : sL G [] := sL_nil
  have hl : lv_has ls 1 [(0, .ref (G.2.2.1 + 231))] := hl
  refine lv_aload_n hx hb dX12_init_0 rfl (lv_at hl 0 rfl) ?_
  refine W.objInit hx hb hown (hts _ w_1957) (hts _ w_233) (hts _ w_234) rfl (by rw [hml]; exact hl.1) rfl dX12_init_1 (Nat.le_of_ble_eq_true rfl) (Nat.le_of_ble_eq_true rfl) ?_
  refine W.eq (g2 := F0 m 4 ls []) rfl ?_
  refine lv_aload_n hx hb dX12_init_4 rfl (lv_at hl 0 rfl) ?_
  refine lv_sipush (v := 30000) hx hb dX12_init_5 (by decide) ?_
  refine sNewa (atype := .byte) (ty := .byte) Cx (N := 30000) rfl 2 rfl (fun U h => h) w_254 hW rfl rfl (by decide) rfl (Nat.le_of_ble_eq_true rfl) (Nat.le_of_ble_eq_true rfl) (Nat.le_of_ble_eq_true rfl) dX12_init_8 (fun H hW => ?_)
  refine p_X12_9 Cx hnm hW hL (k := 231) (by decide) rfl dX12_init_10 (fun H locs hW hL => ?_)
  refine lv_aload_n hx hb dX12_init_13 rfl (lv_at hl 0 rfl) ?_
  refine lv_bipush (v := 66) hx hb dX12_init_14 (by decide) ?_
  refine sNewa (atype := .int) (ty := .int) Cx (N := 66) rfl 0 rfl (fun U h => h) w_294 hW rfl rfl (by decide) rfl (Nat.le_of_ble_eq_true rfl) (Nat.le_of_ble_eq_true rfl) (Nat.le_of_ble_eq_true rfl) dX12_init_16 (fun H hW => ?_)
  refine p_X12_13 Cx hnm hW hL (k := 231) (by decide) rfl dX12_init_18 (fun H locs hW hL => ?_)
  refine lv_aload_n hx hb dX12_init_21 rfl (lv_at hl 0 rfl) ?_
  refine lv_bipush (v := 66) hx hb dX12_init_22 (by decide) ?_
  refine sNewa (atype := .int) (ty := .int) Cx (N := 66) rfl 0 rfl (fun U h => h) w_294 hW rfl rfl (by decide) rfl (Nat.le_of_ble_eq_true rfl) (Nat.le_of_ble_eq_true rfl) (Nat.le_of_ble_eq_true rfl) dX12_init_24 (fun H hW => ?_)
  refine p_X12_17 Cx hnm hW hL (k := 231) (by decide) rfl dX12_init_26 (fun H locs hW hL => ?_)
  refine lv_aload_n hx hb dX12_init_29 rfl (lv_at hl 0 rfl) ?_
  refine lv_iconst (v := 4) hx hb dX12_init_30 (by decide) ?_
  refine sNewa (atype := .int) (ty := .int) Cx (N := 4) rfl 0 rfl (fun U h => h) w_294 hW rfl rfl (by decide) rfl (Nat.le_of_ble_eq_true rfl) (Nat.le_of_ble_eq_true rfl) (Nat.le_of_ble_eq_true rfl) dX12_init_31 (fun H hW => ?_)
  refine p_X12_20 Cx hnm hW hL (k := 231) (by decide) rfl dX12_init_33 (fun H locs hW hL => ?_)
  refine lv_aload_n hx hb dX12_init_36 rfl (lv_at hl 0 rfl) ?_
  refine lv_sipush (v := 576) hx hb dX12_init_37 (by decide) ?_
  refine sNewa (atype := .byte) (ty := .byte) Cx (N := 576) rfl 2 rfl (fun U h => h) w_254 hW rfl rfl (by decide) rfl (Nat.le_of_ble_eq_true rfl) (Nat.le_of_ble_eq_true rfl) (Nat.le_of_ble_eq_true rfl) dX12_init_40 (fun H hW => ?_)
  refine p_X12_23 Cx hnm hW hL (k := 231) (by decide) rfl dX12_init_42 (fun H locs hW hL => ?_)
  refine lv_aload_n hx hb dX12_init_45 rfl (lv_at hl 0 rfl) ?_
  refine lv_bipush (v := 68) hx hb dX12_init_46 (by decide) ?_
  refine sNewa (atype := .int) (ty := .int) Cx (N := 68) rfl 0 rfl (fun U h => h) w_294 hW rfl rfl (by decide) rfl (Nat.le_of_ble_eq_true rfl) (Nat.le_of_ble_eq_true rfl) (Nat.le_of_ble_eq_true rfl) dX12_init_48 (fun H hW => ?_)
  refine p_X12_26 Cx hnm hW hL (k := 231) (by decide) rfl dX12_init_50 (fun H locs hW hL => ?_)
  refine lv_aload_n hx hb dX12_init_53 rfl (lv_at hl 0 rfl) ?_
  refine lv_bipush (v := 68) hx hb dX12_init_54 (by decide) ?_
  refine sNewa (atype := .int) (ty := .int) Cx (N := 68) rfl 0 rfl (fun U h => h) w_294 hW rfl rfl (by decide) rfl (Nat.le_of_ble_eq_true rfl) (Nat.le_of_ble_eq_true rfl) (Nat.le_of_ble_eq_true rfl) dX12_init_56 (fun H hW => ?_)
  refine p_X12_29 Cx hnm hW hL (k := 231) (by decide) rfl dX12_init_58 (fun H locs hW hL => ?_)
  refine lv_aload_n hx hb dX12_init_61 rfl (lv_at hl 0 rfl) ?_
  refine lv_bipush (v := 68) hx hb dX12_init_62 (by decide) ?_
  refine sNewa (atype := .int) (ty := .int) Cx (N := 68) rfl 0 rfl (fun U h => h) w_294 hW rfl rfl (by decide) rfl (Nat.le_of_ble_eq_true rfl) (Nat.le_of_ble_eq_true rfl) (Nat.le_of_ble_eq_true rfl) dX12_init_64 (fun H hW => ?_)
  refine p_X12_32 Cx hnm hW hL (k := 231) (by decide) rfl dX12_init_66 (fun H locs hW hL => ?_)
  refine lv_aload_n hx hb dX12_init_69 rfl (lv_at hl 0 rfl) ?_
  refine lv_bipush (v := 68) hx hb dX12_init_70 (by decide) ?_
  refine sNewa (atype := .int) (ty := .int) Cx (N := 68) rfl 0 rfl (fun U h => h) w_294 hW rfl rfl (by decide) rfl (Nat.le_of_ble_eq_true rfl) (Nat.le_of_ble_eq_true rfl) (Nat.le_of_ble_eq_true rfl) dX12_init_72 (fun H hW => ?_)
  refine p_X12_35 Cx hnm hW hL (k := 231) (by decide) rfl dX12_init_74 (fun H locs hW hL => ?_)
  refine lv_aload_n hx hb dX12_init_77 rfl (lv_at hl 0 rfl) ?_
  refine lv_bipush (v := 68) hx hb dX12_init_78 (by decide) ?_
  refine sNewa (atype := .int) (ty := .int) Cx (N := 68) rfl 0 rfl (fun U h => h) w_294 hW rfl rfl (by decide) rfl (Nat.le_of_ble_eq_true rfl) (Nat.le_of_ble_eq_true rfl) (Nat.le_of_ble_eq_true rfl) dX12_init_80 (fun H hW => ?_)
  refine p_X12_38 Cx hnm hW hL (k := 231) (by decide) rfl dX12_init_82 (fun H locs hW hL => ?_)
  refine lv_aload_n hx hb dX12_init_85 rfl (lv_at hl 0 rfl) ?_
  refine lv_bipush (v := 68) hx hb dX12_init_86 (by decide) ?_
  refine sNewa (atype := .int) (ty := .int) Cx (N := 68) rfl 0 rfl (fun U h => h) w_294 hW rfl rfl (by decide) rfl (Nat.le_of_ble_eq_true rfl) (Nat.le_of_ble_eq_true rfl) (Nat.le_of_ble_eq_true rfl) dX12_init_88 (fun H hW => ?_)
  refine p_X12_41 Cx hnm hW hL (k := 231) (by decide) rfl dX12_init_90 (fun H locs hW hL => ?_)
  refine lv_aload_n hx hb dX12_init_93 rfl (lv_at hl 0 rfl) ?_
  refine lv_sipush (v := 30000) hx hb dX12_init_94 (by decide) ?_
  refine sNewa (atype := .byte) (ty := .byte) Cx (N := 30000) rfl 2 rfl (fun U h => h) w_254 hW rfl rfl (by decide) rfl (Nat.le_of_ble_eq_true rfl) (Nat.le_of_ble_eq_true rfl) (Nat.le_of_ble_eq_true rfl) dX12_init_97 (fun H hW => ?_)
  refine p_X12_44 Cx hnm hW hL (k := 231) (by decide) rfl dX12_init_99 (fun H locs hW hL => ?_)
  refine lv_aload_n hx hb dX12_init_102 rfl (lv_at hl 0 rfl) ?_
  refine lv_sipush (v := 30004) hx hb dX12_init_103 (by decide) ?_
  refine sNewa (atype := .int) (ty := .int) Cx (N := 30004) rfl 0 rfl (fun U h => h) w_294 hW rfl rfl (by decide) rfl (Nat.le_of_ble_eq_true rfl) (Nat.le_of_ble_eq_true rfl) (Nat.le_of_ble_eq_true rfl) dX12_init_106 (fun H hW => ?_)
  refine p_X12_47 Cx hnm hW hL (k := 231) (by decide) rfl dX12_init_108 (fun H locs hW hL => ?_)
  refine lv_aload_n hx hb dX12_init_111 rfl (lv_at hl 0 rfl) ?_
  refine lv_sipush (v := 30004) hx hb dX12_init_112 (by decide) ?_
  refine sNewa (atype := .int) (ty := .int) Cx (N := 30004) rfl 0 rfl (fun U h => h) w_294 hW rfl rfl (by decide) rfl (Nat.le_of_ble_eq_true rfl) (Nat.le_of_ble_eq_true rfl) (Nat.le_of_ble_eq_true rfl) dX12_init_115 (fun H hW => ?_)
  refine p_X12_50 Cx hnm hW hL (k := 231) (by decide) rfl dX12_init_117 (fun H locs hW hL => ?_)
  refine lv_aload_n hx hb dX12_init_120 rfl (lv_at hl 0 rfl) ?_
  refine lv_sipush (v := 30004) hx hb dX12_init_121 (by decide) ?_
  refine sNewa (atype := .int) (ty := .int) Cx (N := 30004) rfl 0 rfl (fun U h => h) w_294 hW rfl rfl (by decide) rfl (Nat.le_of_ble_eq_true rfl) (Nat.le_of_ble_eq_true rfl) (Nat.le_of_ble_eq_true rfl) dX12_init_124 (fun H hW => ?_)
  refine p_X12_53 Cx hnm hW hL (k := 231) (by decide) rfl dX12_init_126 (fun H locs hW hL => ?_)
  refine lv_aload_n hx hb dX12_init_129 rfl (lv_at hl 0 rfl) ?_
  refine lv_sipush (v := 30004) hx hb dX12_init_130 (by decide) ?_
  refine sNewa (atype := .int) (ty := .int) Cx (N := 30004) rfl 0 rfl (fun U h => h) w_294 hW rfl rfl (by decide) rfl (Nat.le_of_ble_eq_true rfl) (Nat.le_of_ble_eq_true rfl) (Nat.le_of_ble_eq_true rfl) dX12_init_133 (fun H hW => ?_)
  refine p_X12_56 Cx hnm hW hL (k := 231) (by decide) rfl dX12_init_135 (fun H locs hW hL => ?_)
  refine lv_aload_n hx hb dX12_init_138 rfl (lv_at hl 0 rfl) ?_
  refine lv_sipush (v := 700) hx hb dX12_init_139 (by decide) ?_
  refine sNewa (atype := .int) (ty := .int) Cx (N := 700) rfl 0 rfl (fun U h => h) w_294 hW rfl rfl (by decide) rfl (Nat.le_of_ble_eq_true rfl) (Nat.le_of_ble_eq_true rfl) (Nat.le_of_ble_eq_true rfl) dX12_init_142 (fun H hW => ?_)
  refine p_X12_59 Cx hnm hW hL (k := 231) (by decide) rfl dX12_init_144 (fun H locs hW hL => ?_)
  refine lv_aload_n hx hb dX12_init_147 rfl (lv_at hl 0 rfl) ?_
  refine lv_sipush (v := 700) hx hb dX12_init_148 (by decide) ?_
  refine sNewa (atype := .int) (ty := .int) Cx (N := 700) rfl 0 rfl (fun U h => h) w_294 hW rfl rfl (by decide) rfl (Nat.le_of_ble_eq_true rfl) (Nat.le_of_ble_eq_true rfl) (Nat.le_of_ble_eq_true rfl) dX12_init_151 (fun H hW => ?_)
  refine p_X12_62 Cx hnm hW hL (k := 231) (by decide) rfl dX12_init_153 (fun H locs hW hL => ?_)
  refine lv_aload_n hx hb dX12_init_156 rfl (lv_at hl 0 rfl) ?_
  refine lv_sipush (v := 700) hx hb dX12_init_157 (by decide) ?_
  refine sNewa (atype := .int) (ty := .int) Cx (N := 700) rfl 0 rfl (fun U h => h) w_294 hW rfl rfl (by decide) rfl (Nat.le_of_ble_eq_true rfl) (Nat.le_of_ble_eq_true rfl) (Nat.le_of_ble_eq_true rfl) dX12_init_160 (fun H hW => ?_)
  refine p_X12_65 Cx hnm hW hL (k := 231) (by decide) rfl dX12_init_162 (fun H locs hW hL => ?_)
  refine lv_aload_n hx hb dX12_init_165 rfl (lv_at hl 0 rfl) ?_
  refine lv_sipush (v := 700) hx hb dX12_init_166 (by decide) ?_
  refine sNewa (atype := .int) (ty := .int) Cx (N := 700) rfl 0 rfl (fun U h => h) w_294 hW rfl rfl (by decide) rfl (Nat.le_of_ble_eq_true rfl) (Nat.le_of_ble_eq_true rfl) (Nat.le_of_ble_eq_true rfl) dX12_init_169 (fun H hW => ?_)
  refine p_X12_68 Cx hnm hW hL (k := 231) (by decide) rfl dX12_init_171 (fun H locs hW hL => ?_)
  refine lv_aload_n hx hb dX12_init_174 rfl (lv_at hl 0 rfl) ?_
  refine lv_sipush (v := 700) hx hb dX12_init_175 (by decide) ?_
  refine sNewa (atype := .int) (ty := .int) Cx (N := 700) rfl 0 rfl (fun U h => h) w_294 hW rfl rfl (by decide) rfl (Nat.le_of_ble_eq_true rfl) (Nat.le_of_ble_eq_true rfl) (Nat.le_of_ble_eq_true rfl) dX12_init_178 (fun H hW => ?_)
  refine p_X12_71 Cx hnm hW hL (k := 231) (by decide) rfl dX12_init_180 (fun H locs hW hL => ?_)
  refine lv_aload_n hx hb dX12_init_183 rfl (lv_at hl 0 rfl) ?_
  refine lv_sipush (v := 2100) hx hb dX12_init_184 (by decide) ?_
  refine sNewa (atype := .int) (ty := .int) Cx (N := 2100) rfl 0 rfl (fun U h => h) w_294 hW rfl rfl (by decide) rfl (Nat.le_of_ble_eq_true rfl) (Nat.le_of_ble_eq_true rfl) (Nat.le_of_ble_eq_true rfl) dX12_init_187 (fun H hW => ?_)
  refine p_X12_74 Cx hnm hW hL (k := 231) (by decide) rfl dX12_init_189 (fun H locs hW hL => ?_)
  refine lv_aload_n hx hb dX12_init_192 rfl (lv_at hl 0 rfl) ?_
  refine lv_bipush (v := 13) hx hb dX12_init_193 (by decide) ?_
  refine sNewa (atype := .boolean) (ty := .boolean) Cx (N := 13) rfl 3 rfl (fun U h => h) w_295 hW rfl rfl (by decide) rfl (Nat.le_of_ble_eq_true rfl) (Nat.le_of_ble_eq_true rfl) (Nat.le_of_ble_eq_true rfl) dX12_init_195 (fun H hW => ?_)
  refine p_X12_77 Cx hnm hW hL (k := 231) (by decide) rfl dX12_init_197 (fun H locs hW hL => ?_)
  refine lv_aload_n hx hb dX12_init_200 rfl (lv_at hl 0 rfl) ?_
  refine lv_sipush (v := 247) hx hb dX12_init_201 (by decide) ?_
  refine sNewa (atype := .long) (ty := .long) Cx (N := 247) rfl 1 rfl (fun U h => h) w_324 hW rfl rfl (by decide) rfl (Nat.le_of_ble_eq_true rfl) (Nat.le_of_ble_eq_true rfl) (Nat.le_of_ble_eq_true rfl) dX12_init_204 (fun H hW => ?_)
  refine p_X12_81 Cx hnm hW hL (k := 231) (by decide) rfl dX12_init_206 (fun H locs hW hL => ?_)
  refine lv_aload_n hx hb dX12_init_209 rfl (lv_at hl 0 rfl) ?_
  refine lv_bipush (v := 13) hx hb dX12_init_210 (by decide) ?_
  refine sNewa (atype := .long) (ty := .long) Cx (N := 13) rfl 1 rfl (fun U h => h) w_324 hW rfl rfl (by decide) rfl (Nat.le_of_ble_eq_true rfl) (Nat.le_of_ble_eq_true rfl) (Nat.le_of_ble_eq_true rfl) dX12_init_212 (fun H hW => ?_)
  refine p_X12_85 Cx hnm hW hL (k := 231) (by decide) rfl dX12_init_214 (fun H locs hW hL => ?_)
  refine lv_aload_n hx hb dX12_init_217 rfl (lv_at hl 0 rfl) ?_
  refine lv_sipush (v := 1820) hx hb dX12_init_218 (by decide) ?_
  refine sNewa (atype := .long) (ty := .long) Cx (N := 1820) rfl 1 rfl (fun U h => h) w_324 hW rfl rfl (by decide) rfl (Nat.le_of_ble_eq_true rfl) (Nat.le_of_ble_eq_true rfl) (Nat.le_of_ble_eq_true rfl) dX12_init_221 (fun H hW => ?_)
  refine p_X12_88 Cx hnm hW hL (k := 231) (by decide) rfl dX12_init_223 (fun H locs hW hL => ?_)
  refine lv_aload_n hx hb dX12_init_226 rfl (lv_at hl 0 rfl) ?_
  refine lv_iconst (v := 2) hx hb dX12_init_227 (by decide) ?_
  refine sNewa (atype := .int) (ty := .int) Cx (N := 2) rfl 0 rfl (fun U h => h) w_294 hW rfl rfl (by decide) rfl (Nat.le_of_ble_eq_true rfl) (Nat.le_of_ble_eq_true rfl) (Nat.le_of_ble_eq_true rfl) dX12_init_228 (fun H hW => ?_)
  refine p_X12_91 Cx hnm hW hL (k := 231) (by decide) rfl dX12_init_230 (fun H locs hW hL => ?_)
  refine lv_aload_n hx hb dX12_init_233 rfl (lv_at hl 0 rfl) ?_
  refine lv_bipush (v := 13) hx hb dX12_init_234 (by decide) ?_
  refine sNewa (atype := .boolean) (ty := .boolean) Cx (N := 13) rfl 3 rfl (fun U h => h) w_295 hW rfl rfl (by decide) rfl (Nat.le_of_ble_eq_true rfl) (Nat.le_of_ble_eq_true rfl) (Nat.le_of_ble_eq_true rfl) dX12_init_236 (fun H hW => ?_)
  refine p_X12_94 Cx hnm hW hL (k := 231) (by decide) rfl dX12_init_238 (fun H locs hW hL => ?_)
  refine lv_aload_n hx hb dX12_init_241 rfl (lv_at hl 0 rfl) ?_
  refine lv_bipush (v := 13) hx hb dX12_init_242 (by decide) ?_
  refine sNewa (atype := .long) (ty := .long) Cx (N := 13) rfl 1 rfl (fun U h => h) w_324 hW rfl rfl (by decide) rfl (Nat.le_of_ble_eq_true rfl) (Nat.le_of_ble_eq_true rfl) (Nat.le_of_ble_eq_true rfl) dX12_init_244 (fun H hW => ?_)
  refine p_X12_97 Cx hnm hW hL (k := 231) (by decide) rfl dX12_init_246 (fun H locs hW hL => ?_)
  refine lv_aload_n hx hb dX12_init_249 rfl (lv_at hl 0 rfl) ?_
  refine lv_sipush (v := 4368) hx hb dX12_init_250 (by decide) ?_
  refine sNewa (atype := .int) (ty := .int) Cx (N := 4368) rfl 0 rfl (fun U h => h) w_294 hW rfl rfl (by decide) rfl (Nat.le_of_ble_eq_true rfl) (Nat.le_of_ble_eq_true rfl) (Nat.le_of_ble_eq_true rfl) dX12_init_253 (fun H hW => ?_)
  refine p_X12_100 Cx hnm hW hL (k := 231) (by decide) rfl dX12_init_255 (fun H locs hW hL => ?_)
  refine lv_aload_n hx hb dX12_init_258 rfl (lv_at hl 0 rfl) ?_
  refine lv_sipush (v := 5280) hx hb dX12_init_259 (by decide) ?_
  refine sNewa (atype := .int) (ty := .int) Cx (N := 5280) rfl 0 rfl (fun U h => h) w_294 hW rfl rfl (by decide) rfl (Nat.le_of_ble_eq_true rfl) (Nat.le_of_ble_eq_true rfl) (Nat.le_of_ble_eq_true rfl) dX12_init_262 (fun H hW => ?_)
  refine p_X12_103 Cx hnm hW hL (k := 231) (by decide) rfl dX12_init_264 (fun H locs hW hL => ?_)
  refine lv_aload_n hx hb dX12_init_267 rfl (lv_at hl 0 rfl) ?_
  refine lv_sipush (v := 5280) hx hb dX12_init_268 (by decide) ?_
  refine sNewa (atype := .int) (ty := .int) Cx (N := 5280) rfl 0 rfl (fun U h => h) w_294 hW rfl rfl (by decide) rfl (Nat.le_of_ble_eq_true rfl) (Nat.le_of_ble_eq_true rfl) (Nat.le_of_ble_eq_true rfl) dX12_init_271 (fun H hW => ?_)
  refine p_X12_106 Cx hnm hW hL (k := 231) (by decide) rfl dX12_init_273 (fun H locs hW hL => ?_)
  refine lv_aload_n hx hb dX12_init_276 rfl (lv_at hl 0 rfl) ?_
  refine lv_bipush (v := 8) hx hb dX12_init_277 (by decide) ?_
  refine sNewa (atype := .int) (ty := .int) Cx (N := 8) rfl 0 rfl (fun U h => h) w_294 hW rfl rfl (by decide) rfl (Nat.le_of_ble_eq_true rfl) (Nat.le_of_ble_eq_true rfl) (Nat.le_of_ble_eq_true rfl) dX12_init_279 (fun H hW => ?_)
  refine p_X12_109 Cx hnm hW hL (k := 231) (by decide) rfl dX12_init_281 (fun H locs hW hL => ?_)
  refine lv_aload_n hx hb dX12_init_284 rfl (lv_at hl 0 rfl) ?_
  refine lv_bipush (v := 44) hx hb dX12_init_285 (by decide) ?_
  refine sNewa (atype := .int) (ty := .int) Cx (N := 44) rfl 0 rfl (fun U h => h) w_294 hW rfl rfl (by decide) rfl (Nat.le_of_ble_eq_true rfl) (Nat.le_of_ble_eq_true rfl) (Nat.le_of_ble_eq_true rfl) dX12_init_287 (fun H hW => ?_)
  refine p_X12_112 Cx hnm hW hL (k := 231) (by decide) rfl dX12_init_289 (fun H locs hW hL => ?_)
  refine lv_aload_n hx hb dX12_init_292 rfl (lv_at hl 0 rfl) ?_
  refine lv_bipush (v := 15) hx hb dX12_init_293 (by decide) ?_
  refine sNewa (atype := .int) (ty := .int) Cx (N := 15) rfl 0 rfl (fun U h => h) w_294 hW rfl rfl (by decide) rfl (Nat.le_of_ble_eq_true rfl) (Nat.le_of_ble_eq_true rfl) (Nat.le_of_ble_eq_true rfl) dX12_init_295 (fun H hW => ?_)
  refine p_X12_115 Cx hnm hW hL (k := 231) (by decide) rfl dX12_init_297 (fun H locs hW hL => ?_)
  refine lv_aload_n hx hb dX12_init_300 rfl (lv_at hl 0 rfl) ?_
  refine lv_ldc hx hb hown (hts _ w_1958) dX12_init_301 ?_
  refine sNewa (atype := .int) (ty := .int) Cx (N := 216480) rfl 0 rfl (fun U h => h) w_294 hW rfl rfl (by decide) rfl (Nat.le_of_ble_eq_true rfl) (Nat.le_of_ble_eq_true rfl) (Nat.le_of_ble_eq_true rfl) dX12_init_303 (fun H hW => ?_)
  refine p_X12_119 Cx hnm hW hL (k := 231) (by decide) rfl dX12_init_305 (fun H locs hW hL => ?_)
  refine lv_aload_n hx hb dX12_init_308 rfl (lv_at hl 0 rfl) ?_
  refine lv_sipush (v := 328) hx hb dX12_init_309 (by decide) ?_
  refine sNewa (atype := .int) (ty := .int) Cx (N := 328) rfl 0 rfl (fun U h => h) w_294 hW rfl rfl (by decide) rfl (Nat.le_of_ble_eq_true rfl) (Nat.le_of_ble_eq_true rfl) (Nat.le_of_ble_eq_true rfl) dX12_init_312 (fun H hW => ?_)
  refine p_X12_122 Cx hnm hW hL (k := 231) (by decide) rfl dX12_init_314 (fun H locs hW hL => ?_)
  refine lv_aload_n hx hb dX12_init_317 rfl (lv_at hl 0 rfl) ?_
  refine lv_sipush (v := 1804) hx hb dX12_init_318 (by decide) ?_
  refine sNewa (atype := .int) (ty := .int) Cx (N := 1804) rfl 0 rfl (fun U h => h) w_294 hW rfl rfl (by decide) rfl (Nat.le_of_ble_eq_true rfl) (Nat.le_of_ble_eq_true rfl) (Nat.le_of_ble_eq_true rfl) dX12_init_321 (fun H hW => ?_)
  refine p_X12_125 Cx hnm hW hL (k := 231) (by decide) rfl dX12_init_323 (fun H locs hW hL => ?_)
  refine lv_aload_n hx hb dX12_init_326 rfl (lv_at hl 0 rfl) ?_
  refine lv_sipush (v := 615) hx hb dX12_init_327 (by decide) ?_
  refine sNewa (atype := .int) (ty := .int) Cx (N := 615) rfl 0 rfl (fun U h => h) w_294 hW rfl rfl (by decide) rfl (Nat.le_of_ble_eq_true rfl) (Nat.le_of_ble_eq_true rfl) (Nat.le_of_ble_eq_true rfl) dX12_init_330 (fun H hW => ?_)
  refine p_X12_128 Cx hnm hW hL (k := 231) (by decide) rfl dX12_init_332 (fun H locs hW hL => ?_)
  refine lv_aload_n hx hb dX12_init_335 rfl (lv_at hl 0 rfl) ?_
  refine lv_sipush (v := 205) hx hb dX12_init_336 (by decide) ?_
  refine sNewa (atype := .int) (ty := .int) Cx (N := 205) rfl 0 rfl (fun U h => h) w_294 hW rfl rfl (by decide) rfl (Nat.le_of_ble_eq_true rfl) (Nat.le_of_ble_eq_true rfl) (Nat.le_of_ble_eq_true rfl) dX12_init_339 (fun H hW => ?_)
  refine p_X12_131 Cx hnm hW hL (k := 231) (by decide) rfl dX12_init_341 (fun H locs hW hL => ?_)
  refine lv_aload_n hx hb dX12_init_344 rfl (lv_at hl 0 rfl) ?_
  refine lv_bipush (v := 8) hx hb dX12_init_345 (by decide) ?_
  refine sNewa (atype := .int) (ty := .int) Cx (N := 8) rfl 0 rfl (fun U h => h) w_294 hW rfl rfl (by decide) rfl (Nat.le_of_ble_eq_true rfl) (Nat.le_of_ble_eq_true rfl) (Nat.le_of_ble_eq_true rfl) dX12_init_347 (fun H hW => ?_)
  refine p_X12_134 Cx hnm hW hL (k := 231) (by decide) rfl dX12_init_349 (fun H locs hW hL => ?_)
  refine lv_aload_n hx hb dX12_init_352 rfl (lv_at hl 0 rfl) ?_
  refine lv_bipush (v := 8) hx hb dX12_init_353 (by decide) ?_
  refine sNewa (atype := .int) (ty := .int) Cx (N := 8) rfl 0 rfl (fun U h => h) w_294 hW rfl rfl (by decide) rfl (Nat.le_of_ble_eq_true rfl) (Nat.le_of_ble_eq_true rfl) (Nat.le_of_ble_eq_true rfl) dX12_init_355 (fun H hW => ?_)
  refine p_X12_137 Cx hnm hW hL (k := 231) (by decide) rfl dX12_init_357 (fun H locs hW hL => ?_)
  refine lv_aload_n hx hb dX12_init_360 rfl (lv_at hl 0 rfl) ?_
  refine lv_bipush (v := 104) hx hb dX12_init_361 (by decide) ?_
  refine sNewa (atype := .int) (ty := .int) Cx (N := 104) rfl 0 rfl (fun U h => h) w_294 hW rfl rfl (by decide) rfl (Nat.le_of_ble_eq_true rfl) (Nat.le_of_ble_eq_true rfl) (Nat.le_of_ble_eq_true rfl) dX12_init_363 (fun H hW => ?_)
  refine p_X12_140 Cx hnm hW hL (k := 231) (by decide) rfl dX12_init_365 (fun H locs hW hL => ?_)
  refine lv_aload_n hx hb dX12_init_368 rfl (lv_at hl 0 rfl) ?_
  refine lv_ldc hx hb hown (hts _ w_1959) dX12_init_369 ?_
  refine sNewa (atype := .byte) (ty := .byte) Cx (N := 34000) rfl 2 rfl (fun U h => h) w_254 hW rfl rfl (by decide) rfl (Nat.le_of_ble_eq_true rfl) (Nat.le_of_ble_eq_true rfl) (Nat.le_of_ble_eq_true rfl) dX12_init_371 (fun H hW => ?_)
  refine p_X12_144 Cx hnm hW hL (k := 231) (by decide) rfl dX12_init_373 (fun H locs hW hL => ?_)
  refine lv_aload_n hx hb dX12_init_376 rfl (lv_at hl 0 rfl) ?_
  refine lv_ldc hx hb hown (hts _ w_1960) dX12_init_377 ?_
  refine sNewa (atype := .byte) (ty := .byte) Cx (N := 36000) rfl 2 rfl (fun U h => h) w_254 hW rfl rfl (by decide) rfl (Nat.le_of_ble_eq_true rfl) (Nat.le_of_ble_eq_true rfl) (Nat.le_of_ble_eq_true rfl) dX12_init_379 (fun H hW => ?_)
  refine p_X12_148 Cx hnm hW hL (k := 231) (by decide) rfl dX12_init_381 (fun H locs hW hL => ?_)
  refine lv_aload_n hx hb dX12_init_384 rfl (lv_at hl 0 rfl) ?_
  refine lv_iconst (v := 4) hx hb dX12_init_385 (by decide) ?_
  refine sNewa (atype := .int) (ty := .int) Cx (N := 4) rfl 0 rfl (fun U h => h) w_294 hW rfl rfl (by decide) rfl (Nat.le_of_ble_eq_true rfl) (Nat.le_of_ble_eq_true rfl) (Nat.le_of_ble_eq_true rfl) dX12_init_386 (fun H hW => ?_)
  refine p_X12_151 Cx hnm hW hL (k := 231) (by decide) rfl dX12_init_388 (fun H locs hW hL => ?_)
  refine lv_aload_n hx hb dX12_init_391 rfl (lv_at hl 0 rfl) ?_
  refine lv_sipush (v := 336) hx hb dX12_init_392 (by decide) ?_
  refine sNewa (atype := .int) (ty := .int) Cx (N := 336) rfl 0 rfl (fun U h => h) w_294 hW rfl rfl (by decide) rfl (Nat.le_of_ble_eq_true rfl) (Nat.le_of_ble_eq_true rfl) (Nat.le_of_ble_eq_true rfl) dX12_init_395 (fun H hW => ?_)
  refine p_X12_154 Cx hnm hW hL (k := 231) (by decide) rfl dX12_init_397 (fun H locs hW hL => ?_)
  refine lv_aload_n hx hb dX12_init_400 rfl (lv_at hl 0 rfl) ?_
  refine lv_bipush (v := 68) hx hb dX12_init_401 (by decide) ?_
  refine sNewa (atype := .int) (ty := .int) Cx (N := 68) rfl 0 rfl (fun U h => h) w_294 hW rfl rfl (by decide) rfl (Nat.le_of_ble_eq_true rfl) (Nat.le_of_ble_eq_true rfl) (Nat.le_of_ble_eq_true rfl) dX12_init_403 (fun H hW => ?_)
  refine p_X12_157 Cx hnm hW hL (k := 231) (by decide) rfl dX12_init_405 (fun H locs hW hL => ?_)
  refine lv_aload_n hx hb dX12_init_408 rfl (lv_at hl 0 rfl) ?_
  refine lv_bipush (v := 68) hx hb dX12_init_409 (by decide) ?_
  refine sNewa (atype := .int) (ty := .int) Cx (N := 68) rfl 0 rfl (fun U h => h) w_294 hW rfl rfl (by decide) rfl (Nat.le_of_ble_eq_true rfl) (Nat.le_of_ble_eq_true rfl) (Nat.le_of_ble_eq_true rfl) dX12_init_411 (fun H hW => ?_)
  refine p_X12_160 Cx hnm hW hL (k := 231) (by decide) rfl dX12_init_413 (fun H locs hW hL => ?_)
  refine lv_aload_n hx hb dX12_init_416 rfl (lv_at hl 0 rfl) ?_
  refine lv_bipush (v := 104) hx hb dX12_init_417 (by decide) ?_
  refine sNewa (atype := .int) (ty := .int) Cx (N := 104) rfl 0 rfl (fun U h => h) w_294 hW rfl rfl (by decide) rfl (Nat.le_of_ble_eq_true rfl) (Nat.le_of_ble_eq_true rfl) (Nat.le_of_ble_eq_true rfl) dX12_init_419 (fun H hW => ?_)
  refine p_X12_163 Cx hnm hW hL (k := 231) (by decide) rfl dX12_init_421 (fun H locs hW hL => ?_)
  refine lv_aload_n hx hb dX12_init_424 rfl (lv_at hl 0 rfl) ?_
  refine lv_iconst (v := 4) hx hb dX12_init_425 (by decide) ?_
  refine sNewa (atype := .int) (ty := .int) Cx (N := 4) rfl 0 rfl (fun U h => h) w_294 hW rfl rfl (by decide) rfl (Nat.le_of_ble_eq_true rfl) (Nat.le_of_ble_eq_true rfl) (Nat.le_of_ble_eq_true rfl) dX12_init_426 (fun H hW => ?_)
  refine p_X12_166 Cx hnm hW hL (k := 231) (by decide) rfl dX12_init_428 (fun H locs hW hL => ?_)
  refine lv_aload_n hx hb dX12_init_431 rfl (lv_at hl 0 rfl) ?_
  refine lv_sipush (v := 5460) hx hb dX12_init_432 (by decide) ?_
  refine sNewa (atype := .int) (ty := .int) Cx (N := 5460) rfl 0 rfl (fun U h => h) w_294 hW rfl rfl (by decide) rfl (Nat.le_of_ble_eq_true rfl) (Nat.le_of_ble_eq_true rfl) (Nat.le_of_ble_eq_true rfl) dX12_init_435 (fun H hW => ?_)
  refine p_X12_169 Cx hnm hW hL (k := 231) (by decide) rfl dX12_init_437 (fun H locs hW hL => ?_)
  refine lv_aload_n hx hb dX12_init_440 rfl (lv_at hl 0 rfl) ?_
  refine lv_sipush (v := 520) hx hb dX12_init_441 (by decide) ?_
  refine sNewa (atype := .int) (ty := .int) Cx (N := 520) rfl 0 rfl (fun U h => h) w_294 hW rfl rfl (by decide) rfl (Nat.le_of_ble_eq_true rfl) (Nat.le_of_ble_eq_true rfl) (Nat.le_of_ble_eq_true rfl) dX12_init_444 (fun H hW => ?_)
  refine p_X12_172 Cx hnm hW hL (k := 231) (by decide) rfl dX12_init_446 (fun H locs hW hL => ?_)
  refine lv_aload_n hx hb dX12_init_449 rfl (lv_at hl 0 rfl) ?_
  refine lv_sipush (v := 140) hx hb dX12_init_450 (by decide) ?_
  refine sNewa (atype := .int) (ty := .int) Cx (N := 140) rfl 0 rfl (fun U h => h) w_294 hW rfl rfl (by decide) rfl (Nat.le_of_ble_eq_true rfl) (Nat.le_of_ble_eq_true rfl) (Nat.le_of_ble_eq_true rfl) dX12_init_453 (fun H hW => ?_)
  refine p_X12_175 Cx hnm hW hL (k := 231) (by decide) rfl dX12_init_455 (fun H locs hW hL => ?_)
  refine lv_aload_n hx hb dX12_init_458 rfl (lv_at hl 0 rfl) ?_
  refine lv_bipush (v := 10) hx hb dX12_init_459 (by decide) ?_
  refine sNewa (atype := .int) (ty := .int) Cx (N := 10) rfl 0 rfl (fun U h => h) w_294 hW rfl rfl (by decide) rfl (Nat.le_of_ble_eq_true rfl) (Nat.le_of_ble_eq_true rfl) (Nat.le_of_ble_eq_true rfl) dX12_init_461 (fun H hW => ?_)
  refine p_X12_178 Cx hnm hW hL (k := 231) (by decide) rfl dX12_init_463 (fun H locs hW hL => ?_)
  refine lv_aload_n hx hb dX12_init_466 rfl (lv_at hl 0 rfl) ?_
  refine lv_bipush (v := 10) hx hb dX12_init_467 (by decide) ?_
  refine sNewa (atype := .int) (ty := .int) Cx (N := 10) rfl 0 rfl (fun U h => h) w_294 hW rfl rfl (by decide) rfl (Nat.le_of_ble_eq_true rfl) (Nat.le_of_ble_eq_true rfl) (Nat.le_of_ble_eq_true rfl) dX12_init_469 (fun H hW => ?_)
  refine p_X12_181 Cx hnm hW hL (k := 231) (by decide) rfl dX12_init_471 (fun H locs hW hL => ?_)
  refine lv_aload_n hx hb dX12_init_474 rfl (lv_at hl 0 rfl) ?_
  refine lv_bipush (v := 10) hx hb dX12_init_475 (by decide) ?_
  refine sNewa (atype := .int) (ty := .int) Cx (N := 10) rfl 0 rfl (fun U h => h) w_294 hW rfl rfl (by decide) rfl (Nat.le_of_ble_eq_true rfl) (Nat.le_of_ble_eq_true rfl) (Nat.le_of_ble_eq_true rfl) dX12_init_477 (fun H hW => ?_)
  refine p_X12_184 Cx hnm hW hL (k := 231) (by decide) rfl dX12_init_479 (fun H locs hW hL => ?_)
  refine lv_aload_n hx hb dX12_init_482 rfl (lv_at hl 0 rfl) ?_
  refine lv_bipush (v := 10) hx hb dX12_init_483 (by decide) ?_
  refine sNewa (atype := .int) (ty := .int) Cx (N := 10) rfl 0 rfl (fun U h => h) w_294 hW rfl rfl (by decide) rfl (Nat.le_of_ble_eq_true rfl) (Nat.le_of_ble_eq_true rfl) (Nat.le_of_ble_eq_true rfl) dX12_init_485 (fun H hW => ?_)
  refine p_X12_187 Cx hnm hW hL (k := 231) (by decide) rfl dX12_init_487 (fun H locs hW hL => ?_)
  refine lv_aload_n hx hb dX12_init_490 rfl (lv_at hl 0 rfl) ?_
  refine lv_sipush (v := 247) hx hb dX12_init_491 (by decide) ?_
  refine sNewa (atype := .long) (ty := .long) Cx (N := 247) rfl 1 rfl (fun U h => h) w_324 hW rfl rfl (by decide) rfl (Nat.le_of_ble_eq_true rfl) (Nat.le_of_ble_eq_true rfl) (Nat.le_of_ble_eq_true rfl) dX12_init_494 (fun H hW => ?_)
  refine p_X12_190 Cx hnm hW hL (k := 231) (by decide) rfl dX12_init_496 (fun H locs hW hL => ?_)
  refine lv_aload_n hx hb dX12_init_499 rfl (lv_at hl 0 rfl) ?_
  refine lv_sipush (v := 3002) hx hb dX12_init_500 (by decide) ?_
  refine sNewa (atype := .int) (ty := .int) Cx (N := 3002) rfl 0 rfl (fun U h => h) w_294 hW rfl rfl (by decide) rfl (Nat.le_of_ble_eq_true rfl) (Nat.le_of_ble_eq_true rfl) (Nat.le_of_ble_eq_true rfl) dX12_init_503 (fun H hW => ?_)
  refine p_X12_193 Cx hnm hW hL (k := 231) (by decide) rfl dX12_init_505 (fun H locs hW hL => ?_)
  refine lv_aload_n hx hb dX12_init_508 rfl (lv_at hl 0 rfl) ?_
  refine lv_sipush (v := 3002) hx hb dX12_init_509 (by decide) ?_
  refine sNewa (atype := .int) (ty := .int) Cx (N := 3002) rfl 0 rfl (fun U h => h) w_294 hW rfl rfl (by decide) rfl (Nat.le_of_ble_eq_true rfl) (Nat.le_of_ble_eq_true rfl) (Nat.le_of_ble_eq_true rfl) dX12_init_512 (fun H hW => ?_)
  refine p_X12_196 Cx hnm hW hL (k := 231) (by decide) rfl dX12_init_514 (fun H locs hW hL => ?_)
  refine lv_aload_n hx hb dX12_init_517 rfl (lv_at hl 0 rfl) ?_
  refine lv_sipush (v := 3002) hx hb dX12_init_518 (by decide) ?_
  refine sNewa (atype := .int) (ty := .int) Cx (N := 3002) rfl 0 rfl (fun U h => h) w_294 hW rfl rfl (by decide) rfl (Nat.le_of_ble_eq_true rfl) (Nat.le_of_ble_eq_true rfl) (Nat.le_of_ble_eq_true rfl) dX12_init_521 (fun H hW => ?_)
  refine p_X12_199 Cx hnm hW hL (k := 231) (by decide) rfl dX12_init_523 (fun H locs hW hL => ?_)
  exact sVret Cx hr hlk hW hL rfl dX12_init_526
end
