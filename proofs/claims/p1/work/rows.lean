section
-- ===== PART A: goes FIRST, ahead of the names: the tables' words, and 'selects' of the private methods out of them =====
/-- a private method of a class that the tables say can be made, by its rows of tables_1 -/
def lw_okq (q : MethodName × Nat) : Prop := (q.1.cls ≠ "java/lang/invoke/MethodHandle" ∧ q.1.cls ≠ "java/lang/invoke/VarHandle") ∧ Cond.instantiable q.1.cls q.2 ∈ tables_1 ∧ Cond.privateMethod q.1 ∈ tables_1 ∧ Cond.instanceMethod q.1 ∈ tables_1
theorem lw_p0 : lw_okq (⟨"OptimumHouse$Syntax", "scanOne", "(LOptimumHouse$Text;I)I"⟩, 5) := ⟨⟨by decide +kernel, by decide +kernel⟩, List.mem_of_getElem? (i := 100) (by decide +kernel), List.mem_of_getElem? (i := 577) (by decide +kernel), List.mem_of_getElem? (i := 578) (by decide +kernel)⟩
theorem lw_p1 : lw_okq (⟨"OptimumHouse$Syntax", "scanName", "(LOptimumHouse$Text;I)I"⟩, 5) := ⟨⟨by decide +kernel, by decide +kernel⟩, List.mem_of_getElem? (i := 100) (by decide +kernel), List.mem_of_getElem? (i := 588) (by decide +kernel), List.mem_of_getElem? (i := 589) (by decide +kernel)⟩
theorem lw_p2 : lw_okq (⟨"OptimumHouse$Syntax", "token", "(IIJ)V"⟩, 5) := ⟨⟨by decide +kernel, by decide +kernel⟩, List.mem_of_getElem? (i := 100) (by decide +kernel), List.mem_of_getElem? (i := 600) (by decide +kernel), List.mem_of_getElem? (i := 601) (by decide +kernel)⟩
theorem lw_p3 : lw_okq (⟨"OptimumHouse$Syntax", "scanNumber", "(LOptimumHouse$Text;I)I"⟩, 5) := ⟨⟨by decide +kernel, by decide +kernel⟩, List.mem_of_getElem? (i := 100) (by decide +kernel), List.mem_of_getElem? (i := 604) (by decide +kernel), List.mem_of_getElem? (i := 605) (by decide +kernel)⟩
theorem lw_p4 : lw_okq (⟨"OptimumHouse$Syntax", "is", "(I)Z"⟩, 5) := ⟨⟨by decide +kernel, by decide +kernel⟩, List.mem_of_getElem? (i := 100) (by decide +kernel), List.mem_of_getElem? (i := 695) (by decide +kernel), List.mem_of_getElem? (i := 696) (by decide +kernel)⟩
theorem lw_p5 : lw_okq (⟨"OptimumHouse$Syntax", "declaration", "()Z"⟩, 5) := ⟨⟨by decide +kernel, by decide +kernel⟩, List.mem_of_getElem? (i := 100) (by decide +kernel), List.mem_of_getElem? (i := 699) (by decide +kernel), List.mem_of_getElem? (i := 700) (by decide +kernel)⟩
theorem lw_p6 : lw_okq (⟨"OptimumHouse$Syntax", "pass", "(I)Z"⟩, 5) := ⟨⟨by decide +kernel, by decide +kernel⟩, List.mem_of_getElem? (i := 100) (by decide +kernel), List.mem_of_getElem? (i := 707) (by decide +kernel), List.mem_of_getElem? (i := 708) (by decide +kernel)⟩
theorem lw_p7 : lw_okq (⟨"OptimumHouse$Syntax", "indexes", "()Z"⟩, 5) := ⟨⟨by decide +kernel, by decide +kernel⟩, List.mem_of_getElem? (i := 100) (by decide +kernel), List.mem_of_getElem? (i := 711) (by decide +kernel), List.mem_of_getElem? (i := 712) (by decide +kernel)⟩
theorem lw_p8 : lw_okq (⟨"OptimumHouse$Syntax", "valueList", "()Z"⟩, 5) := ⟨⟨by decide +kernel, by decide +kernel⟩, List.mem_of_getElem? (i := 100) (by decide +kernel), List.mem_of_getElem? (i := 715) (by decide +kernel), List.mem_of_getElem? (i := 716) (by decide +kernel)⟩
theorem lw_p9 : lw_okq (⟨"OptimumHouse$Syntax", "expression", "(I)Z"⟩, 5) := ⟨⟨by decide +kernel, by decide +kernel⟩, List.mem_of_getElem? (i := 100) (by decide +kernel), List.mem_of_getElem? (i := 719) (by decide +kernel), List.mem_of_getElem? (i := 720) (by decide +kernel)⟩
theorem lw_p10 : lw_okq (⟨"OptimumHouse$Syntax", "term", "(I)Z"⟩, 5) := ⟨⟨by decide +kernel, by decide +kernel⟩, List.mem_of_getElem? (i := 100) (by decide +kernel), List.mem_of_getElem? (i := 723) (by decide +kernel), List.mem_of_getElem? (i := 724) (by decide +kernel)⟩
theorem lw_p11 : lw_okq (⟨"OptimumHouse$Syntax", "factor", "(I)Z"⟩, 5) := ⟨⟨by decide +kernel, by decide +kernel⟩, List.mem_of_getElem? (i := 100) (by decide +kernel), List.mem_of_getElem? (i := 727) (by decide +kernel), List.mem_of_getElem? (i := 728) (by decide +kernel)⟩
theorem lw_p12 : lw_okq (⟨"OptimumHouse$Syntax", "items", "()Z"⟩, 5) := ⟨⟨by decide +kernel, by decide +kernel⟩, List.mem_of_getElem? (i := 100) (by decide +kernel), List.mem_of_getElem? (i := 731) (by decide +kernel), List.mem_of_getElem? (i := 732) (by decide +kernel)⟩
theorem lw_p13 : lw_okq (⟨"OptimumHouse$Syntax", "item", "()Z"⟩, 5) := ⟨⟨by decide +kernel, by decide +kernel⟩, List.mem_of_getElem? (i := 100) (by decide +kernel), List.mem_of_getElem? (i := 735) (by decide +kernel), List.mem_of_getElem? (i := 736) (by decide +kernel)⟩
theorem lw_p14 : lw_okq (⟨"OptimumHouse$Syntax", "row", "()Z"⟩, 5) := ⟨⟨by decide +kernel, by decide +kernel⟩, List.mem_of_getElem? (i := 100) (by decide +kernel), List.mem_of_getElem? (i := 739) (by decide +kernel), List.mem_of_getElem? (i := 740) (by decide +kernel)⟩
theorem lw_p15 : lw_okq (⟨"OptimumHouse$Teller", "tellSet", "()Z"⟩, 17) := ⟨⟨by decide +kernel, by decide +kernel⟩, List.mem_of_getElem? (i := 94) (by decide +kernel), List.mem_of_getElem? (i := 760) (by decide +kernel), List.mem_of_getElem? (i := 761) (by decide +kernel)⟩
def lw_privs_1 : List (MethodName × Nat) := [(⟨"OptimumHouse$Syntax", "scanOne", "(LOptimumHouse$Text;I)I"⟩, 5), (⟨"OptimumHouse$Syntax", "scanName", "(LOptimumHouse$Text;I)I"⟩, 5), (⟨"OptimumHouse$Syntax", "token", "(IIJ)V"⟩, 5), (⟨"OptimumHouse$Syntax", "scanNumber", "(LOptimumHouse$Text;I)I"⟩, 5), (⟨"OptimumHouse$Syntax", "is", "(I)Z"⟩, 5), (⟨"OptimumHouse$Syntax", "declaration", "()Z"⟩, 5), (⟨"OptimumHouse$Syntax", "pass", "(I)Z"⟩, 5), (⟨"OptimumHouse$Syntax", "indexes", "()Z"⟩, 5), (⟨"OptimumHouse$Syntax", "valueList", "()Z"⟩, 5), (⟨"OptimumHouse$Syntax", "expression", "(I)Z"⟩, 5), (⟨"OptimumHouse$Syntax", "term", "(I)Z"⟩, 5), (⟨"OptimumHouse$Syntax", "factor", "(I)Z"⟩, 5), (⟨"OptimumHouse$Syntax", "items", "()Z"⟩, 5), (⟨"OptimumHouse$Syntax", "item", "()Z"⟩, 5), (⟨"OptimumHouse$Syntax", "row", "()Z"⟩, 5), (⟨"OptimumHouse$Teller", "tellSet", "()Z"⟩, 17)]
theorem lw_r1 : ∀ q ∈ lw_privs_1, lw_okq q := List.forall_mem_cons.mpr ⟨lw_p0, List.forall_mem_cons.mpr ⟨lw_p1, List.forall_mem_cons.mpr ⟨lw_p2, List.forall_mem_cons.mpr ⟨lw_p3, List.forall_mem_cons.mpr ⟨lw_p4, List.forall_mem_cons.mpr ⟨lw_p5, List.forall_mem_cons.mpr ⟨lw_p6, List.forall_mem_cons.mpr ⟨lw_p7, List.forall_mem_cons.mpr ⟨lw_p8, List.forall_mem_cons.mpr ⟨lw_p9, List.forall_mem_cons.mpr ⟨lw_p10, List.forall_mem_cons.mpr ⟨lw_p11, List.forall_mem_cons.mpr ⟨lw_p12, List.forall_mem_cons.mpr ⟨lw_p13, List.forall_mem_cons.mpr ⟨lw_p14, List.forall_mem_cons.mpr ⟨lw_p15, fun _ h => absurd h List.not_mem_nil⟩⟩⟩⟩⟩⟩⟩⟩⟩⟩⟩⟩⟩⟩⟩⟩
theorem lw_p16 : lw_okq (⟨"OptimumHouse$Teller", "learn", "(II)I"⟩, 17) := ⟨⟨by decide +kernel, by decide +kernel⟩, List.mem_of_getElem? (i := 94) (by decide +kernel), List.mem_of_getElem? (i := 764) (by decide +kernel), List.mem_of_getElem? (i := 765) (by decide +kernel)⟩
theorem lw_p17 : lw_okq (⟨"OptimumHouse$Teller", "find", "(J)I"⟩, 17) := ⟨⟨by decide +kernel, by decide +kernel⟩, List.mem_of_getElem? (i := 94) (by decide +kernel), List.mem_of_getElem? (i := 772) (by decide +kernel), List.mem_of_getElem? (i := 773) (by decide +kernel)⟩
theorem lw_p18 : lw_okq (⟨"OptimumHouse$Teller", "fail", "(II)Z"⟩, 17) := ⟨⟨by decide +kernel, by decide +kernel⟩, List.mem_of_getElem? (i := 94) (by decide +kernel), List.mem_of_getElem? (i := 776) (by decide +kernel), List.mem_of_getElem? (i := 777) (by decide +kernel)⟩
theorem lw_p19 : lw_okq (⟨"OptimumHouse$Teller", "setFact", "(III)V"⟩, 17) := ⟨⟨by decide +kernel, by decide +kernel⟩, List.mem_of_getElem? (i := 94) (by decide +kernel), List.mem_of_getElem? (i := 780) (by decide +kernel), List.mem_of_getElem? (i := 781) (by decide +kernel)⟩
theorem lw_p20 : lw_okq (⟨"OptimumHouse$Teller", "number", "(I)I"⟩, 17) := ⟨⟨by decide +kernel, by decide +kernel⟩, List.mem_of_getElem? (i := 94) (by decide +kernel), List.mem_of_getElem? (i := 784) (by decide +kernel), List.mem_of_getElem? (i := 785) (by decide +kernel)⟩
theorem lw_p21 : lw_okq (⟨"OptimumHouse$Teller", "tellPar", "()Z"⟩, 17) := ⟨⟨by decide +kernel, by decide +kernel⟩, List.mem_of_getElem? (i := 94) (by decide +kernel), List.mem_of_getElem? (i := 788) (by decide +kernel), List.mem_of_getElem? (i := 789) (by decide +kernel)⟩
theorem lw_p22 : lw_okq (⟨"OptimumHouse$Teller", "tellIndexes", "(I)Z"⟩, 17) := ⟨⟨by decide +kernel, by decide +kernel⟩, List.mem_of_getElem? (i := 94) (by decide +kernel), List.mem_of_getElem? (i := 792) (by decide +kernel), List.mem_of_getElem? (i := 793) (by decide +kernel)⟩
theorem lw_p23 : lw_okq (⟨"OptimumHouse$Teller", "isSort", "(II)Z"⟩, 17) := ⟨⟨by decide +kernel, by decide +kernel⟩, List.mem_of_getElem? (i := 94) (by decide +kernel), List.mem_of_getElem? (i := 796) (by decide +kernel), List.mem_of_getElem? (i := 797) (by decide +kernel)⟩
theorem lw_p24 : lw_okq (⟨"OptimumHouse$Teller", "fact", "(II)I"⟩, 17) := ⟨⟨by decide +kernel, by decide +kernel⟩, List.mem_of_getElem? (i := 94) (by decide +kernel), List.mem_of_getElem? (i := 800) (by decide +kernel), List.mem_of_getElem? (i := 801) (by decide +kernel)⟩
theorem lw_p25 : lw_okq (⟨"OptimumHouse$Teller", "asked", "(I)I"⟩, 17) := ⟨⟨by decide +kernel, by decide +kernel⟩, List.mem_of_getElem? (i := 94) (by decide +kernel), List.mem_of_getElem? (i := 804) (by decide +kernel), List.mem_of_getElem? (i := 805) (by decide +kernel)⟩
theorem lw_p26 : lw_okq (⟨"OptimumHouse$Teller", "setSize", "(I)I"⟩, 17) := ⟨⟨by decide +kernel, by decide +kernel⟩, List.mem_of_getElem? (i := 94) (by decide +kernel), List.mem_of_getElem? (i := 808) (by decide +kernel), List.mem_of_getElem? (i := 809) (by decide +kernel)⟩
theorem lw_p27 : lw_okq (⟨"OptimumHouse$Teller", "tellVar", "()Z"⟩, 17) := ⟨⟨by decide +kernel, by decide +kernel⟩, List.mem_of_getElem? (i := 94) (by decide +kernel), List.mem_of_getElem? (i := 812) (by decide +kernel), List.mem_of_getElem? (i := 813) (by decide +kernel)⟩
theorem lw_p28 : lw_okq (⟨"OptimumHouse$Teller", "tellRow", "()Z"⟩, 17) := ⟨⟨by decide +kernel, by decide +kernel⟩, List.mem_of_getElem? (i := 94) (by decide +kernel), List.mem_of_getElem? (i := 820) (by decide +kernel), List.mem_of_getElem? (i := 821) (by decide +kernel)⟩
theorem lw_p29 : lw_okq (⟨"OptimumHouse$Teller", "tellOneRow", "(I)Z"⟩, 17) := ⟨⟨by decide +kernel, by decide +kernel⟩, List.mem_of_getElem? (i := 94) (by decide +kernel), List.mem_of_getElem? (i := 824) (by decide +kernel), List.mem_of_getElem? (i := 825) (by decide +kernel)⟩
theorem lw_p30 : lw_okq (⟨"OptimumHouse$Teller", "expression", "(I)Z"⟩, 17) := ⟨⟨by decide +kernel, by decide +kernel⟩, List.mem_of_getElem? (i := 94) (by decide +kernel), List.mem_of_getElem? (i := 828) (by decide +kernel), List.mem_of_getElem? (i := 829) (by decide +kernel)⟩
theorem lw_p31 : lw_okq (⟨"OptimumHouse$Teller", "term", "(I)Z"⟩, 17) := ⟨⟨by decide +kernel, by decide +kernel⟩, List.mem_of_getElem? (i := 94) (by decide +kernel), List.mem_of_getElem? (i := 832) (by decide +kernel), List.mem_of_getElem? (i := 833) (by decide +kernel)⟩
def lw_privs_2 : List (MethodName × Nat) := [(⟨"OptimumHouse$Teller", "learn", "(II)I"⟩, 17), (⟨"OptimumHouse$Teller", "find", "(J)I"⟩, 17), (⟨"OptimumHouse$Teller", "fail", "(II)Z"⟩, 17), (⟨"OptimumHouse$Teller", "setFact", "(III)V"⟩, 17), (⟨"OptimumHouse$Teller", "number", "(I)I"⟩, 17), (⟨"OptimumHouse$Teller", "tellPar", "()Z"⟩, 17), (⟨"OptimumHouse$Teller", "tellIndexes", "(I)Z"⟩, 17), (⟨"OptimumHouse$Teller", "isSort", "(II)Z"⟩, 17), (⟨"OptimumHouse$Teller", "fact", "(II)I"⟩, 17), (⟨"OptimumHouse$Teller", "asked", "(I)I"⟩, 17), (⟨"OptimumHouse$Teller", "setSize", "(I)I"⟩, 17), (⟨"OptimumHouse$Teller", "tellVar", "()Z"⟩, 17), (⟨"OptimumHouse$Teller", "tellRow", "()Z"⟩, 17), (⟨"OptimumHouse$Teller", "tellOneRow", "(I)Z"⟩, 17), (⟨"OptimumHouse$Teller", "expression", "(I)Z"⟩, 17), (⟨"OptimumHouse$Teller", "term", "(I)Z"⟩, 17)]
theorem lw_r2 : ∀ q ∈ lw_privs_2, lw_okq q := List.forall_mem_cons.mpr ⟨lw_p16, List.forall_mem_cons.mpr ⟨lw_p17, List.forall_mem_cons.mpr ⟨lw_p18, List.forall_mem_cons.mpr ⟨lw_p19, List.forall_mem_cons.mpr ⟨lw_p20, List.forall_mem_cons.mpr ⟨lw_p21, List.forall_mem_cons.mpr ⟨lw_p22, List.forall_mem_cons.mpr ⟨lw_p23, List.forall_mem_cons.mpr ⟨lw_p24, List.forall_mem_cons.mpr ⟨lw_p25, List.forall_mem_cons.mpr ⟨lw_p26, List.forall_mem_cons.mpr ⟨lw_p27, List.forall_mem_cons.mpr ⟨lw_p28, List.forall_mem_cons.mpr ⟨lw_p29, List.forall_mem_cons.mpr ⟨lw_p30, List.forall_mem_cons.mpr ⟨lw_p31, fun _ h => absurd h List.not_mem_nil⟩⟩⟩⟩⟩⟩⟩⟩⟩⟩⟩⟩⟩⟩⟩⟩
theorem lw_p32 : lw_okq (⟨"OptimumHouse$Teller", "factor", "(I)Z"⟩, 17) := ⟨⟨by decide +kernel, by decide +kernel⟩, List.mem_of_getElem? (i := 94) (by decide +kernel), List.mem_of_getElem? (i := 836) (by decide +kernel), List.mem_of_getElem? (i := 837) (by decide +kernel)⟩
theorem lw_p33 : lw_okq (⟨"OptimumHouse$Teller", "canBeFactor", "(I)Z"⟩, 17) := ⟨⟨by decide +kernel, by decide +kernel⟩, List.mem_of_getElem? (i := 94) (by decide +kernel), List.mem_of_getElem? (i := 840) (by decide +kernel), List.mem_of_getElem? (i := 841) (by decide +kernel)⟩
theorem lw_p34 : lw_okq (⟨"OptimumHouse$Teller", "named", "(II)Z"⟩, 17) := ⟨⟨by decide +kernel, by decide +kernel⟩, List.mem_of_getElem? (i := 94) (by decide +kernel), List.mem_of_getElem? (i := 847) (by decide +kernel), List.mem_of_getElem? (i := 848) (by decide +kernel)⟩
theorem lw_p35 : lw_okq (⟨"OptimumHouse$Teller", "item", "()I"⟩, 17) := ⟨⟨by decide +kernel, by decide +kernel⟩, List.mem_of_getElem? (i := 94) (by decide +kernel), List.mem_of_getElem? (i := 851) (by decide +kernel), List.mem_of_getElem? (i := 852) (by decide +kernel)⟩
theorem lw_p36 : lw_okq (⟨"OptimumHouse$Teller", "putNamed", "([JII)V"⟩, 17) := ⟨⟨by decide +kernel, by decide +kernel⟩, List.mem_of_getElem? (i := 94) (by decide +kernel), List.mem_of_getElem? (i := 855) (by decide +kernel), List.mem_of_getElem? (i := 856) (by decide +kernel)⟩
theorem lw_p37 : lw_okq (⟨"OptimumHouse$Teller", "negated", "(I)Z"⟩, 17) := ⟨⟨by decide +kernel, by decide +kernel⟩, List.mem_of_getElem? (i := 94) (by decide +kernel), List.mem_of_getElem? (i := 859) (by decide +kernel), List.mem_of_getElem? (i := 860) (by decide +kernel)⟩
theorem lw_p38 : lw_okq (⟨"OptimumHouse$Teller", "inner", "(I)Z"⟩, 17) := ⟨⟨by decide +kernel, by decide +kernel⟩, List.mem_of_getElem? (i := 94) (by decide +kernel), List.mem_of_getElem? (i := 866) (by decide +kernel), List.mem_of_getElem? (i := 867) (by decide +kernel)⟩
theorem lw_p39 : lw_okq (⟨"OptimumHouse$Teller", "summed", "(I)Z"⟩, 17) := ⟨⟨by decide +kernel, by decide +kernel⟩, List.mem_of_getElem? (i := 94) (by decide +kernel), List.mem_of_getElem? (i := 870) (by decide +kernel), List.mem_of_getElem? (i := 871) (by decide +kernel)⟩
theorem lw_p40 : lw_okq (⟨"OptimumHouse$Teller", "forgetLast", "()V"⟩, 17) := ⟨⟨by decide +kernel, by decide +kernel⟩, List.mem_of_getElem? (i := 94) (by decide +kernel), List.mem_of_getElem? (i := 881) (by decide +kernel), List.mem_of_getElem? (i := 882) (by decide +kernel)⟩
theorem lw_p41 : lw_okq (⟨"OptimumHouse$Teller", "tellGoal", "()Z"⟩, 17) := ⟨⟨by decide +kernel, by decide +kernel⟩, List.mem_of_getElem? (i := 94) (by decide +kernel), List.mem_of_getElem? (i := 902) (by decide +kernel), List.mem_of_getElem? (i := 903) (by decide +kernel)⟩
theorem lw_p42 : lw_okq (⟨"OptimumHouse$Dictionary", "needsHelper", "()Z"⟩, 20) := ⟨⟨by decide +kernel, by decide +kernel⟩, List.mem_of_getElem? (i := 245) (by decide +kernel), List.mem_of_getElem? (i := 996) (by decide +kernel), List.mem_of_getElem? (i := 997) (by decide +kernel)⟩
theorem lw_p43 : lw_okq (⟨"OptimumHouse$Dictionary", "addHelper", "()V"⟩, 20) := ⟨⟨by decide +kernel, by decide +kernel⟩, List.mem_of_getElem? (i := 245) (by decide +kernel), List.mem_of_getElem? (i := 1005) (by decide +kernel), List.mem_of_getElem? (i := 1006) (by decide +kernel)⟩
theorem lw_p44 : lw_okq (⟨"OptimumHouse$Dictionary", "pivotRow", "(II)Z"⟩, 20) := ⟨⟨by decide +kernel, by decide +kernel⟩, List.mem_of_getElem? (i := 245) (by decide +kernel), List.mem_of_getElem? (i := 1037) (by decide +kernel), List.mem_of_getElem? (i := 1038) (by decide +kernel)⟩
theorem lw_p45 : lw_okq (⟨"OptimumHouse$Dictionary", "small", "(I)J"⟩, 20) := ⟨⟨by decide +kernel, by decide +kernel⟩, List.mem_of_getElem? (i := 245) (by decide +kernel), List.mem_of_getElem? (i := 1041) (by decide +kernel), List.mem_of_getElem? (i := 1042) (by decide +kernel)⟩
theorem lw_p46 : lw_okq (⟨"OptimumHouse$Dictionary", "isSmall", "(I)Z"⟩, 20) := ⟨⟨by decide +kernel, by decide +kernel⟩, List.mem_of_getElem? (i := 245) (by decide +kernel), List.mem_of_getElem? (i := 1045) (by decide +kernel), List.mem_of_getElem? (i := 1046) (by decide +kernel)⟩
theorem lw_p47 : lw_okq (⟨"OptimumHouse$Dictionary", "pivotGreat", "(IIII)Z"⟩, 20) := ⟨⟨by decide +kernel, by decide +kernel⟩, List.mem_of_getElem? (i := 245) (by decide +kernel), List.mem_of_getElem? (i := 1052) (by decide +kernel), List.mem_of_getElem? (i := 1053) (by decide +kernel)⟩
def lw_privs_3 : List (MethodName × Nat) := [(⟨"OptimumHouse$Teller", "factor", "(I)Z"⟩, 17), (⟨"OptimumHouse$Teller", "canBeFactor", "(I)Z"⟩, 17), (⟨"OptimumHouse$Teller", "named", "(II)Z"⟩, 17), (⟨"OptimumHouse$Teller", "item", "()I"⟩, 17), (⟨"OptimumHouse$Teller", "putNamed", "([JII)V"⟩, 17), (⟨"OptimumHouse$Teller", "negated", "(I)Z"⟩, 17), (⟨"OptimumHouse$Teller", "inner", "(I)Z"⟩, 17), (⟨"OptimumHouse$Teller", "summed", "(I)Z"⟩, 17), (⟨"OptimumHouse$Teller", "forgetLast", "()V"⟩, 17), (⟨"OptimumHouse$Teller", "tellGoal", "()Z"⟩, 17), (⟨"OptimumHouse$Dictionary", "needsHelper", "()Z"⟩, 20), (⟨"OptimumHouse$Dictionary", "addHelper", "()V"⟩, 20), (⟨"OptimumHouse$Dictionary", "pivotRow", "(II)Z"⟩, 20), (⟨"OptimumHouse$Dictionary", "small", "(I)J"⟩, 20), (⟨"OptimumHouse$Dictionary", "isSmall", "(I)Z"⟩, 20), (⟨"OptimumHouse$Dictionary", "pivotGreat", "(IIII)Z"⟩, 20)]
theorem lw_r3 : ∀ q ∈ lw_privs_3, lw_okq q := List.forall_mem_cons.mpr ⟨lw_p32, List.forall_mem_cons.mpr ⟨lw_p33, List.forall_mem_cons.mpr ⟨lw_p34, List.forall_mem_cons.mpr ⟨lw_p35, List.forall_mem_cons.mpr ⟨lw_p36, List.forall_mem_cons.mpr ⟨lw_p37, List.forall_mem_cons.mpr ⟨lw_p38, List.forall_mem_cons.mpr ⟨lw_p39, List.forall_mem_cons.mpr ⟨lw_p40, List.forall_mem_cons.mpr ⟨lw_p41, List.forall_mem_cons.mpr ⟨lw_p42, List.forall_mem_cons.mpr ⟨lw_p43, List.forall_mem_cons.mpr ⟨lw_p44, List.forall_mem_cons.mpr ⟨lw_p45, List.forall_mem_cons.mpr ⟨lw_p46, List.forall_mem_cons.mpr ⟨lw_p47, fun _ h => absurd h List.not_mem_nil⟩⟩⟩⟩⟩⟩⟩⟩⟩⟩⟩⟩⟩⟩⟩⟩
theorem lw_p48 : lw_okq (⟨"OptimumHouse$Big", "trim", "()V"⟩, 3) := ⟨⟨by decide +kernel, by decide +kernel⟩, List.mem_of_getElem? (i := 191) (by decide +kernel), List.mem_of_getElem? (i := 1073) (by decide +kernel), List.mem_of_getElem? (i := 1074) (by decide +kernel)⟩
theorem lw_p49 : lw_okq (⟨"OptimumHouse$Big", "addSize", "(LOptimumHouse$Big;)V"⟩, 3) := ⟨⟨by decide +kernel, by decide +kernel⟩, List.mem_of_getElem? (i := 191) (by decide +kernel), List.mem_of_getElem? (i := 1086) (by decide +kernel), List.mem_of_getElem? (i := 1087) (by decide +kernel)⟩
theorem lw_p50 : lw_okq (⟨"OptimumHouse$Big", "compareSize", "(LOptimumHouse$Big;)I"⟩, 3) := ⟨⟨by decide +kernel, by decide +kernel⟩, List.mem_of_getElem? (i := 191) (by decide +kernel), List.mem_of_getElem? (i := 1092) (by decide +kernel), List.mem_of_getElem? (i := 1093) (by decide +kernel)⟩
theorem lw_p51 : lw_okq (⟨"OptimumHouse$Big", "takeSize", "(LOptimumHouse$Big;LOptimumHouse$Big;)V"⟩, 3) := ⟨⟨by decide +kernel, by decide +kernel⟩, List.mem_of_getElem? (i := 191) (by decide +kernel), List.mem_of_getElem? (i := 1099) (by decide +kernel), List.mem_of_getElem? (i := 1100) (by decide +kernel)⟩
theorem lw_p52 : lw_okq (⟨"OptimumHouse$Big", "reduce", "(I)I"⟩, 3) := ⟨⟨by decide +kernel, by decide +kernel⟩, List.mem_of_getElem? (i := 191) (by decide +kernel), List.mem_of_getElem? (i := 1107) (by decide +kernel), List.mem_of_getElem? (i := 1108) (by decide +kernel)⟩
theorem lw_p53 : lw_okq (⟨"OptimumHouse$Big", "divideLong", "(LOptimumHouse$Big;LOptimumHouse$Big;LOptimumHouse$Big;)V"⟩, 3) := ⟨⟨by decide +kernel, by decide +kernel⟩, List.mem_of_getElem? (i := 191) (by decide +kernel), List.mem_of_getElem? (i := 1111) (by decide +kernel), List.mem_of_getElem? (i := 1112) (by decide +kernel)⟩
theorem lw_p54 : lw_okq (⟨"OptimumHouse$Big", "scale", "(I)V"⟩, 3) := ⟨⟨by decide +kernel, by decide +kernel⟩, List.mem_of_getElem? (i := 191) (by decide +kernel), List.mem_of_getElem? (i := 1115) (by decide +kernel), List.mem_of_getElem? (i := 1116) (by decide +kernel)⟩
theorem lw_p55 : lw_okq (⟨"OptimumHouse$Big", "digitAt", "(ILOptimumHouse$Big;I)I"⟩, 3) := ⟨⟨by decide +kernel, by decide +kernel⟩, List.mem_of_getElem? (i := 191) (by decide +kernel), List.mem_of_getElem? (i := 1119) (by decide +kernel), List.mem_of_getElem? (i := 1120) (by decide +kernel)⟩
theorem lw_p56 : lw_okq (⟨"OptimumHouse$Search", "judge", "()V"⟩, 17) := ⟨⟨by decide +kernel, by decide +kernel⟩, List.mem_of_getElem? (i := 179) (by decide +kernel), List.mem_of_getElem? (i := 1132) (by decide +kernel), List.mem_of_getElem? (i := 1133) (by decide +kernel)⟩
theorem lw_p57 : lw_okq (⟨"OptimumHouse$Search", "isAboveBest", "()Z"⟩, 17) := ⟨⟨by decide +kernel, by decide +kernel⟩, List.mem_of_getElem? (i := 179) (by decide +kernel), List.mem_of_getElem? (i := 1136) (by decide +kernel), List.mem_of_getElem? (i := 1137) (by decide +kernel)⟩
theorem lw_p58 : lw_okq (⟨"OptimumHouse$Dictionary", "rowOf", "(I)I"⟩, 20) := ⟨⟨by decide +kernel, by decide +kernel⟩, List.mem_of_getElem? (i := 245) (by decide +kernel), List.mem_of_getElem? (i := 1177) (by decide +kernel), List.mem_of_getElem? (i := 1178) (by decide +kernel)⟩
theorem lw_p59 : lw_okq (⟨"OptimumHouse$Search", "leaf", "()V"⟩, 17) := ⟨⟨by decide +kernel, by decide +kernel⟩, List.mem_of_getElem? (i := 179) (by decide +kernel), List.mem_of_getElem? (i := 1198) (by decide +kernel), List.mem_of_getElem? (i := 1199) (by decide +kernel)⟩
theorem lw_p60 : lw_okq (⟨"OptimumHouse$Dictionary", "placeOf", "(I)I"⟩, 20) := ⟨⟨by decide +kernel, by decide +kernel⟩, List.mem_of_getElem? (i := 245) (by decide +kernel), List.mem_of_getElem? (i := 1246) (by decide +kernel), List.mem_of_getElem? (i := 1247) (by decide +kernel)⟩
theorem lw_p61 : lw_okq (⟨"OptimumHouse$Prover", "writePair", "(ILOptimumHouse$Big;)V"⟩, 10) := ⟨⟨by decide +kernel, by decide +kernel⟩, List.mem_of_getElem? (i := 315) (by decide +kernel), List.mem_of_getElem? (i := 1250) (by decide +kernel), List.mem_of_getElem? (i := 1251) (by decide +kernel)⟩
theorem lw_p62 : lw_okq (⟨"OptimumHouse$Search", "cut", "()V"⟩, 17) := ⟨⟨by decide +kernel, by decide +kernel⟩, List.mem_of_getElem? (i := 179) (by decide +kernel), List.mem_of_getElem? (i := 1273) (by decide +kernel), List.mem_of_getElem? (i := 1274) (by decide +kernel)⟩
theorem lw_p63 : lw_okq (⟨"OptimumHouse$Search", "countChild", "(Z)Z"⟩, 17) := ⟨⟨by decide +kernel, by decide +kernel⟩, List.mem_of_getElem? (i := 179) (by decide +kernel), List.mem_of_getElem? (i := 1296) (by decide +kernel), List.mem_of_getElem? (i := 1297) (by decide +kernel)⟩
def lw_privs_4 : List (MethodName × Nat) := [(⟨"OptimumHouse$Big", "trim", "()V"⟩, 3), (⟨"OptimumHouse$Big", "addSize", "(LOptimumHouse$Big;)V"⟩, 3), (⟨"OptimumHouse$Big", "compareSize", "(LOptimumHouse$Big;)I"⟩, 3), (⟨"OptimumHouse$Big", "takeSize", "(LOptimumHouse$Big;LOptimumHouse$Big;)V"⟩, 3), (⟨"OptimumHouse$Big", "reduce", "(I)I"⟩, 3), (⟨"OptimumHouse$Big", "divideLong", "(LOptimumHouse$Big;LOptimumHouse$Big;LOptimumHouse$Big;)V"⟩, 3), (⟨"OptimumHouse$Big", "scale", "(I)V"⟩, 3), (⟨"OptimumHouse$Big", "digitAt", "(ILOptimumHouse$Big;I)I"⟩, 3), (⟨"OptimumHouse$Search", "judge", "()V"⟩, 17), (⟨"OptimumHouse$Search", "isAboveBest", "()Z"⟩, 17), (⟨"OptimumHouse$Dictionary", "rowOf", "(I)I"⟩, 20), (⟨"OptimumHouse$Search", "leaf", "()V"⟩, 17), (⟨"OptimumHouse$Dictionary", "placeOf", "(I)I"⟩, 20), (⟨"OptimumHouse$Prover", "writePair", "(ILOptimumHouse$Big;)V"⟩, 10), (⟨"OptimumHouse$Search", "cut", "()V"⟩, 17), (⟨"OptimumHouse$Search", "countChild", "(Z)Z"⟩, 17)]
theorem lw_r4 : ∀ q ∈ lw_privs_4, lw_okq q := List.forall_mem_cons.mpr ⟨lw_p48, List.forall_mem_cons.mpr ⟨lw_p49, List.forall_mem_cons.mpr ⟨lw_p50, List.forall_mem_cons.mpr ⟨lw_p51, List.forall_mem_cons.mpr ⟨lw_p52, List.forall_mem_cons.mpr ⟨lw_p53, List.forall_mem_cons.mpr ⟨lw_p54, List.forall_mem_cons.mpr ⟨lw_p55, List.forall_mem_cons.mpr ⟨lw_p56, List.forall_mem_cons.mpr ⟨lw_p57, List.forall_mem_cons.mpr ⟨lw_p58, List.forall_mem_cons.mpr ⟨lw_p59, List.forall_mem_cons.mpr ⟨lw_p60, List.forall_mem_cons.mpr ⟨lw_p61, List.forall_mem_cons.mpr ⟨lw_p62, List.forall_mem_cons.mpr ⟨lw_p63, fun _ h => absurd h List.not_mem_nil⟩⟩⟩⟩⟩⟩⟩⟩⟩⟩⟩⟩⟩⟩⟩⟩
theorem lw_p64 : lw_okq (⟨"OptimumHouse$Dictionary", "addRow", "()V"⟩, 20) := ⟨⟨by decide +kernel, by decide +kernel⟩, List.mem_of_getElem? (i := 245) (by decide +kernel), List.mem_of_getElem? (i := 1323) (by decide +kernel), List.mem_of_getElem? (i := 1324) (by decide +kernel)⟩
theorem lw_p65 : lw_okq (⟨"OptimumHouse$Search", "branch", "()V"⟩, 17) := ⟨⟨by decide +kernel, by decide +kernel⟩, List.mem_of_getElem? (i := 179) (by decide +kernel), List.mem_of_getElem? (i := 1327) (by decide +kernel), List.mem_of_getElem? (i := 1328) (by decide +kernel)⟩
theorem lw_p66 : lw_okq (⟨"OptimumHouse$Search", "beginSecondChild", "()V"⟩, 17) := ⟨⟨by decide +kernel, by decide +kernel⟩, List.mem_of_getElem? (i := 179) (by decide +kernel), List.mem_of_getElem? (i := 1356) (by decide +kernel), List.mem_of_getElem? (i := 1357) (by decide +kernel)⟩
theorem lw_p67 : lw_okq (⟨"OptimumHouse$Search", "choose", "()V"⟩, 17) := ⟨⟨by decide +kernel, by decide +kernel⟩, List.mem_of_getElem? (i := 179) (by decide +kernel), List.mem_of_getElem? (i := 1371) (by decide +kernel), List.mem_of_getElem? (i := 1372) (by decide +kernel)⟩
theorem lw_p68 : lw_okq (⟨"OptimumHouse$Dictionary", "leavesAhead", "(I)Z"⟩, 20) := ⟨⟨by decide +kernel, by decide +kernel⟩, List.mem_of_getElem? (i := 245) (by decide +kernel), List.mem_of_getElem? (i := 1383) (by decide +kernel), List.mem_of_getElem? (i := 1384) (by decide +kernel)⟩
theorem lw_p69 : lw_okq (⟨"OptimumHouse$Dictionary", "compareProducts", "(IIII)I"⟩, 20) := ⟨⟨by decide +kernel, by decide +kernel⟩, List.mem_of_getElem? (i := 245) (by decide +kernel), List.mem_of_getElem? (i := 1387) (by decide +kernel), List.mem_of_getElem? (i := 1388) (by decide +kernel)⟩
theorem lw_p70 : lw_okq (⟨"OptimumHouse$Dictionary", "entersAhead", "(I)Z"⟩, 20) := ⟨⟨by decide +kernel, by decide +kernel⟩, List.mem_of_getElem? (i := 245) (by decide +kernel), List.mem_of_getElem? (i := 1399) (by decide +kernel), List.mem_of_getElem? (i := 1400) (by decide +kernel)⟩
theorem lw_p71 : lw_okq (⟨"OptimumHouse$Search", "endPhaseOne", "()V"⟩, 17) := ⟨⟨by decide +kernel, by decide +kernel⟩, List.mem_of_getElem? (i := 179) (by decide +kernel), List.mem_of_getElem? (i := 1403) (by decide +kernel), List.mem_of_getElem? (i := 1404) (by decide +kernel)⟩
theorem lw_p72 : lw_okq (⟨"OptimumHouse$Prover", "reduce", "(LOptimumHouse$Big;LOptimumHouse$Big;Z)V"⟩, 10) := ⟨⟨by decide +kernel, by decide +kernel⟩, List.mem_of_getElem? (i := 315) (by decide +kernel), List.mem_of_getElem? (i := 1440) (by decide +kernel), List.mem_of_getElem? (i := 1441) (by decide +kernel)⟩
theorem lw_p73 : lw_okq (⟨"OptimumHouse$Prover", "common", "(LOptimumHouse$Big;LOptimumHouse$Big;)LOptimumHouse$Big;"⟩, 10) := ⟨⟨by decide +kernel, by decide +kernel⟩, List.mem_of_getElem? (i := 315) (by decide +kernel), List.mem_of_getElem? (i := 1447) (by decide +kernel), List.mem_of_getElem? (i := 1448) (by decide +kernel)⟩
theorem lw_p74 : lw_okq (⟨"OptimumHouse$Prover", "writePoint", "(I)V"⟩, 10) := ⟨⟨by decide +kernel, by decide +kernel⟩, List.mem_of_getElem? (i := 315) (by decide +kernel), List.mem_of_getElem? (i := 1453) (by decide +kernel), List.mem_of_getElem? (i := 1454) (by decide +kernel)⟩
theorem lw_p75 : lw_okq (⟨"OptimumHouse$ProofReader", "scanOne", "(II)I"⟩, 4) := ⟨⟨by decide +kernel, by decide +kernel⟩, List.mem_of_getElem? (i := 420) (by decide +kernel), List.mem_of_getElem? (i := 1555) (by decide +kernel), List.mem_of_getElem? (i := 1556) (by decide +kernel)⟩
theorem lw_p76 : lw_okq (⟨"OptimumHouse$ProofReader", "scanWord", "(II)I"⟩, 4) := ⟨⟨by decide +kernel, by decide +kernel⟩, List.mem_of_getElem? (i := 420) (by decide +kernel), List.mem_of_getElem? (i := 1561) (by decide +kernel), List.mem_of_getElem? (i := 1562) (by decide +kernel)⟩
theorem lw_p77 : lw_okq (⟨"OptimumHouse$ProofReader", "isWord", "(IILjava/lang/String;)Z"⟩, 4) := ⟨⟨by decide +kernel, by decide +kernel⟩, List.mem_of_getElem? (i := 420) (by decide +kernel), List.mem_of_getElem? (i := 1577) (by decide +kernel), List.mem_of_getElem? (i := 1578) (by decide +kernel)⟩
theorem lw_p78 : lw_okq (⟨"OptimumHouse$ProofReader", "mark", "(II)V"⟩, 4) := ⟨⟨by decide +kernel, by decide +kernel⟩, List.mem_of_getElem? (i := 420) (by decide +kernel), List.mem_of_getElem? (i := 1583) (by decide +kernel), List.mem_of_getElem? (i := 1584) (by decide +kernel)⟩
theorem lw_p79 : lw_okq (⟨"OptimumHouse$ProofReader", "scanNumber", "(II)I"⟩, 4) := ⟨⟨by decide +kernel, by decide +kernel⟩, List.mem_of_getElem? (i := 420) (by decide +kernel), List.mem_of_getElem? (i := 1588) (by decide +kernel), List.mem_of_getElem? (i := 1589) (by decide +kernel)⟩
def lw_privs_5 : List (MethodName × Nat) := [(⟨"OptimumHouse$Dictionary", "addRow", "()V"⟩, 20), (⟨"OptimumHouse$Search", "branch", "()V"⟩, 17), (⟨"OptimumHouse$Search", "beginSecondChild", "()V"⟩, 17), (⟨"OptimumHouse$Search", "choose", "()V"⟩, 17), (⟨"OptimumHouse$Dictionary", "leavesAhead", "(I)Z"⟩, 20), (⟨"OptimumHouse$Dictionary", "compareProducts", "(IIII)I"⟩, 20), (⟨"OptimumHouse$Dictionary", "entersAhead", "(I)Z"⟩, 20), (⟨"OptimumHouse$Search", "endPhaseOne", "()V"⟩, 17), (⟨"OptimumHouse$Prover", "reduce", "(LOptimumHouse$Big;LOptimumHouse$Big;Z)V"⟩, 10), (⟨"OptimumHouse$Prover", "common", "(LOptimumHouse$Big;LOptimumHouse$Big;)LOptimumHouse$Big;"⟩, 10), (⟨"OptimumHouse$Prover", "writePoint", "(I)V"⟩, 10), (⟨"OptimumHouse$ProofReader", "scanOne", "(II)I"⟩, 4), (⟨"OptimumHouse$ProofReader", "scanWord", "(II)I"⟩, 4), (⟨"OptimumHouse$ProofReader", "isWord", "(IILjava/lang/String;)Z"⟩, 4), (⟨"OptimumHouse$ProofReader", "mark", "(II)V"⟩, 4), (⟨"OptimumHouse$ProofReader", "scanNumber", "(II)I"⟩, 4)]
theorem lw_r5 : ∀ q ∈ lw_privs_5, lw_okq q := List.forall_mem_cons.mpr ⟨lw_p64, List.forall_mem_cons.mpr ⟨lw_p65, List.forall_mem_cons.mpr ⟨lw_p66, List.forall_mem_cons.mpr ⟨lw_p67, List.forall_mem_cons.mpr ⟨lw_p68, List.forall_mem_cons.mpr ⟨lw_p69, List.forall_mem_cons.mpr ⟨lw_p70, List.forall_mem_cons.mpr ⟨lw_p71, List.forall_mem_cons.mpr ⟨lw_p72, List.forall_mem_cons.mpr ⟨lw_p73, List.forall_mem_cons.mpr ⟨lw_p74, List.forall_mem_cons.mpr ⟨lw_p75, List.forall_mem_cons.mpr ⟨lw_p76, List.forall_mem_cons.mpr ⟨lw_p77, List.forall_mem_cons.mpr ⟨lw_p78, List.forall_mem_cons.mpr ⟨lw_p79, fun _ h => absurd h List.not_mem_nil⟩⟩⟩⟩⟩⟩⟩⟩⟩⟩⟩⟩⟩⟩⟩⟩
theorem lw_p80 : lw_okq (⟨"OptimumHouse$ProofReader", "behindDigits", "(II)I"⟩, 4) := ⟨⟨by decide +kernel, by decide +kernel⟩, List.mem_of_getElem? (i := 420) (by decide +kernel), List.mem_of_getElem? (i := 1592) (by decide +kernel), List.mem_of_getElem? (i := 1593) (by decide +kernel)⟩
theorem lw_p81 : lw_okq (⟨"OptimumHouse$ProofReader", "hasMoreThanNoughts", "(II)Z"⟩, 4) := ⟨⟨by decide +kernel, by decide +kernel⟩, List.mem_of_getElem? (i := 420) (by decide +kernel), List.mem_of_getElem? (i := 1596) (by decide +kernel), List.mem_of_getElem? (i := 1597) (by decide +kernel)⟩
theorem lw_p82 : lw_okq (⟨"OptimumHouse$ProofReader", "pass", "(I)Z"⟩, 4) := ⟨⟨by decide +kernel, by decide +kernel⟩, List.mem_of_getElem? (i := 420) (by decide +kernel), List.mem_of_getElem? (i := 1609) (by decide +kernel), List.mem_of_getElem? (i := 1610) (by decide +kernel)⟩
theorem lw_p83 : lw_okq (⟨"OptimumHouse$ProofReader", "passAbove", "()Z"⟩, 4) := ⟨⟨by decide +kernel, by decide +kernel⟩, List.mem_of_getElem? (i := 420) (by decide +kernel), List.mem_of_getElem? (i := 1613) (by decide +kernel), List.mem_of_getElem? (i := 1614) (by decide +kernel)⟩
theorem lw_p84 : lw_okq (⟨"OptimumHouse$ProofReader", "passPoint", "(I)Z"⟩, 4) := ⟨⟨by decide +kernel, by decide +kernel⟩, List.mem_of_getElem? (i := 420) (by decide +kernel), List.mem_of_getElem? (i := 1621) (by decide +kernel), List.mem_of_getElem? (i := 1622) (by decide +kernel)⟩
theorem lw_p85 : lw_okq (⟨"OptimumHouse$ProofReader", "passTree", "()Z"⟩, 4) := ⟨⟨by decide +kernel, by decide +kernel⟩, List.mem_of_getElem? (i := 420) (by decide +kernel), List.mem_of_getElem? (i := 1625) (by decide +kernel), List.mem_of_getElem? (i := 1626) (by decide +kernel)⟩
theorem lw_p86 : lw_okq (⟨"OptimumHouse$ProofReader", "passPairs", "()Z"⟩, 4) := ⟨⟨by decide +kernel, by decide +kernel⟩, List.mem_of_getElem? (i := 420) (by decide +kernel), List.mem_of_getElem? (i := 1629) (by decide +kernel), List.mem_of_getElem? (i := 1630) (by decide +kernel)⟩
theorem lw_p87 : lw_okq (⟨"OptimumHouse$Checker", "fail", "(II)Z"⟩, 18) := ⟨⟨by decide +kernel, by decide +kernel⟩, List.mem_of_getElem? (i := 414) (by decide +kernel), List.mem_of_getElem? (i := 1634) (by decide +kernel), List.mem_of_getElem? (i := 1635) (by decide +kernel)⟩
theorem lw_p88 : lw_okq (⟨"OptimumHouse$Checker", "holdUnbounded", "()Z"⟩, 18) := ⟨⟨by decide +kernel, by decide +kernel⟩, List.mem_of_getElem? (i := 414) (by decide +kernel), List.mem_of_getElem? (i := 1644) (by decide +kernel), List.mem_of_getElem? (i := 1645) (by decide +kernel)⟩
theorem lw_p89 : lw_okq (⟨"OptimumHouse$Checker", "takePoint", "()V"⟩, 18) := ⟨⟨by decide +kernel, by decide +kernel⟩, List.mem_of_getElem? (i := 414) (by decide +kernel), List.mem_of_getElem? (i := 1652) (by decide +kernel), List.mem_of_getElem? (i := 1653) (by decide +kernel)⟩
theorem lw_p90 : lw_okq (⟨"OptimumHouse$Checker", "isPoint", "(Z)Z"⟩, 18) := ⟨⟨by decide +kernel, by decide +kernel⟩, List.mem_of_getElem? (i := 414) (by decide +kernel), List.mem_of_getElem? (i := 1667) (by decide +kernel), List.mem_of_getElem? (i := 1668) (by decide +kernel)⟩
theorem lw_p91 : lw_okq (⟨"OptimumHouse$Checker", "sumAt", "(I)V"⟩, 18) := ⟨⟨by decide +kernel, by decide +kernel⟩, List.mem_of_getElem? (i := 414) (by decide +kernel), List.mem_of_getElem? (i := 1674) (by decide +kernel), List.mem_of_getElem? (i := 1675) (by decide +kernel)⟩
theorem lw_p92 : lw_okq (⟨"OptimumHouse$Checker", "scaleBound", "(I)V"⟩, 18) := ⟨⟨by decide +kernel, by decide +kernel⟩, List.mem_of_getElem? (i := 414) (by decide +kernel), List.mem_of_getElem? (i := 1685) (by decide +kernel), List.mem_of_getElem? (i := 1686) (by decide +kernel)⟩
theorem lw_p93 : lw_okq (⟨"OptimumHouse$Checker", "isAlong", "()Z"⟩, 18) := ⟨⟨by decide +kernel, by decide +kernel⟩, List.mem_of_getElem? (i := 414) (by decide +kernel), List.mem_of_getElem? (i := 1690) (by decide +kernel), List.mem_of_getElem? (i := 1691) (by decide +kernel)⟩
theorem lw_p94 : lw_okq (⟨"OptimumHouse$Checker", "holdOptimal", "()Z"⟩, 18) := ⟨⟨by decide +kernel, by decide +kernel⟩, List.mem_of_getElem? (i := 414) (by decide +kernel), List.mem_of_getElem? (i := 1694) (by decide +kernel), List.mem_of_getElem? (i := 1695) (by decide +kernel)⟩
theorem lw_p95 : lw_okq (⟨"OptimumHouse$Checker", "isValue", "()Z"⟩, 18) := ⟨⟨by decide +kernel, by decide +kernel⟩, List.mem_of_getElem? (i := 414) (by decide +kernel), List.mem_of_getElem? (i := 1699) (by decide +kernel), List.mem_of_getElem? (i := 1700) (by decide +kernel)⟩
def lw_privs_6 : List (MethodName × Nat) := [(⟨"OptimumHouse$ProofReader", "behindDigits", "(II)I"⟩, 4), (⟨"OptimumHouse$ProofReader", "hasMoreThanNoughts", "(II)Z"⟩, 4), (⟨"OptimumHouse$ProofReader", "pass", "(I)Z"⟩, 4), (⟨"OptimumHouse$ProofReader", "passAbove", "()Z"⟩, 4), (⟨"OptimumHouse$ProofReader", "passPoint", "(I)Z"⟩, 4), (⟨"OptimumHouse$ProofReader", "passTree", "()Z"⟩, 4), (⟨"OptimumHouse$ProofReader", "passPairs", "()Z"⟩, 4), (⟨"OptimumHouse$Checker", "fail", "(II)Z"⟩, 18), (⟨"OptimumHouse$Checker", "holdUnbounded", "()Z"⟩, 18), (⟨"OptimumHouse$Checker", "takePoint", "()V"⟩, 18), (⟨"OptimumHouse$Checker", "isPoint", "(Z)Z"⟩, 18), (⟨"OptimumHouse$Checker", "sumAt", "(I)V"⟩, 18), (⟨"OptimumHouse$Checker", "scaleBound", "(I)V"⟩, 18), (⟨"OptimumHouse$Checker", "isAlong", "()Z"⟩, 18), (⟨"OptimumHouse$Checker", "holdOptimal", "()Z"⟩, 18), (⟨"OptimumHouse$Checker", "isValue", "()Z"⟩, 18)]
theorem lw_r6 : ∀ q ∈ lw_privs_6, lw_okq q := List.forall_mem_cons.mpr ⟨lw_p80, List.forall_mem_cons.mpr ⟨lw_p81, List.forall_mem_cons.mpr ⟨lw_p82, List.forall_mem_cons.mpr ⟨lw_p83, List.forall_mem_cons.mpr ⟨lw_p84, List.forall_mem_cons.mpr ⟨lw_p85, List.forall_mem_cons.mpr ⟨lw_p86, List.forall_mem_cons.mpr ⟨lw_p87, List.forall_mem_cons.mpr ⟨lw_p88, List.forall_mem_cons.mpr ⟨lw_p89, List.forall_mem_cons.mpr ⟨lw_p90, List.forall_mem_cons.mpr ⟨lw_p91, List.forall_mem_cons.mpr ⟨lw_p92, List.forall_mem_cons.mpr ⟨lw_p93, List.forall_mem_cons.mpr ⟨lw_p94, List.forall_mem_cons.mpr ⟨lw_p95, fun _ h => absurd h List.not_mem_nil⟩⟩⟩⟩⟩⟩⟩⟩⟩⟩⟩⟩⟩⟩⟩⟩
theorem lw_p96 : lw_okq (⟨"OptimumHouse$Checker", "holdTrees", "(Z)Z"⟩, 18) := ⟨⟨by decide +kernel, by decide +kernel⟩, List.mem_of_getElem? (i := 414) (by decide +kernel), List.mem_of_getElem? (i := 1703) (by decide +kernel), List.mem_of_getElem? (i := 1704) (by decide +kernel)⟩
theorem lw_p97 : lw_okq (⟨"OptimumHouse$Checker", "branch", "()I"⟩, 18) := ⟨⟨by decide +kernel, by decide +kernel⟩, List.mem_of_getElem? (i := 414) (by decide +kernel), List.mem_of_getElem? (i := 1707) (by decide +kernel), List.mem_of_getElem? (i := 1708) (by decide +kernel)⟩
theorem lw_p98 : lw_okq (⟨"OptimumHouse$Checker", "pairTree", "(IZ)I"⟩, 18) := ⟨⟨by decide +kernel, by decide +kernel⟩, List.mem_of_getElem? (i := 414) (by decide +kernel), List.mem_of_getElem? (i := 1719) (by decide +kernel), List.mem_of_getElem? (i := 1720) (by decide +kernel)⟩
theorem lw_p99 : lw_okq (⟨"OptimumHouse$Checker", "takePairs", "()Z"⟩, 18) := ⟨⟨by decide +kernel, by decide +kernel⟩, List.mem_of_getElem? (i := 414) (by decide +kernel), List.mem_of_getElem? (i := 1723) (by decide +kernel), List.mem_of_getElem? (i := 1724) (by decide +kernel)⟩
theorem lw_p100 : lw_okq (⟨"OptimumHouse$Checker", "isFarkas", "()Z"⟩, 18) := ⟨⟨by decide +kernel, by decide +kernel⟩, List.mem_of_getElem? (i := 414) (by decide +kernel), List.mem_of_getElem? (i := 1731) (by decide +kernel), List.mem_of_getElem? (i := 1732) (by decide +kernel)⟩
theorem lw_p101 : lw_okq (⟨"OptimumHouse$Checker", "isBound", "()Z"⟩, 18) := ⟨⟨by decide +kernel, by decide +kernel⟩, List.mem_of_getElem? (i := 414) (by decide +kernel), List.mem_of_getElem? (i := 1736) (by decide +kernel), List.mem_of_getElem? (i := 1737) (by decide +kernel)⟩
theorem lw_p102 : lw_okq (⟨"OptimumHouse$Checker", "beginSecondTree", "()V"⟩, 18) := ⟨⟨by decide +kernel, by decide +kernel⟩, List.mem_of_getElem? (i := 414) (by decide +kernel), List.mem_of_getElem? (i := 1741) (by decide +kernel), List.mem_of_getElem? (i := 1742) (by decide +kernel)⟩
theorem lw_p103 : lw_okq (⟨"OptimumHouseModel", "lay", "(I)V"⟩, 105) := ⟨⟨by decide +kernel, by decide +kernel⟩, List.mem_of_getElem? (i := 1750) (by decide +kernel), List.mem_of_getElem? (i := 2079) (by decide +kernel), List.mem_of_getElem? (i := 2080) (by decide +kernel)⟩
theorem lw_p104 : lw_okq (⟨"OptimumHouseModel", "tokenize", "()V"⟩, 105) := ⟨⟨by decide +kernel, by decide +kernel⟩, List.mem_of_getElem? (i := 1750) (by decide +kernel), List.mem_of_getElem? (i := 2091) (by decide +kernel), List.mem_of_getElem? (i := 2092) (by decide +kernel)⟩
theorem lw_p105 : lw_okq (⟨"OptimumHouseModel", "at", "(I)I"⟩, 105) := ⟨⟨by decide +kernel, by decide +kernel⟩, List.mem_of_getElem? (i := 1750) (by decide +kernel), List.mem_of_getElem? (i := 2098) (by decide +kernel), List.mem_of_getElem? (i := 2099) (by decide +kernel)⟩
theorem lw_p106 : lw_okq (⟨"OptimumHouseModel", "among", "(Ljava/lang/String;II)I"⟩, 105) := ⟨⟨by decide +kernel, by decide +kernel⟩, List.mem_of_getElem? (i := 1750) (by decide +kernel), List.mem_of_getElem? (i := 2106) (by decide +kernel), List.mem_of_getElem? (i := 2107) (by decide +kernel)⟩
theorem lw_p107 : lw_okq (⟨"OptimumHouseModel", "token", "(IIII)V"⟩, 105) := ⟨⟨by decide +kernel, by decide +kernel⟩, List.mem_of_getElem? (i := 1750) (by decide +kernel), List.mem_of_getElem? (i := 2112) (by decide +kernel), List.mem_of_getElem? (i := 2113) (by decide +kernel)⟩
theorem lw_p108 : lw_okq (⟨"OptimumHouseModel", "signAt", "(I)I"⟩, 105) := ⟨⟨by decide +kernel, by decide +kernel⟩, List.mem_of_getElem? (i := 1750) (by decide +kernel), List.mem_of_getElem? (i := 2116) (by decide +kernel), List.mem_of_getElem? (i := 2117) (by decide +kernel)⟩
theorem lw_p109 : lw_okq (⟨"OptimumHouseModel", "read", "()V"⟩, 105) := ⟨⟨by decide +kernel, by decide +kernel⟩, List.mem_of_getElem? (i := 1750) (by decide +kernel), List.mem_of_getElem? (i := 2120) (by decide +kernel), List.mem_of_getElem? (i := 2121) (by decide +kernel)⟩
theorem lw_p110 : lw_okq (⟨"OptimumHouseModel", "isWord", "(I)Z"⟩, 105) := ⟨⟨by decide +kernel, by decide +kernel⟩, List.mem_of_getElem? (i := 1750) (by decide +kernel), List.mem_of_getElem? (i := 2124) (by decide +kernel), List.mem_of_getElem? (i := 2125) (by decide +kernel)⟩
theorem lw_p111 : lw_okq (⟨"OptimumHouseModel", "told", "()V"⟩, 105) := ⟨⟨by decide +kernel, by decide +kernel⟩, List.mem_of_getElem? (i := 1750) (by decide +kernel), List.mem_of_getElem? (i := 2128) (by decide +kernel), List.mem_of_getElem? (i := 2129) (by decide +kernel)⟩
def lw_privs_7 : List (MethodName × Nat) := [(⟨"OptimumHouse$Checker", "holdTrees", "(Z)Z"⟩, 18), (⟨"OptimumHouse$Checker", "branch", "()I"⟩, 18), (⟨"OptimumHouse$Checker", "pairTree", "(IZ)I"⟩, 18), (⟨"OptimumHouse$Checker", "takePairs", "()Z"⟩, 18), (⟨"OptimumHouse$Checker", "isFarkas", "()Z"⟩, 18), (⟨"OptimumHouse$Checker", "isBound", "()Z"⟩, 18), (⟨"OptimumHouse$Checker", "beginSecondTree", "()V"⟩, 18), (⟨"OptimumHouseModel", "lay", "(I)V"⟩, 105), (⟨"OptimumHouseModel", "tokenize", "()V"⟩, 105), (⟨"OptimumHouseModel", "at", "(I)I"⟩, 105), (⟨"OptimumHouseModel", "among", "(Ljava/lang/String;II)I"⟩, 105), (⟨"OptimumHouseModel", "token", "(IIII)V"⟩, 105), (⟨"OptimumHouseModel", "signAt", "(I)I"⟩, 105), (⟨"OptimumHouseModel", "read", "()V"⟩, 105), (⟨"OptimumHouseModel", "isWord", "(I)Z"⟩, 105), (⟨"OptimumHouseModel", "told", "()V"⟩, 105)]
theorem lw_r7 : ∀ q ∈ lw_privs_7, lw_okq q := List.forall_mem_cons.mpr ⟨lw_p96, List.forall_mem_cons.mpr ⟨lw_p97, List.forall_mem_cons.mpr ⟨lw_p98, List.forall_mem_cons.mpr ⟨lw_p99, List.forall_mem_cons.mpr ⟨lw_p100, List.forall_mem_cons.mpr ⟨lw_p101, List.forall_mem_cons.mpr ⟨lw_p102, List.forall_mem_cons.mpr ⟨lw_p103, List.forall_mem_cons.mpr ⟨lw_p104, List.forall_mem_cons.mpr ⟨lw_p105, List.forall_mem_cons.mpr ⟨lw_p106, List.forall_mem_cons.mpr ⟨lw_p107, List.forall_mem_cons.mpr ⟨lw_p108, List.forall_mem_cons.mpr ⟨lw_p109, List.forall_mem_cons.mpr ⟨lw_p110, List.forall_mem_cons.mpr ⟨lw_p111, fun _ h => absurd h List.not_mem_nil⟩⟩⟩⟩⟩⟩⟩⟩⟩⟩⟩⟩⟩⟩⟩⟩
theorem lw_p112 : lw_okq (⟨"OptimumHouseModel", "wantKind", "(I)V"⟩, 105) := ⟨⟨by decide +kernel, by decide +kernel⟩, List.mem_of_getElem? (i := 1750) (by decide +kernel), List.mem_of_getElem? (i := 2132) (by decide +kernel), List.mem_of_getElem? (i := 2133) (by decide +kernel)⟩
theorem lw_p113 : lw_okq (⟨"OptimumHouseModel", "wrong", "(II)V"⟩, 105) := ⟨⟨by decide +kernel, by decide +kernel⟩, List.mem_of_getElem? (i := 1750) (by decide +kernel), List.mem_of_getElem? (i := 2136) (by decide +kernel), List.mem_of_getElem? (i := 2137) (by decide +kernel)⟩
theorem lw_p114 : lw_okq (⟨"OptimumHouseModel", "indexes", "()V"⟩, 105) := ⟨⟨by decide +kernel, by decide +kernel⟩, List.mem_of_getElem? (i := 1750) (by decide +kernel), List.mem_of_getElem? (i := 2140) (by decide +kernel), List.mem_of_getElem? (i := 2141) (by decide +kernel)⟩
theorem lw_p115 : lw_okq (⟨"OptimumHouseModel", "isSign", "(I)Z"⟩, 105) := ⟨⟨by decide +kernel, by decide +kernel⟩, List.mem_of_getElem? (i := 1750) (by decide +kernel), List.mem_of_getElem? (i := 2144) (by decide +kernel), List.mem_of_getElem? (i := 2145) (by decide +kernel)⟩
theorem lw_p116 : lw_okq (⟨"OptimumHouseModel", "want", "(I)V"⟩, 105) := ⟨⟨by decide +kernel, by decide +kernel⟩, List.mem_of_getElem? (i := 1750) (by decide +kernel), List.mem_of_getElem? (i := 2148) (by decide +kernel), List.mem_of_getElem? (i := 2149) (by decide +kernel)⟩
theorem lw_p117 : lw_okq (⟨"OptimumHouseModel", "valueRead", "()V"⟩, 105) := ⟨⟨by decide +kernel, by decide +kernel⟩, List.mem_of_getElem? (i := 1750) (by decide +kernel), List.mem_of_getElem? (i := 2152) (by decide +kernel), List.mem_of_getElem? (i := 2153) (by decide +kernel)⟩
theorem lw_p118 : lw_okq (⟨"OptimumHouseModel", "sumRead", "(I)V"⟩, 105) := ⟨⟨by decide +kernel, by decide +kernel⟩, List.mem_of_getElem? (i := 1750) (by decide +kernel), List.mem_of_getElem? (i := 2156) (by decide +kernel), List.mem_of_getElem? (i := 2157) (by decide +kernel)⟩
theorem lw_p119 : lw_okq (⟨"OptimumHouseModel", "productRead", "(I)V"⟩, 105) := ⟨⟨by decide +kernel, by decide +kernel⟩, List.mem_of_getElem? (i := 1750) (by decide +kernel), List.mem_of_getElem? (i := 2160) (by decide +kernel), List.mem_of_getElem? (i := 2161) (by decide +kernel)⟩
theorem lw_p120 : lw_okq (⟨"OptimumHouseModel", "factorRead", "(I)V"⟩, 105) := ⟨⟨by decide +kernel, by decide +kernel⟩, List.mem_of_getElem? (i := 1750) (by decide +kernel), List.mem_of_getElem? (i := 2164) (by decide +kernel), List.mem_of_getElem? (i := 2165) (by decide +kernel)⟩
theorem lw_p121 : lw_okq (⟨"OptimumHouseModel", "wantWord", "(I)V"⟩, 105) := ⟨⟨by decide +kernel, by decide +kernel⟩, List.mem_of_getElem? (i := 1750) (by decide +kernel), List.mem_of_getElem? (i := 2168) (by decide +kernel), List.mem_of_getElem? (i := 2169) (by decide +kernel)⟩
theorem lw_p122 : lw_okq (⟨"OptimumHouseModel", "indexRead", "()V"⟩, 105) := ⟨⟨by decide +kernel, by decide +kernel⟩, List.mem_of_getElem? (i := 1750) (by decide +kernel), List.mem_of_getElem? (i := 2172) (by decide +kernel), List.mem_of_getElem? (i := 2173) (by decide +kernel)⟩
theorem lw_p123 : lw_okq (⟨"OptimumHouseModel", "tellAll", "()V"⟩, 105) := ⟨⟨by decide +kernel, by decide +kernel⟩, List.mem_of_getElem? (i := 1750) (by decide +kernel), List.mem_of_getElem? (i := 2176) (by decide +kernel), List.mem_of_getElem? (i := 2177) (by decide +kernel)⟩
theorem lw_p124 : lw_okq (⟨"OptimumHouseModel", "tellSet", "(I)V"⟩, 105) := ⟨⟨by decide +kernel, by decide +kernel⟩, List.mem_of_getElem? (i := 1750) (by decide +kernel), List.mem_of_getElem? (i := 2180) (by decide +kernel), List.mem_of_getElem? (i := 2181) (by decide +kernel)⟩
theorem lw_p125 : lw_okq (⟨"OptimumHouseModel", "add", "(II)I"⟩, 105) := ⟨⟨by decide +kernel, by decide +kernel⟩, List.mem_of_getElem? (i := 1750) (by decide +kernel), List.mem_of_getElem? (i := 2184) (by decide +kernel), List.mem_of_getElem? (i := 2185) (by decide +kernel)⟩
theorem lw_p126 : lw_okq (⟨"OptimumHouseModel", "find", "(I)I"⟩, 105) := ⟨⟨by decide +kernel, by decide +kernel⟩, List.mem_of_getElem? (i := 1750) (by decide +kernel), List.mem_of_getElem? (i := 2188) (by decide +kernel), List.mem_of_getElem? (i := 2189) (by decide +kernel)⟩
theorem lw_p127 : lw_okq (⟨"OptimumHouseModel", "tellPar", "(I)V"⟩, 105) := ⟨⟨by decide +kernel, by decide +kernel⟩, List.mem_of_getElem? (i := 1750) (by decide +kernel), List.mem_of_getElem? (i := 2192) (by decide +kernel), List.mem_of_getElem? (i := 2193) (by decide +kernel)⟩
def lw_privs_8 : List (MethodName × Nat) := [(⟨"OptimumHouseModel", "wantKind", "(I)V"⟩, 105), (⟨"OptimumHouseModel", "wrong", "(II)V"⟩, 105), (⟨"OptimumHouseModel", "indexes", "()V"⟩, 105), (⟨"OptimumHouseModel", "isSign", "(I)Z"⟩, 105), (⟨"OptimumHouseModel", "want", "(I)V"⟩, 105), (⟨"OptimumHouseModel", "valueRead", "()V"⟩, 105), (⟨"OptimumHouseModel", "sumRead", "(I)V"⟩, 105), (⟨"OptimumHouseModel", "productRead", "(I)V"⟩, 105), (⟨"OptimumHouseModel", "factorRead", "(I)V"⟩, 105), (⟨"OptimumHouseModel", "wantWord", "(I)V"⟩, 105), (⟨"OptimumHouseModel", "indexRead", "()V"⟩, 105), (⟨"OptimumHouseModel", "tellAll", "()V"⟩, 105), (⟨"OptimumHouseModel", "tellSet", "(I)V"⟩, 105), (⟨"OptimumHouseModel", "add", "(II)I"⟩, 105), (⟨"OptimumHouseModel", "find", "(I)I"⟩, 105), (⟨"OptimumHouseModel", "tellPar", "(I)V"⟩, 105)]
theorem lw_r8 : ∀ q ∈ lw_privs_8, lw_okq q := List.forall_mem_cons.mpr ⟨lw_p112, List.forall_mem_cons.mpr ⟨lw_p113, List.forall_mem_cons.mpr ⟨lw_p114, List.forall_mem_cons.mpr ⟨lw_p115, List.forall_mem_cons.mpr ⟨lw_p116, List.forall_mem_cons.mpr ⟨lw_p117, List.forall_mem_cons.mpr ⟨lw_p118, List.forall_mem_cons.mpr ⟨lw_p119, List.forall_mem_cons.mpr ⟨lw_p120, List.forall_mem_cons.mpr ⟨lw_p121, List.forall_mem_cons.mpr ⟨lw_p122, List.forall_mem_cons.mpr ⟨lw_p123, List.forall_mem_cons.mpr ⟨lw_p124, List.forall_mem_cons.mpr ⟨lw_p125, List.forall_mem_cons.mpr ⟨lw_p126, List.forall_mem_cons.mpr ⟨lw_p127, fun _ h => absurd h List.not_mem_nil⟩⟩⟩⟩⟩⟩⟩⟩⟩⟩⟩⟩⟩⟩⟩⟩
theorem lw_p128 : lw_okq (⟨"OptimumHouseModel", "indexesOf", "(I)V"⟩, 105) := ⟨⟨by decide +kernel, by decide +kernel⟩, List.mem_of_getElem? (i := 1750) (by decide +kernel), List.mem_of_getElem? (i := 2196) (by decide +kernel), List.mem_of_getElem? (i := 2197) (by decide +kernel)⟩
theorem lw_p129 : lw_okq (⟨"OptimumHouseModel", "setHere", "()I"⟩, 105) := ⟨⟨by decide +kernel, by decide +kernel⟩, List.mem_of_getElem? (i := 1750) (by decide +kernel), List.mem_of_getElem? (i := 2200) (by decide +kernel), List.mem_of_getElem? (i := 2201) (by decide +kernel)⟩
theorem lw_p130 : lw_okq (⟨"OptimumHouseModel", "sizeOf", "(I)I"⟩, 105) := ⟨⟨by decide +kernel, by decide +kernel⟩, List.mem_of_getElem? (i := 1750) (by decide +kernel), List.mem_of_getElem? (i := 2204) (by decide +kernel), List.mem_of_getElem? (i := 2205) (by decide +kernel)⟩
theorem lw_p131 : lw_okq (⟨"OptimumHouseModel", "tellVar", "(I)V"⟩, 105) := ⟨⟨by decide +kernel, by decide +kernel⟩, List.mem_of_getElem? (i := 1750) (by decide +kernel), List.mem_of_getElem? (i := 2208) (by decide +kernel), List.mem_of_getElem? (i := 2209) (by decide +kernel)⟩
theorem lw_p132 : lw_okq (⟨"OptimumHouseModel", "expression", "(I)V"⟩, 105) := ⟨⟨by decide +kernel, by decide +kernel⟩, List.mem_of_getElem? (i := 1750) (by decide +kernel), List.mem_of_getElem? (i := 2212) (by decide +kernel), List.mem_of_getElem? (i := 2213) (by decide +kernel)⟩
theorem lw_p133 : lw_okq (⟨"OptimumHouseModel", "product", "(I)V"⟩, 105) := ⟨⟨by decide +kernel, by decide +kernel⟩, List.mem_of_getElem? (i := 1750) (by decide +kernel), List.mem_of_getElem? (i := 2216) (by decide +kernel), List.mem_of_getElem? (i := 2217) (by decide +kernel)⟩
theorem lw_p134 : lw_okq (⟨"OptimumHouseModel", "factor", "(I)V"⟩, 105) := ⟨⟨by decide +kernel, by decide +kernel⟩, List.mem_of_getElem? (i := 1750) (by decide +kernel), List.mem_of_getElem? (i := 2220) (by decide +kernel), List.mem_of_getElem? (i := 2221) (by decide +kernel)⟩
theorem lw_p135 : lw_okq (⟨"OptimumHouseModel", "constant", "(IJ)V"⟩, 105) := ⟨⟨by decide +kernel, by decide +kernel⟩, List.mem_of_getElem? (i := 1750) (by decide +kernel), List.mem_of_getElem? (i := 2224) (by decide +kernel), List.mem_of_getElem? (i := 2225) (by decide +kernel)⟩
theorem lw_p136 : lw_okq (⟨"OptimumHouseModel", "sum", "(I)V"⟩, 105) := ⟨⟨by decide +kernel, by decide +kernel⟩, List.mem_of_getElem? (i := 1750) (by decide +kernel), List.mem_of_getElem? (i := 2228) (by decide +kernel), List.mem_of_getElem? (i := 2229) (by decide +kernel)⟩
theorem lw_p137 : lw_okq (⟨"OptimumHouseModel", "isGreat", "(I)Z"⟩, 105) := ⟨⟨by decide +kernel, by decide +kernel⟩, List.mem_of_getElem? (i := 1750) (by decide +kernel), List.mem_of_getElem? (i := 2232) (by decide +kernel), List.mem_of_getElem? (i := 2233) (by decide +kernel)⟩
theorem lw_p138 : lw_okq (⟨"OptimumHouseModel", "named", "(I)V"⟩, 105) := ⟨⟨by decide +kernel, by decide +kernel⟩, List.mem_of_getElem? (i := 1750) (by decide +kernel), List.mem_of_getElem? (i := 2238) (by decide +kernel), List.mem_of_getElem? (i := 2239) (by decide +kernel)⟩
theorem lw_p139 : lw_okq (⟨"OptimumHouseModel", "index", "()V"⟩, 105) := ⟨⟨by decide +kernel, by decide +kernel⟩, List.mem_of_getElem? (i := 1750) (by decide +kernel), List.mem_of_getElem? (i := 2242) (by decide +kernel), List.mem_of_getElem? (i := 2243) (by decide +kernel)⟩
theorem lw_p140 : lw_okq (⟨"OptimumHouseModel", "hasVariables", "(I)Z"⟩, 105) := ⟨⟨by decide +kernel, by decide +kernel⟩, List.mem_of_getElem? (i := 1750) (by decide +kernel), List.mem_of_getElem? (i := 2246) (by decide +kernel), List.mem_of_getElem? (i := 2247) (by decide +kernel)⟩
theorem lw_p141 : lw_okq (⟨"OptimumHouseModel", "tellRow", "()V"⟩, 105) := ⟨⟨by decide +kernel, by decide +kernel⟩, List.mem_of_getElem? (i := 1750) (by decide +kernel), List.mem_of_getElem? (i := 2250) (by decide +kernel), List.mem_of_getElem? (i := 2251) (by decide +kernel)⟩
theorem lw_p142 : lw_okq (⟨"OptimumHouseModel", "oneRow", "(I)V"⟩, 105) := ⟨⟨by decide +kernel, by decide +kernel⟩, List.mem_of_getElem? (i := 1750) (by decide +kernel), List.mem_of_getElem? (i := 2254) (by decide +kernel), List.mem_of_getElem? (i := 2255) (by decide +kernel)⟩
theorem lw_p143 : lw_okq (⟨"OptimumHouseModel", "asLong", "([II)J"⟩, 105) := ⟨⟨by decide +kernel, by decide +kernel⟩, List.mem_of_getElem? (i := 1750) (by decide +kernel), List.mem_of_getElem? (i := 2278) (by decide +kernel), List.mem_of_getElem? (i := 2279) (by decide +kernel)⟩
def lw_privs_9 : List (MethodName × Nat) := [(⟨"OptimumHouseModel", "indexesOf", "(I)V"⟩, 105), (⟨"OptimumHouseModel", "setHere", "()I"⟩, 105), (⟨"OptimumHouseModel", "sizeOf", "(I)I"⟩, 105), (⟨"OptimumHouseModel", "tellVar", "(I)V"⟩, 105), (⟨"OptimumHouseModel", "expression", "(I)V"⟩, 105), (⟨"OptimumHouseModel", "product", "(I)V"⟩, 105), (⟨"OptimumHouseModel", "factor", "(I)V"⟩, 105), (⟨"OptimumHouseModel", "constant", "(IJ)V"⟩, 105), (⟨"OptimumHouseModel", "sum", "(I)V"⟩, 105), (⟨"OptimumHouseModel", "isGreat", "(I)Z"⟩, 105), (⟨"OptimumHouseModel", "named", "(I)V"⟩, 105), (⟨"OptimumHouseModel", "index", "()V"⟩, 105), (⟨"OptimumHouseModel", "hasVariables", "(I)Z"⟩, 105), (⟨"OptimumHouseModel", "tellRow", "()V"⟩, 105), (⟨"OptimumHouseModel", "oneRow", "(I)V"⟩, 105), (⟨"OptimumHouseModel", "asLong", "([II)J"⟩, 105)]
theorem lw_r9 : ∀ q ∈ lw_privs_9, lw_okq q := List.forall_mem_cons.mpr ⟨lw_p128, List.forall_mem_cons.mpr ⟨lw_p129, List.forall_mem_cons.mpr ⟨lw_p130, List.forall_mem_cons.mpr ⟨lw_p131, List.forall_mem_cons.mpr ⟨lw_p132, List.forall_mem_cons.mpr ⟨lw_p133, List.forall_mem_cons.mpr ⟨lw_p134, List.forall_mem_cons.mpr ⟨lw_p135, List.forall_mem_cons.mpr ⟨lw_p136, List.forall_mem_cons.mpr ⟨lw_p137, List.forall_mem_cons.mpr ⟨lw_p138, List.forall_mem_cons.mpr ⟨lw_p139, List.forall_mem_cons.mpr ⟨lw_p140, List.forall_mem_cons.mpr ⟨lw_p141, List.forall_mem_cons.mpr ⟨lw_p142, List.forall_mem_cons.mpr ⟨lw_p143, fun _ h => absurd h List.not_mem_nil⟩⟩⟩⟩⟩⟩⟩⟩⟩⟩⟩⟩⟩⟩⟩⟩
theorem lw_p144 : lw_okq (⟨"OptimumHouseModel", "cell", "(II)I"⟩, 105) := ⟨⟨by decide +kernel, by decide +kernel⟩, List.mem_of_getElem? (i := 1750) (by decide +kernel), List.mem_of_getElem? (i := 2290) (by decide +kernel), List.mem_of_getElem? (i := 2291) (by decide +kernel)⟩
theorem lw_p145 : lw_okq (⟨"OptimumHouseModel", "goOn", "()V"⟩, 105) := ⟨⟨by decide +kernel, by decide +kernel⟩, List.mem_of_getElem? (i := 1750) (by decide +kernel), List.mem_of_getElem? (i := 2299) (by decide +kernel), List.mem_of_getElem? (i := 2300) (by decide +kernel)⟩
theorem lw_p146 : lw_okq (⟨"OptimumHouseModel", "stepUp", "(I)I"⟩, 105) := ⟨⟨by decide +kernel, by decide +kernel⟩, List.mem_of_getElem? (i := 1750) (by decide +kernel), List.mem_of_getElem? (i := 2312) (by decide +kernel), List.mem_of_getElem? (i := 2313) (by decide +kernel)⟩
theorem lw_p147 : lw_okq (⟨"OptimumHouseModel", "ratio", "(IIII)I"⟩, 105) := ⟨⟨by decide +kernel, by decide +kernel⟩, List.mem_of_getElem? (i := 1750) (by decide +kernel), List.mem_of_getElem? (i := 2316) (by decide +kernel), List.mem_of_getElem? (i := 2317) (by decide +kernel)⟩
theorem lw_p148 : lw_okq (⟨"OptimumHouseModel", "leafFarkas", "(II)V"⟩, 105) := ⟨⟨by decide +kernel, by decide +kernel⟩, List.mem_of_getElem? (i := 1750) (by decide +kernel), List.mem_of_getElem? (i := 2323) (by decide +kernel), List.mem_of_getElem? (i := 2324) (by decide +kernel)⟩
theorem lw_p149 : lw_okq (⟨"OptimumHouseModel", "multipliersOf", "(I)V"⟩, 105) := ⟨⟨by decide +kernel, by decide +kernel⟩, List.mem_of_getElem? (i := 1750) (by decide +kernel), List.mem_of_getElem? (i := 2327) (by decide +kernel), List.mem_of_getElem? (i := 2328) (by decide +kernel)⟩
theorem lw_p150 : lw_okq (⟨"OptimumHouseModel", "clearMultipliers", "()V"⟩, 105) := ⟨⟨by decide +kernel, by decide +kernel⟩, List.mem_of_getElem? (i := 1750) (by decide +kernel), List.mem_of_getElem? (i := 2331) (by decide +kernel), List.mem_of_getElem? (i := 2332) (by decide +kernel)⟩
theorem lw_p151 : lw_okq (⟨"OptimumHouseModel", "writePairs", "(Ljava/lang/String;)V"⟩, 105) := ⟨⟨by decide +kernel, by decide +kernel⟩, List.mem_of_getElem? (i := 1750) (by decide +kernel), List.mem_of_getElem? (i := 2339) (by decide +kernel), List.mem_of_getElem? (i := 2340) (by decide +kernel)⟩
theorem lw_p152 : lw_okq (⟨"OptimumHouseModel", "write", "(Ljava/lang/String;)V"⟩, 105) := ⟨⟨by decide +kernel, by decide +kernel⟩, List.mem_of_getElem? (i := 1750) (by decide +kernel), List.mem_of_getElem? (i := 2343) (by decide +kernel), List.mem_of_getElem? (i := 2344) (by decide +kernel)⟩
theorem lw_p153 : lw_okq (⟨"OptimumHouseModel", "writeNumber", "([II)V"⟩, 105) := ⟨⟨by decide +kernel, by decide +kernel⟩, List.mem_of_getElem? (i := 1750) (by decide +kernel), List.mem_of_getElem? (i := 2347) (by decide +kernel), List.mem_of_getElem? (i := 2348) (by decide +kernel)⟩
theorem lw_p154 : lw_okq (⟨"OptimumHouseModel", "spell", "([II)V"⟩, 105) := ⟨⟨by decide +kernel, by decide +kernel⟩, List.mem_of_getElem? (i := 1750) (by decide +kernel), List.mem_of_getElem? (i := 2351) (by decide +kernel), List.mem_of_getElem? (i := 2352) (by decide +kernel)⟩
theorem lw_p155 : lw_okq (⟨"OptimumHouseModel", "letter", "(I)V"⟩, 105) := ⟨⟨by decide +kernel, by decide +kernel⟩, List.mem_of_getElem? (i := 1750) (by decide +kernel), List.mem_of_getElem? (i := 2355) (by decide +kernel), List.mem_of_getElem? (i := 2356) (by decide +kernel)⟩
theorem lw_p156 : lw_okq (⟨"OptimumHouseModel", "writeSmall", "(J)V"⟩, 105) := ⟨⟨by decide +kernel, by decide +kernel⟩, List.mem_of_getElem? (i := 1750) (by decide +kernel), List.mem_of_getElem? (i := 2360) (by decide +kernel), List.mem_of_getElem? (i := 2361) (by decide +kernel)⟩
theorem lw_p157 : lw_okq (⟨"OptimumHouseModel", "leafDone", "()V"⟩, 105) := ⟨⟨by decide +kernel, by decide +kernel⟩, List.mem_of_getElem? (i := 1750) (by decide +kernel), List.mem_of_getElem? (i := 2366) (by decide +kernel), List.mem_of_getElem? (i := 2367) (by decide +kernel)⟩
theorem lw_p158 : lw_okq (⟨"OptimumHouseModel", "finish", "()V"⟩, 105) := ⟨⟨by decide +kernel, by decide +kernel⟩, List.mem_of_getElem? (i := 1750) (by decide +kernel), List.mem_of_getElem? (i := 2370) (by decide +kernel), List.mem_of_getElem? (i := 2371) (by decide +kernel)⟩
theorem lw_p159 : lw_okq (⟨"OptimumHouseModel", "say", "(Ljava/lang/String;)V"⟩, 105) := ⟨⟨by decide +kernel, by decide +kernel⟩, List.mem_of_getElem? (i := 1750) (by decide +kernel), List.mem_of_getElem? (i := 2375) (by decide +kernel), List.mem_of_getElem? (i := 2376) (by decide +kernel)⟩
def lw_privs_10 : List (MethodName × Nat) := [(⟨"OptimumHouseModel", "cell", "(II)I"⟩, 105), (⟨"OptimumHouseModel", "goOn", "()V"⟩, 105), (⟨"OptimumHouseModel", "stepUp", "(I)I"⟩, 105), (⟨"OptimumHouseModel", "ratio", "(IIII)I"⟩, 105), (⟨"OptimumHouseModel", "leafFarkas", "(II)V"⟩, 105), (⟨"OptimumHouseModel", "multipliersOf", "(I)V"⟩, 105), (⟨"OptimumHouseModel", "clearMultipliers", "()V"⟩, 105), (⟨"OptimumHouseModel", "writePairs", "(Ljava/lang/String;)V"⟩, 105), (⟨"OptimumHouseModel", "write", "(Ljava/lang/String;)V"⟩, 105), (⟨"OptimumHouseModel", "writeNumber", "([II)V"⟩, 105), (⟨"OptimumHouseModel", "spell", "([II)V"⟩, 105), (⟨"OptimumHouseModel", "letter", "(I)V"⟩, 105), (⟨"OptimumHouseModel", "writeSmall", "(J)V"⟩, 105), (⟨"OptimumHouseModel", "leafDone", "()V"⟩, 105), (⟨"OptimumHouseModel", "finish", "()V"⟩, 105), (⟨"OptimumHouseModel", "say", "(Ljava/lang/String;)V"⟩, 105)]
theorem lw_r10 : ∀ q ∈ lw_privs_10, lw_okq q := List.forall_mem_cons.mpr ⟨lw_p144, List.forall_mem_cons.mpr ⟨lw_p145, List.forall_mem_cons.mpr ⟨lw_p146, List.forall_mem_cons.mpr ⟨lw_p147, List.forall_mem_cons.mpr ⟨lw_p148, List.forall_mem_cons.mpr ⟨lw_p149, List.forall_mem_cons.mpr ⟨lw_p150, List.forall_mem_cons.mpr ⟨lw_p151, List.forall_mem_cons.mpr ⟨lw_p152, List.forall_mem_cons.mpr ⟨lw_p153, List.forall_mem_cons.mpr ⟨lw_p154, List.forall_mem_cons.mpr ⟨lw_p155, List.forall_mem_cons.mpr ⟨lw_p156, List.forall_mem_cons.mpr ⟨lw_p157, List.forall_mem_cons.mpr ⟨lw_p158, List.forall_mem_cons.mpr ⟨lw_p159, fun _ h => absurd h List.not_mem_nil⟩⟩⟩⟩⟩⟩⟩⟩⟩⟩⟩⟩⟩⟩⟩⟩
theorem lw_p160 : lw_okq (⟨"OptimumHouseModel", "lower", "([II[II)V"⟩, 105) := ⟨⟨by decide +kernel, by decide +kernel⟩, List.mem_of_getElem? (i := 1750) (by decide +kernel), List.mem_of_getElem? (i := 2379) (by decide +kernel), List.mem_of_getElem? (i := 2380) (by decide +kernel)⟩
theorem lw_p161 : lw_okq (⟨"OptimumHouseModel", "common", "([II[II)V"⟩, 105) := ⟨⟨by decide +kernel, by decide +kernel⟩, List.mem_of_getElem? (i := 1750) (by decide +kernel), List.mem_of_getElem? (i := 2383) (by decide +kernel), List.mem_of_getElem? (i := 2384) (by decide +kernel)⟩
theorem lw_p162 : lw_okq (⟨"OptimumHouseModel", "divide", "([II[II[II[II)V"⟩, 105) := ⟨⟨by decide +kernel, by decide +kernel⟩, List.mem_of_getElem? (i := 1750) (by decide +kernel), List.mem_of_getElem? (i := 2387) (by decide +kernel), List.mem_of_getElem? (i := 2388) (by decide +kernel)⟩
theorem lw_p163 : lw_okq (⟨"OptimumHouseModel", "longDivide", "([II[IIII[II)V"⟩, 105) := ⟨⟨by decide +kernel, by decide +kernel⟩, List.mem_of_getElem? (i := 1750) (by decide +kernel), List.mem_of_getElem? (i := 2394) (by decide +kernel), List.mem_of_getElem? (i := 2395) (by decide +kernel)⟩
theorem lw_p164 : lw_okq (⟨"OptimumHouseModel", "sayLetters", "()V"⟩, 105) := ⟨⟨by decide +kernel, by decide +kernel⟩, List.mem_of_getElem? (i := 1750) (by decide +kernel), List.mem_of_getElem? (i := 2409) (by decide +kernel), List.mem_of_getElem? (i := 2410) (by decide +kernel)⟩
theorem lw_p165 : lw_okq (⟨"OptimumHouseModel", "sayPoint", "([II[II)V"⟩, 105) := ⟨⟨by decide +kernel, by decide +kernel⟩, List.mem_of_getElem? (i := 1750) (by decide +kernel), List.mem_of_getElem? (i := 2415) (by decide +kernel), List.mem_of_getElem? (i := 2416) (by decide +kernel)⟩
theorem lw_p166 : lw_okq (⟨"OptimumHouseModel", "mayBegin", "()Z"⟩, 105) := ⟨⟨by decide +kernel, by decide +kernel⟩, List.mem_of_getElem? (i := 1750) (by decide +kernel), List.mem_of_getElem? (i := 2420) (by decide +kernel), List.mem_of_getElem? (i := 2421) (by decide +kernel)⟩
theorem lw_p167 : lw_okq (⟨"OptimumHouseModel", "childRow", "(IZ)V"⟩, 105) := ⟨⟨by decide +kernel, by decide +kernel⟩, List.mem_of_getElem? (i := 1750) (by decide +kernel), List.mem_of_getElem? (i := 2424) (by decide +kernel), List.mem_of_getElem? (i := 2425) (by decide +kernel)⟩
theorem lw_p168 : lw_okq (⟨"OptimumHouseModel", "outOfBasis", "()Z"⟩, 105) := ⟨⟨by decide +kernel, by decide +kernel⟩, List.mem_of_getElem? (i := 1750) (by decide +kernel), List.mem_of_getElem? (i := 2428) (by decide +kernel), List.mem_of_getElem? (i := 2429) (by decide +kernel)⟩
theorem lw_p169 : lw_okq (⟨"OptimumHouseModel", "dropPlace", "()V"⟩, 105) := ⟨⟨by decide +kernel, by decide +kernel⟩, List.mem_of_getElem? (i := 1750) (by decide +kernel), List.mem_of_getElem? (i := 2432) (by decide +kernel), List.mem_of_getElem? (i := 2433) (by decide +kernel)⟩
theorem lw_p170 : lw_okq (⟨"OptimumHouseModel", "evaluate", "()V"⟩, 105) := ⟨⟨by decide +kernel, by decide +kernel⟩, List.mem_of_getElem? (i := 1750) (by decide +kernel), List.mem_of_getElem? (i := 2436) (by decide +kernel), List.mem_of_getElem? (i := 2437) (by decide +kernel)⟩
theorem lw_p171 : lw_okq (⟨"OptimumHouseModel", "isNoBetter", "()Z"⟩, 105) := ⟨⟨by decide +kernel, by decide +kernel⟩, List.mem_of_getElem? (i := 1750) (by decide +kernel), List.mem_of_getElem? (i := 2440) (by decide +kernel), List.mem_of_getElem? (i := 2441) (by decide +kernel)⟩
theorem lw_p172 : lw_okq (⟨"OptimumHouseModel", "isWholeGoal", "()Z"⟩, 105) := ⟨⟨by decide +kernel, by decide +kernel⟩, List.mem_of_getElem? (i := 1750) (by decide +kernel), List.mem_of_getElem? (i := 2444) (by decide +kernel), List.mem_of_getElem? (i := 2445) (by decide +kernel)⟩
theorem lw_p173 : lw_okq (⟨"OptimumHouseModel", "leafBound", "()V"⟩, 105) := ⟨⟨by decide +kernel, by decide +kernel⟩, List.mem_of_getElem? (i := 1750) (by decide +kernel), List.mem_of_getElem? (i := 2448) (by decide +kernel), List.mem_of_getElem? (i := 2449) (by decide +kernel)⟩
theorem lw_p174 : lw_okq (⟨"OptimumHouseModel", "takeBest", "()V"⟩, 105) := ⟨⟨by decide +kernel, by decide +kernel⟩, List.mem_of_getElem? (i := 1750) (by decide +kernel), List.mem_of_getElem? (i := 2453) (by decide +kernel), List.mem_of_getElem? (i := 2454) (by decide +kernel)⟩
theorem lw_p175 : lw_okq (⟨"OptimumHouseModel", "cut", "(I)V"⟩, 105) := ⟨⟨by decide +kernel, by decide +kernel⟩, List.mem_of_getElem? (i := 1750) (by decide +kernel), List.mem_of_getElem? (i := 2457) (by decide +kernel), List.mem_of_getElem? (i := 2458) (by decide +kernel)⟩
def lw_privs_11 : List (MethodName × Nat) := [(⟨"OptimumHouseModel", "lower", "([II[II)V"⟩, 105), (⟨"OptimumHouseModel", "common", "([II[II)V"⟩, 105), (⟨"OptimumHouseModel", "divide", "([II[II[II[II)V"⟩, 105), (⟨"OptimumHouseModel", "longDivide", "([II[IIII[II)V"⟩, 105), (⟨"OptimumHouseModel", "sayLetters", "()V"⟩, 105), (⟨"OptimumHouseModel", "sayPoint", "([II[II)V"⟩, 105), (⟨"OptimumHouseModel", "mayBegin", "()Z"⟩, 105), (⟨"OptimumHouseModel", "childRow", "(IZ)V"⟩, 105), (⟨"OptimumHouseModel", "outOfBasis", "()Z"⟩, 105), (⟨"OptimumHouseModel", "dropPlace", "()V"⟩, 105), (⟨"OptimumHouseModel", "evaluate", "()V"⟩, 105), (⟨"OptimumHouseModel", "isNoBetter", "()Z"⟩, 105), (⟨"OptimumHouseModel", "isWholeGoal", "()Z"⟩, 105), (⟨"OptimumHouseModel", "leafBound", "()V"⟩, 105), (⟨"OptimumHouseModel", "takeBest", "()V"⟩, 105), (⟨"OptimumHouseModel", "cut", "(I)V"⟩, 105)]
theorem lw_r11 : ∀ q ∈ lw_privs_11, lw_okq q := List.forall_mem_cons.mpr ⟨lw_p160, List.forall_mem_cons.mpr ⟨lw_p161, List.forall_mem_cons.mpr ⟨lw_p162, List.forall_mem_cons.mpr ⟨lw_p163, List.forall_mem_cons.mpr ⟨lw_p164, List.forall_mem_cons.mpr ⟨lw_p165, List.forall_mem_cons.mpr ⟨lw_p166, List.forall_mem_cons.mpr ⟨lw_p167, List.forall_mem_cons.mpr ⟨lw_p168, List.forall_mem_cons.mpr ⟨lw_p169, List.forall_mem_cons.mpr ⟨lw_p170, List.forall_mem_cons.mpr ⟨lw_p171, List.forall_mem_cons.mpr ⟨lw_p172, List.forall_mem_cons.mpr ⟨lw_p173, List.forall_mem_cons.mpr ⟨lw_p174, List.forall_mem_cons.mpr ⟨lw_p175, fun _ h => absurd h List.not_mem_nil⟩⟩⟩⟩⟩⟩⟩⟩⟩⟩⟩⟩⟩⟩⟩⟩
theorem lw_p176 : lw_okq (⟨"OptimumHouseModel", "branch", "(I)V"⟩, 105) := ⟨⟨by decide +kernel, by decide +kernel⟩, List.mem_of_getElem? (i := 1750) (by decide +kernel), List.mem_of_getElem? (i := 2462) (by decide +kernel), List.mem_of_getElem? (i := 2463) (by decide +kernel)⟩
theorem lw_p177 : lw_okq (⟨"OptimumHouseModel", "ray", "()V"⟩, 105) := ⟨⟨by decide +kernel, by decide +kernel⟩, List.mem_of_getElem? (i := 1750) (by decide +kernel), List.mem_of_getElem? (i := 2467) (by decide +kernel), List.mem_of_getElem? (i := 2468) (by decide +kernel)⟩
theorem lw_p178 : lw_okq (⟨"OptimumHouseModel", "stepDown", "()I"⟩, 105) := ⟨⟨by decide +kernel, by decide +kernel⟩, List.mem_of_getElem? (i := 1750) (by decide +kernel), List.mem_of_getElem? (i := 2474) (by decide +kernel), List.mem_of_getElem? (i := 2475) (by decide +kernel)⟩
theorem lw_p179 : lw_okq (⟨"OptimumHouseModel", "pivot", "(II)Z"⟩, 105) := ⟨⟨by decide +kernel, by decide +kernel⟩, List.mem_of_getElem? (i := 1750) (by decide +kernel), List.mem_of_getElem? (i := 2478) (by decide +kernel), List.mem_of_getElem? (i := 2479) (by decide +kernel)⟩
theorem lw_p180 : lw_okq (⟨"OptimumHouseModel", "across", "(IIIIIIZ)Z"⟩, 105) := ⟨⟨by decide +kernel, by decide +kernel⟩, List.mem_of_getElem? (i := 1750) (by decide +kernel), List.mem_of_getElem? (i := 2482) (by decide +kernel), List.mem_of_getElem? (i := 2483) (by decide +kernel)⟩
theorem lw_p181 : lw_okq (⟨"OptimumHouseModel", "letterAt", "(I)I"⟩, 105) := ⟨⟨by decide +kernel, by decide +kernel⟩, List.mem_of_getElem? (i := 1750) (by decide +kernel), List.mem_of_getElem? (i := 2498) (by decide +kernel), List.mem_of_getElem? (i := 2499) (by decide +kernel)⟩
theorem lw_p182 : lw_okq (⟨"OptimumHouseModel", "tokenizeProof", "()V"⟩, 105) := ⟨⟨by decide +kernel, by decide +kernel⟩, List.mem_of_getElem? (i := 1750) (by decide +kernel), List.mem_of_getElem? (i := 2514) (by decide +kernel), List.mem_of_getElem? (i := 2515) (by decide +kernel)⟩
theorem lw_p183 : lw_okq (⟨"OptimumHouseModel", "proofRead", "()V"⟩, 105) := ⟨⟨by decide +kernel, by decide +kernel⟩, List.mem_of_getElem? (i := 1750) (by decide +kernel), List.mem_of_getElem? (i := 2519) (by decide +kernel), List.mem_of_getElem? (i := 2520) (by decide +kernel)⟩
theorem lw_p184 : lw_okq (⟨"OptimumHouseModel", "wantAbove", "()V"⟩, 105) := ⟨⟨by decide +kernel, by decide +kernel⟩, List.mem_of_getElem? (i := 1750) (by decide +kernel), List.mem_of_getElem? (i := 2523) (by decide +kernel), List.mem_of_getElem? (i := 2524) (by decide +kernel)⟩
theorem lw_p185 : lw_okq (⟨"OptimumHouseModel", "pointRead", "()V"⟩, 105) := ⟨⟨by decide +kernel, by decide +kernel⟩, List.mem_of_getElem? (i := 1750) (by decide +kernel), List.mem_of_getElem? (i := 2527) (by decide +kernel), List.mem_of_getElem? (i := 2528) (by decide +kernel)⟩
theorem lw_p186 : lw_okq (⟨"OptimumHouseModel", "treesRead", "()V"⟩, 105) := ⟨⟨by decide +kernel, by decide +kernel⟩, List.mem_of_getElem? (i := 1750) (by decide +kernel), List.mem_of_getElem? (i := 2531) (by decide +kernel), List.mem_of_getElem? (i := 2532) (by decide +kernel)⟩
theorem lw_p187 : lw_okq (⟨"OptimumHouseModel", "holds", "()V"⟩, 105) := ⟨⟨by decide +kernel, by decide +kernel⟩, List.mem_of_getElem? (i := 1750) (by decide +kernel), List.mem_of_getElem? (i := 2535) (by decide +kernel), List.mem_of_getElem? (i := 2536) (by decide +kernel)⟩
theorem lw_p188 : lw_okq (⟨"OptimumHouseModel", "numberAt", "(I[II)V"⟩, 105) := ⟨⟨by decide +kernel, by decide +kernel⟩, List.mem_of_getElem? (i := 1750) (by decide +kernel), List.mem_of_getElem? (i := 2539) (by decide +kernel), List.mem_of_getElem? (i := 2540) (by decide +kernel)⟩
theorem lw_p189 : lw_okq (⟨"OptimumHouseModel", "pointHere", "()V"⟩, 105) := ⟨⟨by decide +kernel, by decide +kernel⟩, List.mem_of_getElem? (i := 1750) (by decide +kernel), List.mem_of_getElem? (i := 2544) (by decide +kernel), List.mem_of_getElem? (i := 2545) (by decide +kernel)⟩
theorem lw_p190 : lw_okq (⟨"OptimumHouseModel", "isValue", "()Z"⟩, 105) := ⟨⟨by decide +kernel, by decide +kernel⟩, List.mem_of_getElem? (i := 1750) (by decide +kernel), List.mem_of_getElem? (i := 2548) (by decide +kernel), List.mem_of_getElem? (i := 2549) (by decide +kernel)⟩
theorem lw_p191 : lw_okq (⟨"OptimumHouseModel", "along", "(I)V"⟩, 105) := ⟨⟨by decide +kernel, by decide +kernel⟩, List.mem_of_getElem? (i := 1750) (by decide +kernel), List.mem_of_getElem? (i := 2552) (by decide +kernel), List.mem_of_getElem? (i := 2553) (by decide +kernel)⟩
def lw_privs_12 : List (MethodName × Nat) := [(⟨"OptimumHouseModel", "branch", "(I)V"⟩, 105), (⟨"OptimumHouseModel", "ray", "()V"⟩, 105), (⟨"OptimumHouseModel", "stepDown", "()I"⟩, 105), (⟨"OptimumHouseModel", "pivot", "(II)Z"⟩, 105), (⟨"OptimumHouseModel", "across", "(IIIIIIZ)Z"⟩, 105), (⟨"OptimumHouseModel", "letterAt", "(I)I"⟩, 105), (⟨"OptimumHouseModel", "tokenizeProof", "()V"⟩, 105), (⟨"OptimumHouseModel", "proofRead", "()V"⟩, 105), (⟨"OptimumHouseModel", "wantAbove", "()V"⟩, 105), (⟨"OptimumHouseModel", "pointRead", "()V"⟩, 105), (⟨"OptimumHouseModel", "treesRead", "()V"⟩, 105), (⟨"OptimumHouseModel", "holds", "()V"⟩, 105), (⟨"OptimumHouseModel", "numberAt", "(I[II)V"⟩, 105), (⟨"OptimumHouseModel", "pointHere", "()V"⟩, 105), (⟨"OptimumHouseModel", "isValue", "()Z"⟩, 105), (⟨"OptimumHouseModel", "along", "(I)V"⟩, 105)]
theorem lw_r12 : ∀ q ∈ lw_privs_12, lw_okq q := List.forall_mem_cons.mpr ⟨lw_p176, List.forall_mem_cons.mpr ⟨lw_p177, List.forall_mem_cons.mpr ⟨lw_p178, List.forall_mem_cons.mpr ⟨lw_p179, List.forall_mem_cons.mpr ⟨lw_p180, List.forall_mem_cons.mpr ⟨lw_p181, List.forall_mem_cons.mpr ⟨lw_p182, List.forall_mem_cons.mpr ⟨lw_p183, List.forall_mem_cons.mpr ⟨lw_p184, List.forall_mem_cons.mpr ⟨lw_p185, List.forall_mem_cons.mpr ⟨lw_p186, List.forall_mem_cons.mpr ⟨lw_p187, List.forall_mem_cons.mpr ⟨lw_p188, List.forall_mem_cons.mpr ⟨lw_p189, List.forall_mem_cons.mpr ⟨lw_p190, List.forall_mem_cons.mpr ⟨lw_p191, fun _ h => absurd h List.not_mem_nil⟩⟩⟩⟩⟩⟩⟩⟩⟩⟩⟩⟩⟩⟩⟩⟩
theorem lw_p192 : lw_okq (⟨"OptimumHouseModel", "isPoint", "(Z)Z"⟩, 105) := ⟨⟨by decide +kernel, by decide +kernel⟩, List.mem_of_getElem? (i := 1750) (by decide +kernel), List.mem_of_getElem? (i := 2556) (by decide +kernel), List.mem_of_getElem? (i := 2557) (by decide +kernel)⟩
theorem lw_p193 : lw_okq (⟨"OptimumHouseModel", "isAlong", "()Z"⟩, 105) := ⟨⟨by decide +kernel, by decide +kernel⟩, List.mem_of_getElem? (i := 1750) (by decide +kernel), List.mem_of_getElem? (i := 2560) (by decide +kernel), List.mem_of_getElem? (i := 2561) (by decide +kernel)⟩
theorem lw_p194 : lw_okq (⟨"OptimumHouseModel", "trees", "(Z)V"⟩, 105) := ⟨⟨by decide +kernel, by decide +kernel⟩, List.mem_of_getElem? (i := 1750) (by decide +kernel), List.mem_of_getElem? (i := 2564) (by decide +kernel), List.mem_of_getElem? (i := 2565) (by decide +kernel)⟩
theorem lw_p195 : lw_okq (⟨"OptimumHouseModel", "heldCell", "(II)I"⟩, 105) := ⟨⟨by decide +kernel, by decide +kernel⟩, List.mem_of_getElem? (i := 1750) (by decide +kernel), List.mem_of_getElem? (i := 2568) (by decide +kernel), List.mem_of_getElem? (i := 2569) (by decide +kernel)⟩
theorem lw_p196 : lw_okq (⟨"OptimumHouseModel", "variableAt", "(I)I"⟩, 105) := ⟨⟨by decide +kernel, by decide +kernel⟩, List.mem_of_getElem? (i := 1750) (by decide +kernel), List.mem_of_getElem? (i := 2572) (by decide +kernel), List.mem_of_getElem? (i := 2573) (by decide +kernel)⟩
theorem lw_p197 : lw_okq (⟨"OptimumHouseModel", "branchRow", "(IIZ)V"⟩, 105) := ⟨⟨by decide +kernel, by decide +kernel⟩, List.mem_of_getElem? (i := 1750) (by decide +kernel), List.mem_of_getElem? (i := 2576) (by decide +kernel), List.mem_of_getElem? (i := 2577) (by decide +kernel)⟩
theorem lw_p198 : lw_okq (⟨"OptimumHouseModel", "pairs", "()Z"⟩, 105) := ⟨⟨by decide +kernel, by decide +kernel⟩, List.mem_of_getElem? (i := 1750) (by decide +kernel), List.mem_of_getElem? (i := 2580) (by decide +kernel), List.mem_of_getElem? (i := 2581) (by decide +kernel)⟩
theorem lw_p199 : lw_okq (⟨"OptimumHouseModel", "cutRow", "()Z"⟩, 105) := ⟨⟨by decide +kernel, by decide +kernel⟩, List.mem_of_getElem? (i := 1750) (by decide +kernel), List.mem_of_getElem? (i := 2584) (by decide +kernel), List.mem_of_getElem? (i := 2585) (by decide +kernel)⟩
theorem lw_p200 : lw_okq (⟨"OptimumHouseModel", "isLong", "([II)Z"⟩, 105) := ⟨⟨by decide +kernel, by decide +kernel⟩, List.mem_of_getElem? (i := 1750) (by decide +kernel), List.mem_of_getElem? (i := 2588) (by decide +kernel), List.mem_of_getElem? (i := 2589) (by decide +kernel)⟩
theorem lw_p201 : lw_okq (⟨"OptimumHouseModel", "isBound", "()Z"⟩, 105) := ⟨⟨by decide +kernel, by decide +kernel⟩, List.mem_of_getElem? (i := 1750) (by decide +kernel), List.mem_of_getElem? (i := 2593) (by decide +kernel), List.mem_of_getElem? (i := 2594) (by decide +kernel)⟩
theorem lw_p202 : lw_okq (⟨"OptimumHouseModel", "isFarkas", "()Z"⟩, 105) := ⟨⟨by decide +kernel, by decide +kernel⟩, List.mem_of_getElem? (i := 1750) (by decide +kernel), List.mem_of_getElem? (i := 2597) (by decide +kernel), List.mem_of_getElem? (i := 2598) (by decide +kernel)⟩
def lw_privs_13 : List (MethodName × Nat) := [(⟨"OptimumHouseModel", "isPoint", "(Z)Z"⟩, 105), (⟨"OptimumHouseModel", "isAlong", "()Z"⟩, 105), (⟨"OptimumHouseModel", "trees", "(Z)V"⟩, 105), (⟨"OptimumHouseModel", "heldCell", "(II)I"⟩, 105), (⟨"OptimumHouseModel", "variableAt", "(I)I"⟩, 105), (⟨"OptimumHouseModel", "branchRow", "(IIZ)V"⟩, 105), (⟨"OptimumHouseModel", "pairs", "()Z"⟩, 105), (⟨"OptimumHouseModel", "cutRow", "()Z"⟩, 105), (⟨"OptimumHouseModel", "isLong", "([II)Z"⟩, 105), (⟨"OptimumHouseModel", "isBound", "()Z"⟩, 105), (⟨"OptimumHouseModel", "isFarkas", "()Z"⟩, 105)]
theorem lw_r13 : ∀ q ∈ lw_privs_13, lw_okq q := List.forall_mem_cons.mpr ⟨lw_p192, List.forall_mem_cons.mpr ⟨lw_p193, List.forall_mem_cons.mpr ⟨lw_p194, List.forall_mem_cons.mpr ⟨lw_p195, List.forall_mem_cons.mpr ⟨lw_p196, List.forall_mem_cons.mpr ⟨lw_p197, List.forall_mem_cons.mpr ⟨lw_p198, List.forall_mem_cons.mpr ⟨lw_p199, List.forall_mem_cons.mpr ⟨lw_p200, List.forall_mem_cons.mpr ⟨lw_p201, List.forall_mem_cons.mpr ⟨lw_p202, fun _ h => absurd h List.not_mem_nil⟩⟩⟩⟩⟩⟩⟩⟩⟩⟩⟩
def lw_privs : List (MethodName × Nat) := lw_privs_1 ++ (lw_privs_2 ++ (lw_privs_3 ++ (lw_privs_4 ++ (lw_privs_5 ++ (lw_privs_6 ++ (lw_privs_7 ++ (lw_privs_8 ++ (lw_privs_9 ++ (lw_privs_10 ++ (lw_privs_11 ++ (lw_privs_12 ++ (lw_privs_13))))))))))))
def lw_tbl : List Cond := k2_sels lw_privs ++ tables_1
theorem lw_privs_ok : ∀ q ∈ lw_privs, lw_okq q := by
  show ∀ q ∈ lw_privs_1 ++ (lw_privs_2 ++ (lw_privs_3 ++ (lw_privs_4 ++ (lw_privs_5 ++ (lw_privs_6 ++ (lw_privs_7 ++ (lw_privs_8 ++ (lw_privs_9 ++ (lw_privs_10 ++ (lw_privs_11 ++ (lw_privs_12 ++ (lw_privs_13)))))))))))), lw_okq q
  exact List.forall_mem_append.mpr ⟨lw_r1, List.forall_mem_append.mpr ⟨lw_r2, List.forall_mem_append.mpr ⟨lw_r3, List.forall_mem_append.mpr ⟨lw_r4, List.forall_mem_append.mpr ⟨lw_r5, List.forall_mem_append.mpr ⟨lw_r6, List.forall_mem_append.mpr ⟨lw_r7, List.forall_mem_append.mpr ⟨lw_r8, List.forall_mem_append.mpr ⟨lw_r9, List.forall_mem_append.mpr ⟨lw_r10, List.forall_mem_append.mpr ⟨lw_r11, List.forall_mem_append.mpr ⟨lw_r12, lw_r13⟩⟩⟩⟩⟩⟩⟩⟩⟩⟩⟩⟩
end
section
def RX0 : String := "OptimumHouse$Big"
def TX0 : u_T := fun k => match k with
  | 0 => ("OptimumHouse$Big", "limbs", "[I", true)
  | 1 => ("OptimumHouse$Big", "count", "I", false)
  | _ => ("OptimumHouse$Big", "sign", "I", false)
def tyX0 : Nat → FieldType := fun k => match k with
  | 0 => .array .int
  | 1 => .int
  | _ => .int
abbrev wsX00 : List Cond := u_ws RX0 TX0 3
theorem nmX0 : ∀ a, a < 3 → ∀ b, b < 3 → a ≠ b → (TX0 a).2.1 ≠ (TX0 b).2.1 := by decide +kernel
theorem tyX0_ok : ∀ k, k < 3 → parseFieldDescriptor (TX0 k).2.2.1 = some (tyX0 k) := by decide +kernel
abbrev cX0_init : ByteArray := prog_2_method_1_code
def yX0_init : MethodName := ⟨RX0, "<init>", "()V"⟩
abbrev cX0_store : ByteArray := prog_2_method_2_code
def yX0_store : MethodName := ⟨RX0, "store", "([IIJ)V"⟩
abbrev cX0_move : ByteArray := prog_2_method_3_code
def yX0_move : MethodName := ⟨RX0, "move", "([I[III)V"⟩
abbrev cX0_put : ByteArray := prog_2_method_4_code
def yX0_put : MethodName := ⟨RX0, "put", "(J)V"⟩
abbrev cX0_copy : ByteArray := prog_2_method_5_code
def yX0_copy : MethodName := ⟨RX0, "copy", "(LOptimumHouse$Big;)V"⟩
abbrev cX0_load : ByteArray := prog_2_method_6_code
def yX0_load : MethodName := ⟨RX0, "load", "([II)V"⟩
abbrev cX0_save : ByteArray := prog_2_method_7_code
def yX0_save : MethodName := ⟨RX0, "save", "([II)V"⟩
abbrev cX0_turn : ByteArray := prog_2_method_8_code
def yX0_turn : MethodName := ⟨RX0, "turn", "()V"⟩
abbrev cX0_read : ByteArray := prog_2_method_9_code
def yX0_read : MethodName := ⟨RX0, "read", "(LOptimumHouse$Text;II)V"⟩
abbrev cX0_digitCount : ByteArray := prog_2_method_10_code
def yX0_digitCount : MethodName := ⟨RX0, "digitCount", "()I"⟩
abbrev cX0_lowBits : ByteArray := prog_2_method_11_code
def yX0_lowBits : MethodName := ⟨RX0, "lowBits", "()J"⟩
abbrev cX0_trim : ByteArray := prog_2_method_12_code
def yX0_trim : MethodName := ⟨RX0, "trim", "()V"⟩
abbrev cX0_product : ByteArray := prog_2_method_13_code
def yX0_product : MethodName := ⟨RX0, "product", "(LOptimumHouse$Big;LOptimumHouse$Big;)V"⟩
abbrev cX0_add : ByteArray := prog_2_method_14_code
def yX0_add : MethodName := ⟨RX0, "add", "(LOptimumHouse$Big;I)V"⟩
abbrev cX0_addSize : ByteArray := prog_2_method_15_code
def yX0_addSize : MethodName := ⟨RX0, "addSize", "(LOptimumHouse$Big;)V"⟩
abbrev cX0_takeSize : ByteArray := prog_2_method_16_code
def yX0_takeSize : MethodName := ⟨RX0, "takeSize", "(LOptimumHouse$Big;LOptimumHouse$Big;)V"⟩
abbrev cX0_compareSize : ByteArray := prog_2_method_17_code
def yX0_compareSize : MethodName := ⟨RX0, "compareSize", "(LOptimumHouse$Big;)I"⟩
abbrev cX0_compareWith : ByteArray := prog_2_method_18_code
def yX0_compareWith : MethodName := ⟨RX0, "compareWith", "(LOptimumHouse$Big;)I"⟩
abbrev cX0_divide : ByteArray := prog_2_method_19_code
def yX0_divide : MethodName := ⟨RX0, "divide", "(LOptimumHouse$Big;LOptimumHouse$Big;LOptimumHouse$Big;)V"⟩
abbrev cX0_reduce : ByteArray := prog_2_method_20_code
def yX0_reduce : MethodName := ⟨RX0, "reduce", "(I)I"⟩
abbrev cX0_scale : ByteArray := prog_2_method_21_code
def yX0_scale : MethodName := ⟨RX0, "scale", "(I)V"⟩
abbrev cX0_divideLong : ByteArray := prog_2_method_22_code
def yX0_divideLong : MethodName := ⟨RX0, "divideLong", "(LOptimumHouse$Big;LOptimumHouse$Big;LOptimumHouse$Big;)V"⟩
abbrev cX0_digitAt : ByteArray := prog_2_method_23_code
def yX0_digitAt : MethodName := ⟨RX0, "digitAt", "(ILOptimumHouse$Big;I)I"⟩
def RX1 : String := "OptimumHouse$Checker"
def TX1 : u_T := fun k => match k with
  | 0 => ("OptimumHouse$Checker", "reader", "LOptimumHouse$ProofReader;", true)
  | 1 => ("OptimumHouse$Checker", "rows", "LOptimumHouse$Rows;", true)
  | 2 => ("OptimumHouse$Checker", "point", "[I", true)
  | 3 => ("OptimumHouse$Checker", "valueTop", "LOptimumHouse$Big;", true)
  | 4 => ("OptimumHouse$Checker", "valueBottom", "LOptimumHouse$Big;", true)
  | 5 => ("OptimumHouse$Checker", "q", "LOptimumHouse$Big;", true)
  | 6 => ("OptimumHouse$Checker", "sum", "LOptimumHouse$Big;", true)
  | 7 => ("OptimumHouse$Checker", "part", "LOptimumHouse$Big;", true)
  | 8 => ("OptimumHouse$Checker", "number", "LOptimumHouse$Big;", true)
  | 9 => ("OptimumHouse$Checker", "product", "LOptimumHouse$Big;", true)
  | 10 => ("OptimumHouse$Checker", "help", "LOptimumHouse$Big;", true)
  | 11 => ("OptimumHouse$Checker", "waitingRows", "[I", true)
  | 12 => ("OptimumHouse$Checker", "waitingVariable", "[I", true)
  | 13 => ("OptimumHouse$Checker", "waitingBound", "[I", true)
  | 14 => ("OptimumHouse$Checker", "waiting", "I", false)
  | 15 => ("OptimumHouse$Checker", "model", "LOptimumHouse$Model;", false)
  | 16 => ("OptimumHouse$Checker", "faultKind", "I", false)
  | _ => ("OptimumHouse$Checker", "faultAt", "I", false)
def tyX1 : Nat → FieldType := fun k => match k with
  | 0 => .object "OptimumHouse$ProofReader"
  | 1 => .object "OptimumHouse$Rows"
  | 2 => .array .int
  | 3 => .object "OptimumHouse$Big"
  | 4 => .object "OptimumHouse$Big"
  | 5 => .object "OptimumHouse$Big"
  | 6 => .object "OptimumHouse$Big"
  | 7 => .object "OptimumHouse$Big"
  | 8 => .object "OptimumHouse$Big"
  | 9 => .object "OptimumHouse$Big"
  | 10 => .object "OptimumHouse$Big"
  | 11 => .array .int
  | 12 => .array .int
  | 13 => .array .int
  | 14 => .int
  | 15 => .object "OptimumHouse$Model"
  | 16 => .int
  | _ => .int
abbrev wsX10 : List Cond := u_ws RX1 TX1 18
theorem nmX1 : ∀ a, a < 18 → ∀ b, b < 18 → a ≠ b → (TX1 a).2.1 ≠ (TX1 b).2.1 := by decide +kernel
theorem tyX1_ok : ∀ k, k < 18 → parseFieldDescriptor (TX1 k).2.2.1 = some (tyX1 k) := by decide +kernel
abbrev cX1_init : ByteArray := prog_3_method_1_code
def yX1_init : MethodName := ⟨RX1, "<init>", "()V"⟩
abbrev cX1_faultPlace : ByteArray := prog_3_method_2_code
def yX1_faultPlace : MethodName := ⟨RX1, "faultPlace", "()I"⟩
abbrev cX1_hold : ByteArray := prog_3_method_3_code
def yX1_hold : MethodName := ⟨RX1, "hold", "(LOptimumHouse$Text;LOptimumHouse$Model;)I"⟩
abbrev cX1_fail : ByteArray := prog_3_method_4_code
def yX1_fail : MethodName := ⟨RX1, "fail", "(II)Z"⟩
abbrev cX1_holdOptimal : ByteArray := prog_3_method_5_code
def yX1_holdOptimal : MethodName := ⟨RX1, "holdOptimal", "()Z"⟩
abbrev cX1_holdUnbounded : ByteArray := prog_3_method_6_code
def yX1_holdUnbounded : MethodName := ⟨RX1, "holdUnbounded", "()Z"⟩
abbrev cX1_takePoint : ByteArray := prog_3_method_7_code
def yX1_takePoint : MethodName := ⟨RX1, "takePoint", "()V"⟩
abbrev cX1_sumAt : ByteArray := prog_3_method_8_code
def yX1_sumAt : MethodName := ⟨RX1, "sumAt", "(I)V"⟩
abbrev cX1_scaleBound : ByteArray := prog_3_method_9_code
def yX1_scaleBound : MethodName := ⟨RX1, "scaleBound", "(I)V"⟩
abbrev cX1_isValue : ByteArray := prog_3_method_10_code
def yX1_isValue : MethodName := ⟨RX1, "isValue", "()Z"⟩
abbrev cX1_isPoint : ByteArray := prog_3_method_11_code
def yX1_isPoint : MethodName := ⟨RX1, "isPoint", "(Z)Z"⟩
abbrev cX1_isAlong : ByteArray := prog_3_method_12_code
def yX1_isAlong : MethodName := ⟨RX1, "isAlong", "()Z"⟩
abbrev cX1_holdTrees : ByteArray := prog_3_method_13_code
def yX1_holdTrees : MethodName := ⟨RX1, "holdTrees", "(Z)Z"⟩
abbrev cX1_branch : ByteArray := prog_3_method_14_code
def yX1_branch : MethodName := ⟨RX1, "branch", "()I"⟩
abbrev cX1_beginSecondTree : ByteArray := prog_3_method_15_code
def yX1_beginSecondTree : MethodName := ⟨RX1, "beginSecondTree", "()V"⟩
abbrev cX1_pairTree : ByteArray := prog_3_method_16_code
def yX1_pairTree : MethodName := ⟨RX1, "pairTree", "(IZ)I"⟩
abbrev cX1_takePairs : ByteArray := prog_3_method_17_code
def yX1_takePairs : MethodName := ⟨RX1, "takePairs", "()Z"⟩
abbrev cX1_isFarkas : ByteArray := prog_3_method_18_code
def yX1_isFarkas : MethodName := ⟨RX1, "isFarkas", "()Z"⟩
abbrev cX1_isBound : ByteArray := prog_3_method_19_code
def yX1_isBound : MethodName := ⟨RX1, "isBound", "()Z"⟩
def RX2 : String := "OptimumHouse$Dictionary"
def TX2 : u_T := fun k => match k with
  | 0 => ("OptimumHouse$Dictionary", "cells", "[I", false)
  | 1 => ("OptimumHouse$Dictionary", "other", "[I", false)
  | 2 => ("OptimumHouse$Dictionary", "basic", "[I", true)
  | 3 => ("OptimumHouse$Dictionary", "free", "[I", true)
  | 4 => ("OptimumHouse$Dictionary", "kept", "[I", true)
  | 5 => ("OptimumHouse$Dictionary", "lead", "LOptimumHouse$Big;", true)
  | 6 => ("OptimumHouse$Dictionary", "denominator", "LOptimumHouse$Big;", true)
  | 7 => ("OptimumHouse$Dictionary", "x", "LOptimumHouse$Big;", true)
  | 8 => ("OptimumHouse$Dictionary", "y", "LOptimumHouse$Big;", true)
  | 9 => ("OptimumHouse$Dictionary", "left", "LOptimumHouse$Big;", true)
  | 10 => ("OptimumHouse$Dictionary", "right", "LOptimumHouse$Big;", true)
  | 11 => ("OptimumHouse$Dictionary", "quotient", "LOptimumHouse$Big;", true)
  | 12 => ("OptimumHouse$Dictionary", "help", "LOptimumHouse$Big;", true)
  | 13 => ("OptimumHouse$Dictionary", "variables", "I", false)
  | 14 => ("OptimumHouse$Dictionary", "rows", "I", false)
  | 15 => ("OptimumHouse$Dictionary", "places", "I", false)
  | 16 => ("OptimumHouse$Dictionary", "hasHelper", "Z", false)
  | 17 => ("OptimumHouse$Dictionary", "row", "I", false)
  | 18 => ("OptimumHouse$Dictionary", "column", "I", false)
  | _ => ("OptimumHouse$Dictionary", "keptEnd", "I", false)
def tyX2 : Nat → FieldType := fun k => match k with
  | 0 => .array .int
  | 1 => .array .int
  | 2 => .array .int
  | 3 => .array .int
  | 4 => .array .int
  | 5 => .object "OptimumHouse$Big"
  | 6 => .object "OptimumHouse$Big"
  | 7 => .object "OptimumHouse$Big"
  | 8 => .object "OptimumHouse$Big"
  | 9 => .object "OptimumHouse$Big"
  | 10 => .object "OptimumHouse$Big"
  | 11 => .object "OptimumHouse$Big"
  | 12 => .object "OptimumHouse$Big"
  | 13 => .int
  | 14 => .int
  | 15 => .int
  | 16 => .boolean
  | 17 => .int
  | 18 => .int
  | _ => .int
abbrev wsX20 : List Cond := u_ws RX2 TX2 20
theorem nmX2 : ∀ a, a < 20 → ∀ b, b < 20 → a ≠ b → (TX2 a).2.1 ≠ (TX2 b).2.1 := by decide +kernel
theorem tyX2_ok : ∀ k, k < 20 → parseFieldDescriptor (TX2 k).2.2.1 = some (tyX2 k) := by decide +kernel
abbrev cX2_init : ByteArray := prog_4_method_1_code
def yX2_init : MethodName := ⟨RX2, "<init>", "()V"⟩
abbrev cX2_at : ByteArray := prog_4_method_2_code
def yX2_at : MethodName := ⟨RX2, "at", "(II)I"⟩
abbrev cX2_start : ByteArray := prog_4_method_3_code
def yX2_start : MethodName := ⟨RX2, "start", "(LOptimumHouse$Model;)V"⟩
abbrev cX2_needsHelper : ByteArray := prog_4_method_4_code
def yX2_needsHelper : MethodName := ⟨RX2, "needsHelper", "()Z"⟩
abbrev cX2_addHelper : ByteArray := prog_4_method_5_code
def yX2_addHelper : MethodName := ⟨RX2, "addHelper", "()V"⟩
abbrev cX2_hasHelper : ByteArray := prog_4_method_6_code
def yX2_hasHelper : MethodName := ⟨RX2, "hasHelper", "()Z"⟩
abbrev cX2_rowCount : ByteArray := prog_4_method_7_code
def yX2_rowCount : MethodName := ⟨RX2, "rowCount", "()I"⟩
abbrev cX2_sign : ByteArray := prog_4_method_8_code
def yX2_sign : MethodName := ⟨RX2, "sign", "(II)I"⟩
abbrev cX2_numberAt : ByteArray := prog_4_method_9_code
def yX2_numberAt : MethodName := ⟨RX2, "numberAt", "(I)I"⟩
abbrev cX2_number : ByteArray := prog_4_method_10_code
def yX2_number : MethodName := ⟨RX2, "number", "(IILOptimumHouse$Big;)V"⟩
abbrev cX2_denominator : ByteArray := prog_4_method_11_code
def yX2_denominator : MethodName := ⟨RX2, "denominator", "(LOptimumHouse$Big;)V"⟩
abbrev cX2_write : ByteArray := prog_4_method_12_code
def yX2_write : MethodName := ⟨RX2, "write", "(IILOptimumHouse$Text;)Z"⟩
abbrev cX2_rowOf : ByteArray := prog_4_method_13_code
def yX2_rowOf : MethodName := ⟨RX2, "rowOf", "(I)I"⟩
abbrev cX2_placeOf : ByteArray := prog_4_method_14_code
def yX2_placeOf : MethodName := ⟨RX2, "placeOf", "(I)I"⟩
abbrev cX2_multiplier : ByteArray := prog_4_method_15_code
def yX2_multiplier : MethodName := ⟨RX2, "multiplier", "(IILOptimumHouse$Big;)V"⟩
abbrev cX2_pointNumber : ByteArray := prog_4_method_16_code
def yX2_pointNumber : MethodName := ⟨RX2, "pointNumber", "(ILOptimumHouse$Big;)V"⟩
abbrev cX2_rayNumber : ByteArray := prog_4_method_17_code
def yX2_rayNumber : MethodName := ⟨RX2, "rayNumber", "(ILOptimumHouse$Big;)V"⟩
abbrev cX2_brokenRow : ByteArray := prog_4_method_18_code
def yX2_brokenRow : MethodName := ⟨RX2, "brokenRow", "(LOptimumHouse$Model;)I"⟩
abbrev cX2_floor : ByteArray := prog_4_method_19_code
def yX2_floor : MethodName := ⟨RX2, "floor", "(ILOptimumHouse$Big;)V"⟩
abbrev cX2_remainder : ByteArray := prog_4_method_20_code
def yX2_remainder : MethodName := ⟨RX2, "remainder", "(LOptimumHouse$Big;)V"⟩
abbrev cX2_stuckRow : ByteArray := prog_4_method_21_code
def yX2_stuckRow : MethodName := ⟨RX2, "stuckRow", "()I"⟩
abbrev cX2_chooseFirst : ByteArray := prog_4_method_22_code
def yX2_chooseFirst : MethodName := ⟨RX2, "chooseFirst", "()I"⟩
abbrev cX2_helperIsBasic : ByteArray := prog_4_method_23_code
def yX2_helperIsBasic : MethodName := ⟨RX2, "helperIsBasic", "()Z"⟩
abbrev cX2_chooseHelperOut : ByteArray := prog_4_method_24_code
def yX2_chooseHelperOut : MethodName := ⟨RX2, "chooseHelperOut", "()I"⟩
abbrev cX2_dropHelper : ByteArray := prog_4_method_25_code
def yX2_dropHelper : MethodName := ⟨RX2, "dropHelper", "()V"⟩
abbrev cX2_chooseUp : ByteArray := prog_4_method_26_code
def yX2_chooseUp : MethodName := ⟨RX2, "chooseUp", "(I)I"⟩
abbrev cX2_leavesAhead : ByteArray := prog_4_method_27_code
def yX2_leavesAhead : MethodName := ⟨RX2, "leavesAhead", "(I)Z"⟩
abbrev cX2_chooseDown : ByteArray := prog_4_method_28_code
def yX2_chooseDown : MethodName := ⟨RX2, "chooseDown", "()I"⟩
abbrev cX2_entersAhead : ByteArray := prog_4_method_29_code
def yX2_entersAhead : MethodName := ⟨RX2, "entersAhead", "(I)Z"⟩
abbrev cX2_isSmall : ByteArray := prog_4_method_30_code
def yX2_isSmall : MethodName := ⟨RX2, "isSmall", "(I)Z"⟩
abbrev cX2_small : ByteArray := prog_4_method_31_code
def yX2_small : MethodName := ⟨RX2, "small", "(I)J"⟩
abbrev cX2_compareProducts : ByteArray := prog_4_method_32_code
def yX2_compareProducts : MethodName := ⟨RX2, "compareProducts", "(IIII)I"⟩
abbrev cX2_pivot : ByteArray := prog_4_method_33_code
def yX2_pivot : MethodName := ⟨RX2, "pivot", "()Z"⟩
abbrev cX2_pivotRow : ByteArray := prog_4_method_34_code
def yX2_pivotRow : MethodName := ⟨RX2, "pivotRow", "(II)Z"⟩
abbrev cX2_pivotGreat : ByteArray := prog_4_method_35_code
def yX2_pivotGreat : MethodName := ⟨RX2, "pivotGreat", "(IIII)Z"⟩
abbrev cX2_addCut : ByteArray := prog_4_method_36_code
def yX2_addCut : MethodName := ⟨RX2, "addCut", "(I)V"⟩
abbrev cX2_addLimit : ByteArray := prog_4_method_37_code
def yX2_addLimit : MethodName := ⟨RX2, "addLimit", "(IZ)V"⟩
abbrev cX2_addRow : ByteArray := prog_4_method_38_code
def yX2_addRow : MethodName := ⟨RX2, "addRow", "()V"⟩
abbrev cX2_hasKept : ByteArray := prog_4_method_39_code
def yX2_hasKept : MethodName := ⟨RX2, "hasKept", "()Z"⟩
abbrev cX2_keep : ByteArray := prog_4_method_40_code
def yX2_keep : MethodName := ⟨RX2, "keep", "(I)V"⟩
abbrev cX2_restore : ByteArray := prog_4_method_41_code
def yX2_restore : MethodName := ⟨RX2, "restore", "()I"⟩
def RX3 : String := "OptimumHouse$Model"
def TX3 : u_T := fun k => match k with
  | 0 => ("OptimumHouse$Model", "numbers", "[I", true)
  | 1 => ("OptimumHouse$Model", "whole", "[Z", true)
  | 2 => ("OptimumHouse$Model", "variables", "I", false)
  | 3 => ("OptimumHouse$Model", "rows", "I", false)
  | _ => ("OptimumHouse$Model", "max", "Z", false)
def tyX3 : Nat → FieldType := fun k => match k with
  | 0 => .array .int
  | 1 => .array .boolean
  | 2 => .int
  | 3 => .int
  | _ => .boolean
abbrev wsX30 : List Cond := u_ws RX3 TX3 5
theorem nmX3 : ∀ a, a < 5 → ∀ b, b < 5 → a ≠ b → (TX3 a).2.1 ≠ (TX3 b).2.1 := by decide +kernel
theorem tyX3_ok : ∀ k, k < 5 → parseFieldDescriptor (TX3 k).2.2.1 = some (tyX3 k) := by decide +kernel
abbrev cX3_init : ByteArray := prog_5_method_1_code
def yX3_init : MethodName := ⟨RX3, "<init>", "()V"⟩
abbrev cX3_clear : ByteArray := prog_5_method_2_code
def yX3_clear : MethodName := ⟨RX3, "clear", "()V"⟩
abbrev cX3_number : ByteArray := prog_5_method_3_code
def yX3_number : MethodName := ⟨RX3, "number", "(II)I"⟩
abbrev cX3_setNumber : ByteArray := prog_5_method_4_code
def yX3_setNumber : MethodName := ⟨RX3, "setNumber", "(IIJ)V"⟩
abbrev cX3_addVariables : ByteArray := prog_5_method_5_code
def yX3_addVariables : MethodName := ⟨RX3, "addVariables", "(IZ)V"⟩
abbrev cX3_addRow : ByteArray := prog_5_method_6_code
def yX3_addRow : MethodName := ⟨RX3, "addRow", "([JI)V"⟩
abbrev cX3_setGoal : ByteArray := prog_5_method_7_code
def yX3_setGoal : MethodName := ⟨RX3, "setGoal", "([JZ)V"⟩
abbrev cX3_wholes : ByteArray := prog_5_method_8_code
def yX3_wholes : MethodName := ⟨RX3, "wholes", "()I"⟩
abbrev cX3_isWhole : ByteArray := prog_5_method_9_code
def yX3_isWhole : MethodName := ⟨RX3, "isWhole", "(I)Z"⟩
abbrev cX3_isAllWhole : ByteArray := prog_5_method_10_code
def yX3_isAllWhole : MethodName := ⟨RX3, "isAllWhole", "()Z"⟩
abbrev cX3_isGoalWhole : ByteArray := prog_5_method_11_code
def yX3_isGoalWhole : MethodName := ⟨RX3, "isGoalWhole", "()Z"⟩
def RX4 : String := "OptimumHouse$ProofReader"
def TX4 : u_T := fun k => match k with
  | 0 => ("OptimumHouse$ProofReader", "text", "LOptimumHouse$Text;", false)
  | 1 => ("OptimumHouse$ProofReader", "marks", "[I", true)
  | 2 => ("OptimumHouse$ProofReader", "tokens", "I", false)
  | _ => ("OptimumHouse$ProofReader", "at", "I", false)
def tyX4 : Nat → FieldType := fun k => match k with
  | 0 => .object "OptimumHouse$Text"
  | 1 => .array .int
  | 2 => .int
  | _ => .int
abbrev wsX40 : List Cond := u_ws RX4 TX4 4
theorem nmX4 : ∀ a, a < 4 → ∀ b, b < 4 → a ≠ b → (TX4 a).2.1 ≠ (TX4 b).2.1 := by decide +kernel
theorem tyX4_ok : ∀ k, k < 4 → parseFieldDescriptor (TX4 k).2.2.1 = some (tyX4 k) := by decide +kernel
abbrev cX4_init : ByteArray := prog_6_method_1_code
def yX4_init : MethodName := ⟨RX4, "<init>", "()V"⟩
abbrev cX4_open : ByteArray := prog_6_method_2_code
def yX4_open : MethodName := ⟨RX4, "open", "(LOptimumHouse$Text;)V"⟩
abbrev cX4_rewind : ByteArray := prog_6_method_3_code
def yX4_rewind : MethodName := ⟨RX4, "rewind", "()V"⟩
abbrev cX4_kind : ByteArray := prog_6_method_4_code
def yX4_kind : MethodName := ⟨RX4, "kind", "()I"⟩
abbrev cX4_start : ByteArray := prog_6_method_5_code
def yX4_start : MethodName := ⟨RX4, "start", "()I"⟩
abbrev cX4_advance : ByteArray := prog_6_method_6_code
def yX4_advance : MethodName := ⟨RX4, "advance", "()V"⟩
abbrev cX4_mark : ByteArray := prog_6_method_7_code
def yX4_mark : MethodName := ⟨RX4, "mark", "(II)V"⟩
abbrev cX4_scanOne : ByteArray := prog_6_method_8_code
def yX4_scanOne : MethodName := ⟨RX4, "scanOne", "(II)I"⟩
abbrev cX4_scanWord : ByteArray := prog_6_method_9_code
def yX4_scanWord : MethodName := ⟨RX4, "scanWord", "(II)I"⟩
abbrev cX4_word : ByteArray := prog_6_method_10_code
def yX4_word : MethodName := ⟨RX4, "word", "(I)Ljava/lang/String;"⟩
abbrev cX4_isWord : ByteArray := prog_6_method_11_code
def yX4_isWord : MethodName := ⟨RX4, "isWord", "(IILjava/lang/String;)Z"⟩
abbrev cX4_scanNumber : ByteArray := prog_6_method_12_code
def yX4_scanNumber : MethodName := ⟨RX4, "scanNumber", "(II)I"⟩
abbrev cX4_behindDigits : ByteArray := prog_6_method_13_code
def yX4_behindDigits : MethodName := ⟨RX4, "behindDigits", "(II)I"⟩
abbrev cX4_hasMoreThanNoughts : ByteArray := prog_6_method_14_code
def yX4_hasMoreThanNoughts : MethodName := ⟨RX4, "hasMoreThanNoughts", "(II)Z"⟩
abbrev cX4_takeNumber : ByteArray := prog_6_method_15_code
def yX4_takeNumber : MethodName := ⟨RX4, "takeNumber", "(LOptimumHouse$Big;)V"⟩
abbrev cX4_takeCount : ByteArray := prog_6_method_16_code
def yX4_takeCount : MethodName := ⟨RX4, "takeCount", "()I"⟩
abbrev cX4_pass : ByteArray := prog_6_method_17_code
def yX4_pass : MethodName := ⟨RX4, "pass", "(I)Z"⟩
abbrev cX4_passAbove : ByteArray := prog_6_method_18_code
def yX4_passAbove : MethodName := ⟨RX4, "passAbove", "()Z"⟩
abbrev cX4_isProof : ByteArray := prog_6_method_19_code
def yX4_isProof : MethodName := ⟨RX4, "isProof", "(I)Z"⟩
abbrev cX4_passPoint : ByteArray := prog_6_method_20_code
def yX4_passPoint : MethodName := ⟨RX4, "passPoint", "(I)Z"⟩
abbrev cX4_passTree : ByteArray := prog_6_method_21_code
def yX4_passTree : MethodName := ⟨RX4, "passTree", "()Z"⟩
abbrev cX4_passPairs : ByteArray := prog_6_method_22_code
def yX4_passPairs : MethodName := ⟨RX4, "passPairs", "()Z"⟩
def RX5 : String := "OptimumHouse$Prover"
def TX5 : u_T := fun k => match k with
  | 0 => ("OptimumHouse$Prover", "head", "LOptimumHouse$Text;", true)
  | 1 => ("OptimumHouse$Prover", "trees", "LOptimumHouse$Text;", true)
  | 2 => ("OptimumHouse$Prover", "point", "[I", true)
  | 3 => ("OptimumHouse$Prover", "upper", "LOptimumHouse$Big;", true)
  | 4 => ("OptimumHouse$Prover", "lower", "LOptimumHouse$Big;", true)
  | 5 => ("OptimumHouse$Prover", "divisor", "LOptimumHouse$Big;", true)
  | 6 => ("OptimumHouse$Prover", "first", "LOptimumHouse$Big;", true)
  | 7 => ("OptimumHouse$Prover", "second", "LOptimumHouse$Big;", true)
  | 8 => ("OptimumHouse$Prover", "quotient", "LOptimumHouse$Big;", true)
  | _ => ("OptimumHouse$Prover", "help", "LOptimumHouse$Big;", true)
def tyX5 : Nat → FieldType := fun k => match k with
  | 0 => .object "OptimumHouse$Text"
  | 1 => .object "OptimumHouse$Text"
  | 2 => .array .int
  | 3 => .object "OptimumHouse$Big"
  | 4 => .object "OptimumHouse$Big"
  | 5 => .object "OptimumHouse$Big"
  | 6 => .object "OptimumHouse$Big"
  | 7 => .object "OptimumHouse$Big"
  | 8 => .object "OptimumHouse$Big"
  | _ => .object "OptimumHouse$Big"
abbrev wsX50 : List Cond := u_ws RX5 TX5 10
theorem nmX5 : ∀ a, a < 10 → ∀ b, b < 10 → a ≠ b → (TX5 a).2.1 ≠ (TX5 b).2.1 := by decide +kernel
theorem tyX5_ok : ∀ k, k < 10 → parseFieldDescriptor (TX5 k).2.2.1 = some (tyX5 k) := by decide +kernel
abbrev cX5_init : ByteArray := prog_7_method_1_code
def yX5_init : MethodName := ⟨RX5, "<init>", "()V"⟩
abbrev cX5_clear : ByteArray := prog_7_method_2_code
def yX5_clear : MethodName := ⟨RX5, "clear", "()V"⟩
abbrev cX5_isTreeOver : ByteArray := prog_7_method_3_code
def yX5_isTreeOver : MethodName := ⟨RX5, "isTreeOver", "()Z"⟩
abbrev cX5_isMade : ByteArray := prog_7_method_4_code
def yX5_isMade : MethodName := ⟨RX5, "isMade", "()Z"⟩
abbrev cX5_isOver : ByteArray := prog_7_method_5_code
def yX5_isOver : MethodName := ⟨RX5, "isOver", "()Z"⟩
abbrev cX5_proofLength : ByteArray := prog_7_method_6_code
def yX5_proofLength : MethodName := ⟨RX5, "proofLength", "()I"⟩
abbrev cX5_proofByte : ByteArray := prog_7_method_7_code
def yX5_proofByte : MethodName := ⟨RX5, "proofByte", "(I)I"⟩
abbrev cX5_takePoint : ByteArray := prog_7_method_8_code
def yX5_takePoint : MethodName := ⟨RX5, "takePoint", "(LOptimumHouse$Dictionary;I)V"⟩
abbrev cX5_pointNumber : ByteArray := prog_7_method_9_code
def yX5_pointNumber : MethodName := ⟨RX5, "pointNumber", "(ILOptimumHouse$Big;)V"⟩
abbrev cX5_pointDenominator : ByteArray := prog_7_method_10_code
def yX5_pointDenominator : MethodName := ⟨RX5, "pointDenominator", "(LOptimumHouse$Big;)V"⟩
abbrev cX5_writeLeaf : ByteArray := prog_7_method_11_code
def yX5_writeLeaf : MethodName := ⟨RX5, "writeLeaf", "(LOptimumHouse$Dictionary;II)V"⟩
abbrev cX5_writeCut : ByteArray := prog_7_method_12_code
def yX5_writeCut : MethodName := ⟨RX5, "writeCut", "(LOptimumHouse$Dictionary;IILOptimumHouse$Rows;)V"⟩
abbrev cX5_writePair : ByteArray := prog_7_method_13_code
def yX5_writePair : MethodName := ⟨RX5, "writePair", "(ILOptimumHouse$Big;)V"⟩
abbrev cX5_writeBranch : ByteArray := prog_7_method_14_code
def yX5_writeBranch : MethodName := ⟨RX5, "writeBranch", "(ILOptimumHouse$Big;)V"⟩
abbrev cX5_common : ByteArray := prog_7_method_15_code
def yX5_common : MethodName := ⟨RX5, "common", "(LOptimumHouse$Big;LOptimumHouse$Big;)LOptimumHouse$Big;"⟩
abbrev cX5_reduce : ByteArray := prog_7_method_16_code
def yX5_reduce : MethodName := ⟨RX5, "reduce", "(LOptimumHouse$Big;LOptimumHouse$Big;Z)V"⟩
abbrev cX5_writeFraction : ByteArray := prog_7_method_17_code
def yX5_writeFraction : MethodName := ⟨RX5, "writeFraction", "(LOptimumHouse$Big;LOptimumHouse$Big;ZLOptimumHouse$Text;)V"⟩
abbrev cX5_writePoint : ByteArray := prog_7_method_18_code
def yX5_writePoint : MethodName := ⟨RX5, "writePoint", "(I)V"⟩
abbrev cX5_proveOptimal : ByteArray := prog_7_method_19_code
def yX5_proveOptimal : MethodName := ⟨RX5, "proveOptimal", "(LOptimumHouse$Model;)V"⟩
abbrev cX5_proveInfeasible : ByteArray := prog_7_method_20_code
def yX5_proveInfeasible : MethodName := ⟨RX5, "proveInfeasible", "()V"⟩
abbrev cX5_proveUnbounded : ByteArray := prog_7_method_21_code
def yX5_proveUnbounded : MethodName := ⟨RX5, "proveUnbounded", "(LOptimumHouse$Model;LOptimumHouse$Dictionary;)V"⟩
def RX6 : String := "OptimumHouse$Rows"
def TX6 : u_T := fun k => match k with
  | 0 => ("OptimumHouse$Rows", "cells", "[I", true)
  | 1 => ("OptimumHouse$Rows", "factors", "[I", true)
  | 2 => ("OptimumHouse$Rows", "left", "LOptimumHouse$Big;", true)
  | 3 => ("OptimumHouse$Rows", "right", "LOptimumHouse$Big;", true)
  | 4 => ("OptimumHouse$Rows", "product", "LOptimumHouse$Big;", true)
  | 5 => ("OptimumHouse$Rows", "sum", "LOptimumHouse$Big;", true)
  | 6 => ("OptimumHouse$Rows", "quotient", "LOptimumHouse$Big;", true)
  | 7 => ("OptimumHouse$Rows", "help", "LOptimumHouse$Big;", true)
  | 8 => ("OptimumHouse$Rows", "variables", "I", false)
  | _ => ("OptimumHouse$Rows", "count", "I", false)
def tyX6 : Nat → FieldType := fun k => match k with
  | 0 => .array .int
  | 1 => .array .int
  | 2 => .object "OptimumHouse$Big"
  | 3 => .object "OptimumHouse$Big"
  | 4 => .object "OptimumHouse$Big"
  | 5 => .object "OptimumHouse$Big"
  | 6 => .object "OptimumHouse$Big"
  | 7 => .object "OptimumHouse$Big"
  | 8 => .int
  | _ => .int
abbrev wsX60 : List Cond := u_ws RX6 TX6 10
theorem nmX6 : ∀ a, a < 10 → ∀ b, b < 10 → a ≠ b → (TX6 a).2.1 ≠ (TX6 b).2.1 := by decide +kernel
theorem tyX6_ok : ∀ k, k < 10 → parseFieldDescriptor (TX6 k).2.2.1 = some (tyX6 k) := by decide +kernel
abbrev cX6_init : ByteArray := prog_8_method_1_code
def yX6_init : MethodName := ⟨RX6, "<init>", "()V"⟩
abbrev cX6_take : ByteArray := prog_8_method_2_code
def yX6_take : MethodName := ⟨RX6, "take", "(LOptimumHouse$Model;)V"⟩
abbrev cX6_at : ByteArray := prog_8_method_3_code
def yX6_at : MethodName := ⟨RX6, "at", "(II)I"⟩
abbrev cX6_count : ByteArray := prog_8_method_4_code
def yX6_count : MethodName := ⟨RX6, "count", "()I"⟩
abbrev cX6_isFull : ByteArray := prog_8_method_5_code
def yX6_isFull : MethodName := ⟨RX6, "isFull", "()Z"⟩
abbrev cX6_keep : ByteArray := prog_8_method_6_code
def yX6_keep : MethodName := ⟨RX6, "keep", "(I)V"⟩
abbrev cX6_number : ByteArray := prog_8_method_7_code
def yX6_number : MethodName := ⟨RX6, "number", "(IILOptimumHouse$Big;)V"⟩
abbrev cX6_lowBits : ByteArray := prog_8_method_8_code
def yX6_lowBits : MethodName := ⟨RX6, "lowBits", "(II)J"⟩
abbrev cX6_clearFactors : ByteArray := prog_8_method_9_code
def yX6_clearFactors : MethodName := ⟨RX6, "clearFactors", "()V"⟩
abbrev cX6_setFactor : ByteArray := prog_8_method_10_code
def yX6_setFactor : MethodName := ⟨RX6, "setFactor", "(ILOptimumHouse$Big;)V"⟩
abbrev cX6_combine : ByteArray := prog_8_method_11_code
def yX6_combine : MethodName := ⟨RX6, "combine", "(ILOptimumHouse$Big;)V"⟩
abbrev cX6_addCut : ByteArray := prog_8_method_12_code
def yX6_addCut : MethodName := ⟨RX6, "addCut", "(LOptimumHouse$Big;)Z"⟩
abbrev cX6_addLimit : ByteArray := prog_8_method_13_code
def yX6_addLimit : MethodName := ⟨RX6, "addLimit", "(ILOptimumHouse$Big;Z)V"⟩
def RX7 : String := "OptimumHouse$Search"
def TX7 : u_T := fun k => match k with
  | 0 => ("OptimumHouse$Search", "rows", "LOptimumHouse$Rows;", true)
  | 1 => ("OptimumHouse$Search", "dictionary", "LOptimumHouse$Dictionary;", true)
  | 2 => ("OptimumHouse$Search", "prover", "LOptimumHouse$Prover;", true)
  | 3 => ("OptimumHouse$Search", "left", "LOptimumHouse$Big;", true)
  | 4 => ("OptimumHouse$Search", "right", "LOptimumHouse$Big;", true)
  | 5 => ("OptimumHouse$Search", "top", "LOptimumHouse$Big;", true)
  | 6 => ("OptimumHouse$Search", "bottom", "LOptimumHouse$Big;", true)
  | 7 => ("OptimumHouse$Search", "model", "LOptimumHouse$Model;", false)
  | 8 => ("OptimumHouse$Search", "allowed", "I", false)
  | 9 => ("OptimumHouse$Search", "status", "I", false)
  | 10 => ("OptimumHouse$Search", "pivots", "I", false)
  | 11 => ("OptimumHouse$Search", "nodes", "I", false)
  | 12 => ("OptimumHouse$Search", "bests", "I", false)
  | 13 => ("OptimumHouse$Search", "cuts", "I", false)
  | 14 => ("OptimumHouse$Search", "phase", "I", false)
  | 15 => ("OptimumHouse$Search", "next", "I", false)
  | _ => ("OptimumHouse$Search", "source", "I", false)
def tyX7 : Nat → FieldType := fun k => match k with
  | 0 => .object "OptimumHouse$Rows"
  | 1 => .object "OptimumHouse$Dictionary"
  | 2 => .object "OptimumHouse$Prover"
  | 3 => .object "OptimumHouse$Big"
  | 4 => .object "OptimumHouse$Big"
  | 5 => .object "OptimumHouse$Big"
  | 6 => .object "OptimumHouse$Big"
  | 7 => .object "OptimumHouse$Model"
  | 8 => .int
  | 9 => .int
  | 10 => .int
  | 11 => .int
  | 12 => .int
  | 13 => .int
  | 14 => .int
  | 15 => .int
  | _ => .int
abbrev wsX70 : List Cond := u_ws RX7 TX7 17
theorem nmX7 : ∀ a, a < 17 → ∀ b, b < 17 → a ≠ b → (TX7 a).2.1 ≠ (TX7 b).2.1 := by decide +kernel
theorem tyX7_ok : ∀ k, k < 17 → parseFieldDescriptor (TX7 k).2.2.1 = some (tyX7 k) := by decide +kernel
abbrev cX7_init : ByteArray := prog_9_method_1_code
def yX7_init : MethodName := ⟨RX7, "<init>", "()V"⟩
abbrev cX7_start : ByteArray := prog_9_method_2_code
def yX7_start : MethodName := ⟨RX7, "start", "(LOptimumHouse$Model;I)V"⟩
abbrev cX7_rowNumber : ByteArray := prog_9_method_3_code
def yX7_rowNumber : MethodName := ⟨RX7, "rowNumber", "(II)J"⟩
abbrev cX7_isProved : ByteArray := prog_9_method_4_code
def yX7_isProved : MethodName := ⟨RX7, "isProved", "()Z"⟩
abbrev cX7_state : ByteArray := prog_9_method_5_code
def yX7_state : MethodName := ⟨RX7, "state", "(I)I"⟩
abbrev cX7_writeFraction : ByteArray := prog_9_method_6_code
def yX7_writeFraction : MethodName := ⟨RX7, "writeFraction", "(ILOptimumHouse$Text;)Z"⟩
abbrev cX7_run : ByteArray := prog_9_method_7_code
def yX7_run : MethodName := ⟨RX7, "run", "(I)I"⟩
abbrev cX7_prove : ByteArray := prog_9_method_8_code
def yX7_prove : MethodName := ⟨RX7, "prove", "()V"⟩
abbrev cX7_choose : ByteArray := prog_9_method_9_code
def yX7_choose : MethodName := ⟨RX7, "choose", "()V"⟩
abbrev cX7_endPhaseOne : ByteArray := prog_9_method_10_code
def yX7_endPhaseOne : MethodName := ⟨RX7, "endPhaseOne", "()V"⟩
abbrev cX7_judge : ByteArray := prog_9_method_11_code
def yX7_judge : MethodName := ⟨RX7, "judge", "()V"⟩
abbrev cX7_isAboveBest : ByteArray := prog_9_method_12_code
def yX7_isAboveBest : MethodName := ⟨RX7, "isAboveBest", "()Z"⟩
abbrev cX7_leaf : ByteArray := prog_9_method_13_code
def yX7_leaf : MethodName := ⟨RX7, "leaf", "()V"⟩
abbrev cX7_countChild : ByteArray := prog_9_method_14_code
def yX7_countChild : MethodName := ⟨RX7, "countChild", "(Z)Z"⟩
abbrev cX7_cut : ByteArray := prog_9_method_15_code
def yX7_cut : MethodName := ⟨RX7, "cut", "()V"⟩
abbrev cX7_branch : ByteArray := prog_9_method_16_code
def yX7_branch : MethodName := ⟨RX7, "branch", "()V"⟩
abbrev cX7_beginSecondChild : ByteArray := prog_9_method_17_code
def yX7_beginSecondChild : MethodName := ⟨RX7, "beginSecondChild", "()V"⟩
def RX8 : String := "OptimumHouse$Syntax"
def TX8 : u_T := fun k => match k with
  | 0 => ("OptimumHouse$Syntax", "kinds", "[I", true)
  | 1 => ("OptimumHouse$Syntax", "starts", "[I", true)
  | 2 => ("OptimumHouse$Syntax", "values", "[J", true)
  | 3 => ("OptimumHouse$Syntax", "tokens", "I", false)
  | _ => ("OptimumHouse$Syntax", "at", "I", false)
def tyX8 : Nat → FieldType := fun k => match k with
  | 0 => .array .int
  | 1 => .array .int
  | 2 => .array .long
  | 3 => .int
  | _ => .int
abbrev wsX80 : List Cond := u_ws RX8 TX8 5
theorem nmX8 : ∀ a, a < 5 → ∀ b, b < 5 → a ≠ b → (TX8 a).2.1 ≠ (TX8 b).2.1 := by decide +kernel
theorem tyX8_ok : ∀ k, k < 5 → parseFieldDescriptor (TX8 k).2.2.1 = some (tyX8 k) := by decide +kernel
abbrev cX8_init : ByteArray := prog_10_method_1_code
def yX8_init : MethodName := ⟨RX8, "<init>", "()V"⟩
abbrev cX8_kind : ByteArray := prog_10_method_2_code
def yX8_kind : MethodName := ⟨RX8, "kind", "(I)I"⟩
abbrev cX8_start : ByteArray := prog_10_method_3_code
def yX8_start : MethodName := ⟨RX8, "start", "(I)I"⟩
abbrev cX8_value : ByteArray := prog_10_method_4_code
def yX8_value : MethodName := ⟨RX8, "value", "(I)J"⟩
abbrev cX8_stopPlace : ByteArray := prog_10_method_5_code
def yX8_stopPlace : MethodName := ⟨RX8, "stopPlace", "()I"⟩
abbrev cX8_tokenCount : ByteArray := prog_10_method_6_code
def yX8_tokenCount : MethodName := ⟨RX8, "tokenCount", "()I"⟩
abbrev cX8_scan : ByteArray := prog_10_method_7_code
def yX8_scan : MethodName := ⟨RX8, "scan", "(LOptimumHouse$Text;)V"⟩
abbrev cX8_token : ByteArray := prog_10_method_8_code
def yX8_token : MethodName := ⟨RX8, "token", "(IIJ)V"⟩
abbrev cX8_scanOne : ByteArray := prog_10_method_9_code
def yX8_scanOne : MethodName := ⟨RX8, "scanOne", "(LOptimumHouse$Text;I)I"⟩
abbrev cX8_scanName : ByteArray := prog_10_method_10_code
def yX8_scanName : MethodName := ⟨RX8, "scanName", "(LOptimumHouse$Text;I)I"⟩
abbrev cX8_scanNumber : ByteArray := prog_10_method_11_code
def yX8_scanNumber : MethodName := ⟨RX8, "scanNumber", "(LOptimumHouse$Text;I)I"⟩
abbrev cX8_isNamePart : ByteArray := prog_10_method_12_code
def yX8_isNamePart : MethodName := ⟨RX8, "isNamePart", "(I)Z"⟩
abbrev cX8_isLetter : ByteArray := prog_10_method_13_code
def yX8_isLetter : MethodName := ⟨RX8, "isLetter", "(I)Z"⟩
abbrev cX8_isDigit : ByteArray := prog_10_method_14_code
def yX8_isDigit : MethodName := ⟨RX8, "isDigit", "(I)Z"⟩
abbrev cX8_is : ByteArray := prog_10_method_15_code
def yX8_is : MethodName := ⟨RX8, "is", "(I)Z"⟩
abbrev cX8_pass : ByteArray := prog_10_method_16_code
def yX8_pass : MethodName := ⟨RX8, "pass", "(I)Z"⟩
abbrev cX8_isProgram : ByteArray := prog_10_method_17_code
def yX8_isProgram : MethodName := ⟨RX8, "isProgram", "()Z"⟩
abbrev cX8_declaration : ByteArray := prog_10_method_18_code
def yX8_declaration : MethodName := ⟨RX8, "declaration", "()Z"⟩
abbrev cX8_indexes : ByteArray := prog_10_method_19_code
def yX8_indexes : MethodName := ⟨RX8, "indexes", "()Z"⟩
abbrev cX8_valueList : ByteArray := prog_10_method_20_code
def yX8_valueList : MethodName := ⟨RX8, "valueList", "()Z"⟩
abbrev cX8_row : ByteArray := prog_10_method_21_code
def yX8_row : MethodName := ⟨RX8, "row", "()Z"⟩
abbrev cX8_expression : ByteArray := prog_10_method_22_code
def yX8_expression : MethodName := ⟨RX8, "expression", "(I)Z"⟩
abbrev cX8_term : ByteArray := prog_10_method_23_code
def yX8_term : MethodName := ⟨RX8, "term", "(I)Z"⟩
abbrev cX8_factor : ByteArray := prog_10_method_24_code
def yX8_factor : MethodName := ⟨RX8, "factor", "(I)Z"⟩
abbrev cX8_items : ByteArray := prog_10_method_25_code
def yX8_items : MethodName := ⟨RX8, "items", "()Z"⟩
abbrev cX8_item : ByteArray := prog_10_method_26_code
def yX8_item : MethodName := ⟨RX8, "item", "()Z"⟩
def RX9 : String := "OptimumHouse$Teller"
def TX9 : u_T := fun k => match k with
  | 0 => ("OptimumHouse$Teller", "syntax", "LOptimumHouse$Syntax;", true)
  | 1 => ("OptimumHouse$Teller", "names", "[J", true)
  | 2 => ("OptimumHouse$Teller", "table", "[I", true)
  | 3 => ("OptimumHouse$Teller", "values", "[I", true)
  | 4 => ("OptimumHouse$Teller", "sums", "[[J", true)
  | 5 => ("OptimumHouse$Teller", "products", "[[J", true)
  | 6 => ("OptimumHouse$Teller", "factors", "[[J", true)
  | 7 => ("OptimumHouse$Teller", "leftSide", "[J", true)
  | 8 => ("OptimumHouse$Teller", "model", "LOptimumHouse$Model;", false)
  | 9 => ("OptimumHouse$Teller", "known", "I", false)
  | 10 => ("OptimumHouse$Teller", "sets", "I", false)
  | 11 => ("OptimumHouse$Teller", "pars", "I", false)
  | 12 => ("OptimumHouse$Teller", "looked", "I", false)
  | 13 => ("OptimumHouse$Teller", "at", "I", false)
  | 14 => ("OptimumHouse$Teller", "faultKind", "I", false)
  | 15 => ("OptimumHouse$Teller", "faultToken", "I", false)
  | _ => ("OptimumHouse$Teller", "faultAt", "I", false)
def tyX9 : Nat → FieldType := fun k => match k with
  | 0 => .object "OptimumHouse$Syntax"
  | 1 => .array .long
  | 2 => .array .int
  | 3 => .array .int
  | 4 => .array (.array .long)
  | 5 => .array (.array .long)
  | 6 => .array (.array .long)
  | 7 => .array .long
  | 8 => .object "OptimumHouse$Model"
  | 9 => .int
  | 10 => .int
  | 11 => .int
  | 12 => .int
  | 13 => .int
  | 14 => .int
  | 15 => .int
  | _ => .int
abbrev wsX90 : List Cond := u_ws RX9 TX9 17
theorem nmX9 : ∀ a, a < 17 → ∀ b, b < 17 → a ≠ b → (TX9 a).2.1 ≠ (TX9 b).2.1 := by decide +kernel
theorem tyX9_ok : ∀ k, k < 17 → parseFieldDescriptor (TX9 k).2.2.1 = some (tyX9 k) := by decide +kernel
abbrev cX9_init : ByteArray := prog_11_method_1_code
def yX9_init : MethodName := ⟨RX9, "<init>", "()V"⟩
abbrev cX9_faultPlace : ByteArray := prog_11_method_2_code
def yX9_faultPlace : MethodName := ⟨RX9, "faultPlace", "()I"⟩
abbrev cX9_read : ByteArray := prog_11_method_3_code
def yX9_read : MethodName := ⟨RX9, "read", "(LOptimumHouse$Text;LOptimumHouse$Model;)I"⟩
abbrev cX9_fail : ByteArray := prog_11_method_4_code
def yX9_fail : MethodName := ⟨RX9, "fail", "(II)Z"⟩
abbrev cX9_find : ByteArray := prog_11_method_5_code
def yX9_find : MethodName := ⟨RX9, "find", "(J)I"⟩
abbrev cX9_fact : ByteArray := prog_11_method_6_code
def yX9_fact : MethodName := ⟨RX9, "fact", "(II)I"⟩
abbrev cX9_setFact : ByteArray := prog_11_method_7_code
def yX9_setFact : MethodName := ⟨RX9, "setFact", "(III)V"⟩
abbrev cX9_isSort : ByteArray := prog_11_method_8_code
def yX9_isSort : MethodName := ⟨RX9, "isSort", "(II)Z"⟩
abbrev cX9_learn : ByteArray := prog_11_method_9_code
def yX9_learn : MethodName := ⟨RX9, "learn", "(II)I"⟩
abbrev cX9_forgetLast : ByteArray := prog_11_method_10_code
def yX9_forgetLast : MethodName := ⟨RX9, "forgetLast", "()V"⟩
abbrev cX9_number : ByteArray := prog_11_method_11_code
def yX9_number : MethodName := ⟨RX9, "number", "(I)I"⟩
abbrev cX9_tellSet : ByteArray := prog_11_method_12_code
def yX9_tellSet : MethodName := ⟨RX9, "tellSet", "()Z"⟩
abbrev cX9_tellIndexes : ByteArray := prog_11_method_13_code
def yX9_tellIndexes : MethodName := ⟨RX9, "tellIndexes", "(I)Z"⟩
abbrev cX9_setSize : ByteArray := prog_11_method_14_code
def yX9_setSize : MethodName := ⟨RX9, "setSize", "(I)I"⟩
abbrev cX9_asked : ByteArray := prog_11_method_15_code
def yX9_asked : MethodName := ⟨RX9, "asked", "(I)I"⟩
abbrev cX9_tellPar : ByteArray := prog_11_method_16_code
def yX9_tellPar : MethodName := ⟨RX9, "tellPar", "()Z"⟩
abbrev cX9_tellVar : ByteArray := prog_11_method_17_code
def yX9_tellVar : MethodName := ⟨RX9, "tellVar", "()Z"⟩
abbrev cX9_tellGoal : ByteArray := prog_11_method_18_code
def yX9_tellGoal : MethodName := ⟨RX9, "tellGoal", "()Z"⟩
abbrev cX9_tellRow : ByteArray := prog_11_method_19_code
def yX9_tellRow : MethodName := ⟨RX9, "tellRow", "()Z"⟩
abbrev cX9_tellOneRow : ByteArray := prog_11_method_20_code
def yX9_tellOneRow : MethodName := ⟨RX9, "tellOneRow", "(I)Z"⟩
abbrev cX9_addTo : ByteArray := prog_11_method_21_code
def yX9_addTo : MethodName := ⟨RX9, "addTo", "([J[JI)V"⟩
abbrev cX9_isGreat : ByteArray := prog_11_method_22_code
def yX9_isGreat : MethodName := ⟨RX9, "isGreat", "([J)Z"⟩
abbrev cX9_hasCoefficient : ByteArray := prog_11_method_23_code
def yX9_hasCoefficient : MethodName := ⟨RX9, "hasCoefficient", "([J)Z"⟩
abbrev cX9_expression : ByteArray := prog_11_method_24_code
def yX9_expression : MethodName := ⟨RX9, "expression", "(I)Z"⟩
abbrev cX9_term : ByteArray := prog_11_method_25_code
def yX9_term : MethodName := ⟨RX9, "term", "(I)Z"⟩
abbrev cX9_multiply : ByteArray := prog_11_method_26_code
def yX9_multiply : MethodName := ⟨RX9, "multiply", "([J[J)V"⟩
abbrev cX9_factor : ByteArray := prog_11_method_27_code
def yX9_factor : MethodName := ⟨RX9, "factor", "(I)Z"⟩
abbrev cX9_canBeFactor : ByteArray := prog_11_method_28_code
def yX9_canBeFactor : MethodName := ⟨RX9, "canBeFactor", "(I)Z"⟩
abbrev cX9_negated : ByteArray := prog_11_method_29_code
def yX9_negated : MethodName := ⟨RX9, "negated", "(I)Z"⟩
abbrev cX9_inner : ByteArray := prog_11_method_30_code
def yX9_inner : MethodName := ⟨RX9, "inner", "(I)Z"⟩
abbrev cX9_summed : ByteArray := prog_11_method_31_code
def yX9_summed : MethodName := ⟨RX9, "summed", "(I)Z"⟩
abbrev cX9_named : ByteArray := prog_11_method_32_code
def yX9_named : MethodName := ⟨RX9, "named", "(II)Z"⟩
abbrev cX9_putNamed : ByteArray := prog_11_method_33_code
def yX9_putNamed : MethodName := ⟨RX9, "putNamed", "([JII)V"⟩
abbrev cX9_item : ByteArray := prog_11_method_34_code
def yX9_item : MethodName := ⟨RX9, "item", "()I"⟩
def RX10 : String := "OptimumHouse$Text"
def TX10 : u_T := fun k => match k with
  | 0 => ("OptimumHouse$Text", "bytes", "[B", true)
  | 1 => ("OptimumHouse$Text", "length", "I", false)
  | _ => ("OptimumHouse$Text", "over", "Z", false)
def tyX10 : Nat → FieldType := fun k => match k with
  | 0 => .array .byte
  | 1 => .int
  | _ => .boolean
abbrev wsX100 : List Cond := u_ws RX10 TX10 3
theorem nmX10 : ∀ a, a < 3 → ∀ b, b < 3 → a ≠ b → (TX10 a).2.1 ≠ (TX10 b).2.1 := by decide +kernel
theorem tyX10_ok : ∀ k, k < 3 → parseFieldDescriptor (TX10 k).2.2.1 = some (tyX10 k) := by decide +kernel
abbrev cX10_init : ByteArray := prog_12_method_1_code
def yX10_init : MethodName := ⟨RX10, "<init>", "(I)V"⟩
abbrev cX10_length : ByteArray := prog_12_method_2_code
def yX10_length : MethodName := ⟨RX10, "length", "()I"⟩
abbrev cX10_isOver : ByteArray := prog_12_method_3_code
def yX10_isOver : MethodName := ⟨RX10, "isOver", "()Z"⟩
abbrev cX10_clear : ByteArray := prog_12_method_4_code
def yX10_clear : MethodName := ⟨RX10, "clear", "()V"⟩
abbrev cX10_byteAt : ByteArray := prog_12_method_5_code
def yX10_byteAt : MethodName := ⟨RX10, "byteAt", "(I)I"⟩
abbrev cX10_shorten : ByteArray := prog_12_method_6_code
def yX10_shorten : MethodName := ⟨RX10, "shorten", "(I)Z"⟩
abbrev cX10_put : ByteArray := prog_12_method_7_code
def yX10_put : MethodName := ⟨RX10, "put", "(I)V"⟩
abbrev cX10_putFour : ByteArray := prog_12_method_8_code
def yX10_putFour : MethodName := ⟨RX10, "putFour", "(I)V"⟩
abbrev cX10_word : ByteArray := prog_12_method_9_code
def yX10_word : MethodName := ⟨RX10, "word", "(Ljava/lang/String;)V"⟩
abbrev cX10_count : ByteArray := prog_12_method_10_code
def yX10_count : MethodName := ⟨RX10, "count", "(I)V"⟩
abbrev cX10_number : ByteArray := prog_12_method_11_code
def yX10_number : MethodName := ⟨RX10, "number", "(LOptimumHouse$Big;Z)V"⟩
def RX11 : String := "OptimumHouse"
def TX11 : u_T := fun k => match k with
  | 0 => ("OptimumHouse", "tape", "LOptimumHouse$Text;", true)
  | 1 => ("OptimumHouse", "line", "LOptimumHouse$Text;", true)
  | 2 => ("OptimumHouse", "teller", "LOptimumHouse$Teller;", true)
  | 3 => ("OptimumHouse", "search", "LOptimumHouse$Search;", true)
  | 4 => ("OptimumHouse", "checker", "LOptimumHouse$Checker;", true)
  | 5 => ("OptimumHouse", "model", "LOptimumHouse$Model;", false)
  | 6 => ("OptimumHouse", "spare", "LOptimumHouse$Model;", false)
  | 7 => ("OptimumHouse", "hasModel", "Z", false)
  | 8 => ("OptimumHouse", "begun", "Z", false)
  | 9 => ("OptimumHouse", "faultKind", "I", false)
  | _ => ("OptimumHouse", "faultPlace", "I", false)
def tyX11 : Nat → FieldType := fun k => match k with
  | 0 => .object "OptimumHouse$Text"
  | 1 => .object "OptimumHouse$Text"
  | 2 => .object "OptimumHouse$Teller"
  | 3 => .object "OptimumHouse$Search"
  | 4 => .object "OptimumHouse$Checker"
  | 5 => .object "OptimumHouse$Model"
  | 6 => .object "OptimumHouse$Model"
  | 7 => .boolean
  | 8 => .boolean
  | 9 => .int
  | _ => .int
abbrev wsX110 : List Cond := u_ws RX11 TX11 11
theorem nmX11 : ∀ a, a < 11 → ∀ b, b < 11 → a ≠ b → (TX11 a).2.1 ≠ (TX11 b).2.1 := by decide +kernel
theorem tyX11_ok : ∀ k, k < 11 → parseFieldDescriptor (TX11 k).2.2.1 = some (tyX11 k) := by decide +kernel
abbrev cX11_init : ByteArray := prog_1_method_1_code
def yX11_init : MethodName := ⟨RX11, "<init>", "()V"⟩
abbrev cX11_feed : ByteArray := prog_1_method_2_code
def yX11_feed : MethodName := ⟨RX11, "feed", "(IIIII)I"⟩
abbrev cX11_end : ByteArray := prog_1_method_3_code
def yX11_end : MethodName := ⟨RX11, "end", "(I)Z"⟩
abbrev cX11_tell : ByteArray := prog_1_method_4_code
def yX11_tell : MethodName := ⟨RX11, "tell", "()I"⟩
abbrev cX11_fault : ByteArray := prog_1_method_5_code
def yX11_fault : MethodName := ⟨RX11, "fault", "(I)I"⟩
abbrev cX11_size : ByteArray := prog_1_method_6_code
def yX11_size : MethodName := ⟨RX11, "size", "(I)I"⟩
abbrev cX11_coefficient : ByteArray := prog_1_method_7_code
def yX11_coefficient : MethodName := ⟨RX11, "coefficient", "(II)J"⟩
abbrev cX11_begin : ByteArray := prog_1_method_8_code
def yX11_begin : MethodName := ⟨RX11, "begin", "(I)Z"⟩
abbrev cX11_work : ByteArray := prog_1_method_9_code
def yX11_work : MethodName := ⟨RX11, "work", "(I)I"⟩
abbrev cX11_look : ByteArray := prog_1_method_10_code
def yX11_look : MethodName := ⟨RX11, "look", "(I)I"⟩
abbrev cX11_place : ByteArray := prog_1_method_11_code
def yX11_place : MethodName := ⟨RX11, "place", "(I)I"⟩
abbrev cX11_entry : ByteArray := prog_1_method_12_code
def yX11_entry : MethodName := ⟨RX11, "entry", "(III)I"⟩
abbrev cX11_told : ByteArray := prog_1_method_13_code
def yX11_told : MethodName := ⟨RX11, "told", "(II)I"⟩
abbrev cX11_proof : ByteArray := prog_1_method_14_code
def yX11_proof : MethodName := ⟨RX11, "proof", "(I)I"⟩
abbrev cX11_check : ByteArray := prog_1_method_15_code
def yX11_check : MethodName := ⟨RX11, "check", "()I"⟩
def RX12 : String := "OptimumHouseModel"
def TX12 : u_T := fun k => match k with
  | 0 => ("OptimumHouseModel", "tape", "[B", true)
  | 1 => ("OptimumHouseModel", "taped", "I", false)
  | 2 => ("OptimumHouseModel", "left", "[I", true)
  | 3 => ("OptimumHouseModel", "great", "[I", true)
  | 4 => ("OptimumHouseModel", "one", "[I", true)
  | 5 => ("OptimumHouseModel", "letters", "[B", true)
  | 6 => ("OptimumHouseModel", "lettered", "I", false)
  | 7 => ("OptimumHouseModel", "one1", "[I", true)
  | 8 => ("OptimumHouseModel", "one2", "[I", true)
  | 9 => ("OptimumHouseModel", "one3", "[I", true)
  | 10 => ("OptimumHouseModel", "rest", "[I", true)
  | 11 => ("OptimumHouseModel", "fore", "[I", true)
  | 12 => ("OptimumHouseModel", "aft", "[I", true)
  | 13 => ("OptimumHouseModel", "text", "[B", true)
  | 14 => ("OptimumHouseModel", "size", "I", false)
  | 15 => ("OptimumHouseModel", "kind", "[I", true)
  | 16 => ("OptimumHouseModel", "from", "[I", true)
  | 17 => ("OptimumHouseModel", "wide", "[I", true)
  | 18 => ("OptimumHouseModel", "value", "[I", true)
  | 19 => ("OptimumHouseModel", "tokens", "I", false)
  | 20 => ("OptimumHouseModel", "fault", "I", false)
  | 21 => ("OptimumHouseModel", "place", "I", false)
  | 22 => ("OptimumHouseModel", "faultTold", "I", false)
  | 23 => ("OptimumHouseModel", "placeTold", "I", false)
  | 24 => ("OptimumHouseModel", "cursor", "I", false)
  | 25 => ("OptimumHouseModel", "names", "I", false)
  | 26 => ("OptimumHouseModel", "nameToken", "[I", true)
  | 27 => ("OptimumHouseModel", "nameSort", "[I", true)
  | 28 => ("OptimumHouseModel", "nameOne", "[I", true)
  | 29 => ("OptimumHouseModel", "nameTwo", "[I", true)
  | 30 => ("OptimumHouseModel", "nameFirst", "[I", true)
  | 31 => ("OptimumHouseModel", "parValues", "[I", true)
  | 32 => ("OptimumHouseModel", "parMany", "I", false)
  | 33 => ("OptimumHouseModel", "sets", "I", false)
  | 34 => ("OptimumHouseModel", "pars", "I", false)
  | 35 => ("OptimumHouseModel", "newN", "I", false)
  | 36 => ("OptimumHouseModel", "newM", "I", false)
  | 37 => ("OptimumHouseModel", "newWhole", "[Z", true)
  | 38 => ("OptimumHouseModel", "newRows", "[J", true)
  | 39 => ("OptimumHouseModel", "newGoal", "[J", true)
  | 40 => ("OptimumHouseModel", "newMax", "Z", false)
  | 41 => ("OptimumHouseModel", "form", "[J", true)
  | 42 => ("OptimumHouseModel", "looked", "I", false)
  | 43 => ("OptimumHouseModel", "indexMany", "I", false)
  | 44 => ("OptimumHouseModel", "indexIs", "[I", true)
  | 45 => ("OptimumHouseModel", "any", "Z", false)
  | 46 => ("OptimumHouseModel", "n", "I", false)
  | 47 => ("OptimumHouseModel", "m", "I", false)
  | 48 => ("OptimumHouseModel", "wholes", "I", false)
  | 49 => ("OptimumHouseModel", "isMax", "Z", false)
  | 50 => ("OptimumHouseModel", "whole", "[Z", true)
  | 51 => ("OptimumHouseModel", "goal", "[J", true)
  | 52 => ("OptimumHouseModel", "rows", "[I", true)
  | 53 => ("OptimumHouseModel", "dictionary", "[I", true)
  | 54 => ("OptimumHouseModel", "fresh", "[I", true)
  | 55 => ("OptimumHouseModel", "denominator", "[I", true)
  | 56 => ("OptimumHouseModel", "basic", "[I", true)
  | 57 => ("OptimumHouseModel", "others", "[I", true)
  | 58 => ("OptimumHouseModel", "placed", "I", false)
  | 59 => ("OptimumHouseModel", "places", "I", false)
  | 60 => ("OptimumHouseModel", "hasW", "Z", false)
  | 61 => ("OptimumHouseModel", "state", "I", false)
  | 62 => ("OptimumHouseModel", "stage", "I", false)
  | 63 => ("OptimumHouseModel", "nodeRows", "I", false)
  | 64 => ("OptimumHouseModel", "pivots", "I", false)
  | 65 => ("OptimumHouseModel", "nodes", "I", false)
  | 66 => ("OptimumHouseModel", "bests", "I", false)
  | 67 => ("OptimumHouseModel", "cutsMade", "I", false)
  | 68 => ("OptimumHouseModel", "allowed", "I", false)
  | 69 => ("OptimumHouseModel", "pathCuts", "I", false)
  | 70 => ("OptimumHouseModel", "ready", "Z", false)
  | 71 => ("OptimumHouseModel", "pivotRow", "I", false)
  | 72 => ("OptimumHouseModel", "pivotColumn", "I", false)
  | 73 => ("OptimumHouseModel", "kept", "[I", true)
  | 74 => ("OptimumHouseModel", "keptD", "[I", true)
  | 75 => ("OptimumHouseModel", "keptBasic", "[I", true)
  | 76 => ("OptimumHouseModel", "keptOthers", "[I", true)
  | 77 => ("OptimumHouseModel", "keptShape", "[I", true)
  | 78 => ("OptimumHouseModel", "pending", "I", false)
  | 79 => ("OptimumHouseModel", "hasBest", "Z", false)
  | 80 => ("OptimumHouseModel", "bestValue", "[I", true)
  | 81 => ("OptimumHouseModel", "bestD", "[I", true)
  | 82 => ("OptimumHouseModel", "best", "[I", true)
  | 83 => ("OptimumHouseModel", "tree", "[B", true)
  | 84 => ("OptimumHouseModel", "treeSize", "I", false)
  | 85 => ("OptimumHouseModel", "proof", "[B", true)
  | 86 => ("OptimumHouseModel", "proofSize", "I", false)
  | 87 => ("OptimumHouseModel", "small", "[I", true)
  | 88 => ("OptimumHouseModel", "multipliers", "[I", true)
  | 89 => ("OptimumHouseModel", "wide1", "[I", true)
  | 90 => ("OptimumHouseModel", "lowest", "[I", true)
  | 91 => ("OptimumHouseModel", "rayPoint", "[I", true)
  | 92 => ("OptimumHouseModel", "naught", "[I", true)
  | 93 => ("OptimumHouseModel", "held", "[I", true)
  | 94 => ("OptimumHouseModel", "sums", "[I", true)
  | 95 => ("OptimumHouseModel", "point", "[I", true)
  | 96 => ("OptimumHouseModel", "upper", "[I", true)
  | 97 => ("OptimumHouseModel", "under", "[I", true)
  | 98 => ("OptimumHouseModel", "divisor", "[I", true)
  | 99 => ("OptimumHouseModel", "factor", "[I", true)
  | 100 => ("OptimumHouseModel", "heldRows", "I", false)
  | 101 => ("OptimumHouseModel", "modelRows", "[J", true)
  | 102 => ("OptimumHouseModel", "waitRows", "[I", true)
  | 103 => ("OptimumHouseModel", "waitK", "[I", true)
  | _ => ("OptimumHouseModel", "waitV", "[I", true)
def tyX12 : Nat → FieldType := fun k => match k with
  | 0 => .array .byte
  | 1 => .int
  | 2 => .array .int
  | 3 => .array .int
  | 4 => .array .int
  | 5 => .array .byte
  | 6 => .int
  | 7 => .array .int
  | 8 => .array .int
  | 9 => .array .int
  | 10 => .array .int
  | 11 => .array .int
  | 12 => .array .int
  | 13 => .array .byte
  | 14 => .int
  | 15 => .array .int
  | 16 => .array .int
  | 17 => .array .int
  | 18 => .array .int
  | 19 => .int
  | 20 => .int
  | 21 => .int
  | 22 => .int
  | 23 => .int
  | 24 => .int
  | 25 => .int
  | 26 => .array .int
  | 27 => .array .int
  | 28 => .array .int
  | 29 => .array .int
  | 30 => .array .int
  | 31 => .array .int
  | 32 => .int
  | 33 => .int
  | 34 => .int
  | 35 => .int
  | 36 => .int
  | 37 => .array .boolean
  | 38 => .array .long
  | 39 => .array .long
  | 40 => .boolean
  | 41 => .array .long
  | 42 => .int
  | 43 => .int
  | 44 => .array .int
  | 45 => .boolean
  | 46 => .int
  | 47 => .int
  | 48 => .int
  | 49 => .boolean
  | 50 => .array .boolean
  | 51 => .array .long
  | 52 => .array .int
  | 53 => .array .int
  | 54 => .array .int
  | 55 => .array .int
  | 56 => .array .int
  | 57 => .array .int
  | 58 => .int
  | 59 => .int
  | 60 => .boolean
  | 61 => .int
  | 62 => .int
  | 63 => .int
  | 64 => .int
  | 65 => .int
  | 66 => .int
  | 67 => .int
  | 68 => .int
  | 69 => .int
  | 70 => .boolean
  | 71 => .int
  | 72 => .int
  | 73 => .array .int
  | 74 => .array .int
  | 75 => .array .int
  | 76 => .array .int
  | 77 => .array .int
  | 78 => .int
  | 79 => .boolean
  | 80 => .array .int
  | 81 => .array .int
  | 82 => .array .int
  | 83 => .array .byte
  | 84 => .int
  | 85 => .array .byte
  | 86 => .int
  | 87 => .array .int
  | 88 => .array .int
  | 89 => .array .int
  | 90 => .array .int
  | 91 => .array .int
  | 92 => .array .int
  | 93 => .array .int
  | 94 => .array .int
  | 95 => .array .int
  | 96 => .array .int
  | 97 => .array .int
  | 98 => .array .int
  | 99 => .array .int
  | 100 => .int
  | 101 => .array .long
  | 102 => .array .int
  | 103 => .array .int
  | _ => .array .int
abbrev wsX120 : List Cond := u_ws RX12 TX12 105
theorem nmX12 : ∀ a, a < 105 → ∀ b, b < 105 → a ≠ b → (TX12 a).2.1 ≠ (TX12 b).2.1 := by decide +kernel
theorem tyX12_ok : ∀ k, k < 105 → parseFieldDescriptor (TX12 k).2.2.1 = some (tyX12 k) := by decide +kernel
abbrev cX12_init : ByteArray := prog_14_method_1_code
def yX12_init : MethodName := ⟨RX12, "<init>", "()V"⟩
abbrev cX12_lay : ByteArray := prog_14_method_3_code
def yX12_lay : MethodName := ⟨RX12, "lay", "(I)V"⟩
abbrev cX12_feed : ByteArray := prog_14_method_4_code
def yX12_feed : MethodName := ⟨RX12, "feed", "(IIIII)I"⟩
abbrev cX12_end : ByteArray := prog_14_method_5_code
def yX12_end : MethodName := ⟨RX12, "end", "(I)Z"⟩
abbrev cX12_limbs : ByteArray := prog_14_method_6_code
def yX12_limbs : MethodName := ⟨RX12, "limbs", "([II)I"⟩
abbrev cX12_sign : ByteArray := prog_14_method_7_code
def yX12_sign : MethodName := ⟨RX12, "sign", "([II)I"⟩
abbrev cX12_put : ByteArray := prog_14_method_8_code
def yX12_put : MethodName := ⟨RX12, "put", "([IIJ)V"⟩
abbrev cX12_copy : ByteArray := prog_14_method_9_code
def yX12_copy : MethodName := ⟨RX12, "copy", "([II[II)V"⟩
abbrev cX12_negate : ByteArray := prog_14_method_10_code
def yX12_negate : MethodName := ⟨RX12, "negate", "([II)V"⟩
abbrev cX12_against : ByteArray := prog_14_method_11_code
def yX12_against : MethodName := ⟨RX12, "against", "([II[II)I"⟩
abbrev cX12_compare : ByteArray := prog_14_method_12_code
def yX12_compare : MethodName := ⟨RX12, "compare", "([II[II)I"⟩
abbrev cX12_add : ByteArray := prog_14_method_13_code
def yX12_add : MethodName := ⟨RX12, "add", "([II[IIZ[II)V"⟩
abbrev cX12_multiply : ByteArray := prog_14_method_14_code
def yX12_multiply : MethodName := ⟨RX12, "multiply", "([II[II[II)V"⟩
abbrev cX12_divide : ByteArray := prog_14_method_15_code
def yX12_divide : MethodName := ⟨RX12, "divide", "([II[II[II[II)V"⟩
abbrev cX12_trim : ByteArray := prog_14_method_16_code
def yX12_trim : MethodName := ⟨RX12, "trim", "([IIII)V"⟩
abbrev cX12_longDivide : ByteArray := prog_14_method_17_code
def yX12_longDivide : MethodName := ⟨RX12, "longDivide", "([II[IIII[II)V"⟩
abbrev cX12_letter : ByteArray := prog_14_method_18_code
def yX12_letter : MethodName := ⟨RX12, "letter", "(I)V"⟩
abbrev cX12_spell : ByteArray := prog_14_method_19_code
def yX12_spell : MethodName := ⟨RX12, "spell", "([II)V"⟩
abbrev cX12_common : ByteArray := prog_14_method_20_code
def yX12_common : MethodName := ⟨RX12, "common", "([II[II)V"⟩
abbrev cX12_wrong : ByteArray := prog_14_method_21_code
def yX12_wrong : MethodName := ⟨RX12, "wrong", "(II)V"⟩
abbrev cX12_isLetter : ByteArray := prog_14_method_22_code
def yX12_isLetter : MethodName := ⟨RX12, "isLetter", "(I)Z"⟩
abbrev cX12_isDigit : ByteArray := prog_14_method_23_code
def yX12_isDigit : MethodName := ⟨RX12, "isDigit", "(I)Z"⟩
abbrev cX12_at : ByteArray := prog_14_method_24_code
def yX12_at : MethodName := ⟨RX12, "at", "(I)I"⟩
abbrev cX12_among : ByteArray := prog_14_method_25_code
def yX12_among : MethodName := ⟨RX12, "among", "(Ljava/lang/String;II)I"⟩
abbrev cX12_token : ByteArray := prog_14_method_26_code
def yX12_token : MethodName := ⟨RX12, "token", "(IIII)V"⟩
abbrev cX12_signAt : ByteArray := prog_14_method_27_code
def yX12_signAt : MethodName := ⟨RX12, "signAt", "(I)I"⟩
abbrev cX12_tokenize : ByteArray := prog_14_method_28_code
def yX12_tokenize : MethodName := ⟨RX12, "tokenize", "()V"⟩
abbrev cX12_isSign : ByteArray := prog_14_method_29_code
def yX12_isSign : MethodName := ⟨RX12, "isSign", "(I)Z"⟩
abbrev cX12_isWord : ByteArray := prog_14_method_30_code
def yX12_isWord : MethodName := ⟨RX12, "isWord", "(I)Z"⟩
abbrev cX12_want : ByteArray := prog_14_method_31_code
def yX12_want : MethodName := ⟨RX12, "want", "(I)V"⟩
abbrev cX12_wantKind : ByteArray := prog_14_method_32_code
def yX12_wantKind : MethodName := ⟨RX12, "wantKind", "(I)V"⟩
abbrev cX12_wantWord : ByteArray := prog_14_method_33_code
def yX12_wantWord : MethodName := ⟨RX12, "wantWord", "(I)V"⟩
abbrev cX12_indexes : ByteArray := prog_14_method_34_code
def yX12_indexes : MethodName := ⟨RX12, "indexes", "()V"⟩
abbrev cX12_read : ByteArray := prog_14_method_35_code
def yX12_read : MethodName := ⟨RX12, "read", "()V"⟩
abbrev cX12_told : ByteArray := prog_14_method_36_code
def yX12_told : MethodName := ⟨RX12, "told", "()V"⟩
abbrev cX12_valueRead : ByteArray := prog_14_method_37_code
def yX12_valueRead : MethodName := ⟨RX12, "valueRead", "()V"⟩
abbrev cX12_sumRead : ByteArray := prog_14_method_38_code
def yX12_sumRead : MethodName := ⟨RX12, "sumRead", "(I)V"⟩
abbrev cX12_productRead : ByteArray := prog_14_method_39_code
def yX12_productRead : MethodName := ⟨RX12, "productRead", "(I)V"⟩
abbrev cX12_factorRead : ByteArray := prog_14_method_40_code
def yX12_factorRead : MethodName := ⟨RX12, "factorRead", "(I)V"⟩
abbrev cX12_indexRead : ByteArray := prog_14_method_41_code
def yX12_indexRead : MethodName := ⟨RX12, "indexRead", "()V"⟩
abbrev cX12_find : ByteArray := prog_14_method_42_code
def yX12_find : MethodName := ⟨RX12, "find", "(I)I"⟩
abbrev cX12_add_ : ByteArray := prog_14_method_43_code
def yX12_add_ : MethodName := ⟨RX12, "add", "(II)I"⟩
abbrev cX12_setHere : ByteArray := prog_14_method_44_code
def yX12_setHere : MethodName := ⟨RX12, "setHere", "()I"⟩
abbrev cX12_sizeOf : ByteArray := prog_14_method_45_code
def yX12_sizeOf : MethodName := ⟨RX12, "sizeOf", "(I)I"⟩
abbrev cX12_indexesOf : ByteArray := prog_14_method_46_code
def yX12_indexesOf : MethodName := ⟨RX12, "indexesOf", "(I)V"⟩
abbrev cX12_tellAll : ByteArray := prog_14_method_47_code
def yX12_tellAll : MethodName := ⟨RX12, "tellAll", "()V"⟩
abbrev cX12_tellSet : ByteArray := prog_14_method_48_code
def yX12_tellSet : MethodName := ⟨RX12, "tellSet", "(I)V"⟩
abbrev cX12_tellPar : ByteArray := prog_14_method_49_code
def yX12_tellPar : MethodName := ⟨RX12, "tellPar", "(I)V"⟩
abbrev cX12_tellVar : ByteArray := prog_14_method_50_code
def yX12_tellVar : MethodName := ⟨RX12, "tellVar", "(I)V"⟩
abbrev cX12_tellRow : ByteArray := prog_14_method_51_code
def yX12_tellRow : MethodName := ⟨RX12, "tellRow", "()V"⟩
abbrev cX12_oneRow : ByteArray := prog_14_method_52_code
def yX12_oneRow : MethodName := ⟨RX12, "oneRow", "(I)V"⟩
abbrev cX12_isGreat : ByteArray := prog_14_method_53_code
def yX12_isGreat : MethodName := ⟨RX12, "isGreat", "(I)Z"⟩
abbrev cX12_hasVariables : ByteArray := prog_14_method_54_code
def yX12_hasVariables : MethodName := ⟨RX12, "hasVariables", "(I)Z"⟩
abbrev cX12_expression : ByteArray := prog_14_method_55_code
def yX12_expression : MethodName := ⟨RX12, "expression", "(I)V"⟩
abbrev cX12_product : ByteArray := prog_14_method_56_code
def yX12_product : MethodName := ⟨RX12, "product", "(I)V"⟩
abbrev cX12_constant : ByteArray := prog_14_method_57_code
def yX12_constant : MethodName := ⟨RX12, "constant", "(IJ)V"⟩
abbrev cX12_factor : ByteArray := prog_14_method_58_code
def yX12_factor : MethodName := ⟨RX12, "factor", "(I)V"⟩
abbrev cX12_sum : ByteArray := prog_14_method_59_code
def yX12_sum : MethodName := ⟨RX12, "sum", "(I)V"⟩
abbrev cX12_index : ByteArray := prog_14_method_60_code
def yX12_index : MethodName := ⟨RX12, "index", "()V"⟩
abbrev cX12_named : ByteArray := prog_14_method_61_code
def yX12_named : MethodName := ⟨RX12, "named", "(I)V"⟩
abbrev cX12_rowCell : ByteArray := prog_14_method_62_code
def yX12_rowCell : MethodName := ⟨RX12, "rowCell", "(II)I"⟩
abbrev cX12_tell : ByteArray := prog_14_method_63_code
def yX12_tell : MethodName := ⟨RX12, "tell", "()I"⟩
abbrev cX12_fault : ByteArray := prog_14_method_64_code
def yX12_fault : MethodName := ⟨RX12, "fault", "(I)I"⟩
abbrev cX12_size : ByteArray := prog_14_method_65_code
def yX12_size : MethodName := ⟨RX12, "size", "(I)I"⟩
abbrev cX12_coefficient : ByteArray := prog_14_method_66_code
def yX12_coefficient : MethodName := ⟨RX12, "coefficient", "(II)J"⟩
abbrev cX12_cell : ByteArray := prog_14_method_67_code
def yX12_cell : MethodName := ⟨RX12, "cell", "(II)I"⟩
abbrev cX12_begin : ByteArray := prog_14_method_68_code
def yX12_begin : MethodName := ⟨RX12, "begin", "(I)Z"⟩
abbrev cX12_pivot : ByteArray := prog_14_method_69_code
def yX12_pivot : MethodName := ⟨RX12, "pivot", "(II)Z"⟩
abbrev cX12_across : ByteArray := prog_14_method_70_code
def yX12_across : MethodName := ⟨RX12, "across", "(IIIIIIZ)Z"⟩
abbrev cX12_ratio : ByteArray := prog_14_method_71_code
def yX12_ratio : MethodName := ⟨RX12, "ratio", "(IIII)I"⟩
abbrev cX12_stepUp : ByteArray := prog_14_method_72_code
def yX12_stepUp : MethodName := ⟨RX12, "stepUp", "(I)I"⟩
abbrev cX12_stepDown : ByteArray := prog_14_method_73_code
def yX12_stepDown : MethodName := ⟨RX12, "stepDown", "()I"⟩
abbrev cX12_work : ByteArray := prog_14_method_74_code
def yX12_work : MethodName := ⟨RX12, "work", "(I)I"⟩
abbrev cX12_goOn : ByteArray := prog_14_method_75_code
def yX12_goOn : MethodName := ⟨RX12, "goOn", "()V"⟩
abbrev cX12_outOfBasis : ByteArray := prog_14_method_76_code
def yX12_outOfBasis : MethodName := ⟨RX12, "outOfBasis", "()Z"⟩
abbrev cX12_dropPlace : ByteArray := prog_14_method_77_code
def yX12_dropPlace : MethodName := ⟨RX12, "dropPlace", "()V"⟩
abbrev cX12_write : ByteArray := prog_14_method_78_code
def yX12_write : MethodName := ⟨RX12, "write", "(Ljava/lang/String;)V"⟩
abbrev cX12_writeNumber : ByteArray := prog_14_method_79_code
def yX12_writeNumber : MethodName := ⟨RX12, "writeNumber", "([II)V"⟩
abbrev cX12_writeSmall : ByteArray := prog_14_method_80_code
def yX12_writeSmall : MethodName := ⟨RX12, "writeSmall", "(J)V"⟩
abbrev cX12_clearMultipliers : ByteArray := prog_14_method_81_code
def yX12_clearMultipliers : MethodName := ⟨RX12, "clearMultipliers", "()V"⟩
abbrev cX12_multipliersOf : ByteArray := prog_14_method_82_code
def yX12_multipliersOf : MethodName := ⟨RX12, "multipliersOf", "(I)V"⟩
abbrev cX12_writePairs : ByteArray := prog_14_method_83_code
def yX12_writePairs : MethodName := ⟨RX12, "writePairs", "(Ljava/lang/String;)V"⟩
abbrev cX12_leafFarkas : ByteArray := prog_14_method_84_code
def yX12_leafFarkas : MethodName := ⟨RX12, "leafFarkas", "(II)V"⟩
abbrev cX12_leafBound : ByteArray := prog_14_method_85_code
def yX12_leafBound : MethodName := ⟨RX12, "leafBound", "()V"⟩
abbrev cX12_isWholeGoal : ByteArray := prog_14_method_86_code
def yX12_isWholeGoal : MethodName := ⟨RX12, "isWholeGoal", "()Z"⟩
abbrev cX12_isNoBetter : ByteArray := prog_14_method_87_code
def yX12_isNoBetter : MethodName := ⟨RX12, "isNoBetter", "()Z"⟩
abbrev cX12_evaluate : ByteArray := prog_14_method_88_code
def yX12_evaluate : MethodName := ⟨RX12, "evaluate", "()V"⟩
abbrev cX12_takeBest : ByteArray := prog_14_method_89_code
def yX12_takeBest : MethodName := ⟨RX12, "takeBest", "()V"⟩
abbrev cX12_mayBegin : ByteArray := prog_14_method_90_code
def yX12_mayBegin : MethodName := ⟨RX12, "mayBegin", "()Z"⟩
abbrev cX12_asLong : ByteArray := prog_14_method_91_code
def yX12_asLong : MethodName := ⟨RX12, "asLong", "([II)J"⟩
abbrev cX12_cut : ByteArray := prog_14_method_92_code
def yX12_cut : MethodName := ⟨RX12, "cut", "(I)V"⟩
abbrev cX12_childRow : ByteArray := prog_14_method_93_code
def yX12_childRow : MethodName := ⟨RX12, "childRow", "(IZ)V"⟩
abbrev cX12_branch : ByteArray := prog_14_method_94_code
def yX12_branch : MethodName := ⟨RX12, "branch", "(I)V"⟩
abbrev cX12_leafDone : ByteArray := prog_14_method_95_code
def yX12_leafDone : MethodName := ⟨RX12, "leafDone", "()V"⟩
abbrev cX12_say : ByteArray := prog_14_method_96_code
def yX12_say : MethodName := ⟨RX12, "say", "(Ljava/lang/String;)V"⟩
abbrev cX12_sayLetters : ByteArray := prog_14_method_97_code
def yX12_sayLetters : MethodName := ⟨RX12, "sayLetters", "()V"⟩
abbrev cX12_sayPoint : ByteArray := prog_14_method_98_code
def yX12_sayPoint : MethodName := ⟨RX12, "sayPoint", "([II[II)V"⟩
abbrev cX12_lower : ByteArray := prog_14_method_99_code
def yX12_lower : MethodName := ⟨RX12, "lower", "([II[II)V"⟩
abbrev cX12_finish : ByteArray := prog_14_method_100_code
def yX12_finish : MethodName := ⟨RX12, "finish", "()V"⟩
abbrev cX12_ray : ByteArray := prog_14_method_101_code
def yX12_ray : MethodName := ⟨RX12, "ray", "()V"⟩
abbrev cX12_look : ByteArray := prog_14_method_102_code
def yX12_look : MethodName := ⟨RX12, "look", "(I)I"⟩
abbrev cX12_place : ByteArray := prog_14_method_103_code
def yX12_place : MethodName := ⟨RX12, "place", "(I)I"⟩
abbrev cX12_letterAt : ByteArray := prog_14_method_104_code
def yX12_letterAt : MethodName := ⟨RX12, "letterAt", "(I)I"⟩
abbrev cX12_entry : ByteArray := prog_14_method_105_code
def yX12_entry : MethodName := ⟨RX12, "entry", "(III)I"⟩
abbrev cX12_told_ : ByteArray := prog_14_method_106_code
def yX12_told_ : MethodName := ⟨RX12, "told", "(II)I"⟩
abbrev cX12_proof : ByteArray := prog_14_method_107_code
def yX12_proof : MethodName := ⟨RX12, "proof", "(I)I"⟩
abbrev cX12_tokenizeProof : ByteArray := prog_14_method_108_code
def yX12_tokenizeProof : MethodName := ⟨RX12, "tokenizeProof", "()V"⟩
abbrev cX12_wantAbove : ByteArray := prog_14_method_109_code
def yX12_wantAbove : MethodName := ⟨RX12, "wantAbove", "()V"⟩
abbrev cX12_pointRead : ByteArray := prog_14_method_110_code
def yX12_pointRead : MethodName := ⟨RX12, "pointRead", "()V"⟩
abbrev cX12_proofRead : ByteArray := prog_14_method_111_code
def yX12_proofRead : MethodName := ⟨RX12, "proofRead", "()V"⟩
abbrev cX12_treesRead : ByteArray := prog_14_method_112_code
def yX12_treesRead : MethodName := ⟨RX12, "treesRead", "()V"⟩
abbrev cX12_numberAt : ByteArray := prog_14_method_113_code
def yX12_numberAt : MethodName := ⟨RX12, "numberAt", "(I[II)V"⟩
abbrev cX12_heldCell : ByteArray := prog_14_method_114_code
def yX12_heldCell : MethodName := ⟨RX12, "heldCell", "(II)I"⟩
abbrev cX12_pointHere : ByteArray := prog_14_method_115_code
def yX12_pointHere : MethodName := ⟨RX12, "pointHere", "()V"⟩
abbrev cX12_along : ByteArray := prog_14_method_116_code
def yX12_along : MethodName := ⟨RX12, "along", "(I)V"⟩
abbrev cX12_isPoint : ByteArray := prog_14_method_117_code
def yX12_isPoint : MethodName := ⟨RX12, "isPoint", "(Z)Z"⟩
abbrev cX12_isValue : ByteArray := prog_14_method_118_code
def yX12_isValue : MethodName := ⟨RX12, "isValue", "()Z"⟩
abbrev cX12_isAlong : ByteArray := prog_14_method_119_code
def yX12_isAlong : MethodName := ⟨RX12, "isAlong", "()Z"⟩
abbrev cX12_check : ByteArray := prog_14_method_120_code
def yX12_check : MethodName := ⟨RX12, "check", "()I"⟩
abbrev cX12_holds : ByteArray := prog_14_method_121_code
def yX12_holds : MethodName := ⟨RX12, "holds", "()V"⟩
abbrev cX12_trees : ByteArray := prog_14_method_122_code
def yX12_trees : MethodName := ⟨RX12, "trees", "(Z)V"⟩
abbrev cX12_variableAt : ByteArray := prog_14_method_123_code
def yX12_variableAt : MethodName := ⟨RX12, "variableAt", "(I)I"⟩
abbrev cX12_branchRow : ByteArray := prog_14_method_124_code
def yX12_branchRow : MethodName := ⟨RX12, "branchRow", "(IIZ)V"⟩
abbrev cX12_pairs : ByteArray := prog_14_method_125_code
def yX12_pairs : MethodName := ⟨RX12, "pairs", "()Z"⟩
abbrev cX12_isLong : ByteArray := prog_14_method_126_code
def yX12_isLong : MethodName := ⟨RX12, "isLong", "([II)Z"⟩
abbrev cX12_cutRow : ByteArray := prog_14_method_127_code
def yX12_cutRow : MethodName := ⟨RX12, "cutRow", "()Z"⟩
abbrev cX12_isBound : ByteArray := prog_14_method_128_code
def yX12_isBound : MethodName := ⟨RX12, "isBound", "()Z"⟩
abbrev cX12_isFarkas : ByteArray := prog_14_method_129_code
def yX12_isFarkas : MethodName := ⟨RX12, "isFarkas", "()Z"⟩
def RJ11 : String := "java/lang/Character"
def TJ11 : u_T := fun k => match k with
  | _ => ("", "", "", false)
def tyJ11 : Nat → FieldType := fun k => match k with
  | _ => .int
abbrev wsJ110 : List Cond := u_ws RJ11 TJ11 0
theorem nmJ11 : ∀ a, a < 0 → ∀ b, b < 0 → a ≠ b → (TJ11 a).2.1 ≠ (TJ11 b).2.1 := by decide +kernel
theorem tyJ11_ok : ∀ k, k < 0 → parseFieldDescriptor (TJ11 k).2.2.1 = some (tyJ11 k) := by decide +kernel
abbrev cJ11_isValidCodePoint_9a6ad : ByteArray := prog_15_method_11_code
def yJ11_isValidCodePoint_9a6ad : MethodName := ⟨RJ11, "isValidCodePoint", "(I)Z"⟩
abbrev cJ11_highSurrogate_5068e : ByteArray := prog_15_method_28_code
def yJ11_highSurrogate_5068e : MethodName := ⟨RJ11, "highSurrogate", "(I)C"⟩
abbrev cJ11_lowSurrogate_5068e : ByteArray := prog_15_method_29_code
def yJ11_lowSurrogate_5068e : MethodName := ⟨RJ11, "lowSurrogate", "(I)C"⟩
def RJ6 : String := "java/lang/Integer"
def TJ6 : u_T := fun k => match k with
  | _ => ("", "", "", false)
def tyJ6 : Nat → FieldType := fun k => match k with
  | _ => .int
abbrev wsJ60 : List Cond := u_ws RJ6 TJ6 0
theorem nmJ6 : ∀ a, a < 0 → ∀ b, b < 0 → a ≠ b → (TJ6 a).2.1 ≠ (TJ6 b).2.1 := by decide +kernel
theorem tyJ6_ok : ∀ k, k < 0 → parseFieldDescriptor (TJ6 k).2.2.1 = some (tyJ6 k) := by decide +kernel
abbrev cJ6_compare_7cf53 : ByteArray := prog_16_method_40_code
def yJ6_compare_7cf53 : MethodName := ⟨RJ6, "compare", "(II)I"⟩
abbrev cJ6_signum_0f7a4 : ByteArray := prog_16_method_56_code
def yJ6_signum_0f7a4 : MethodName := ⟨RJ6, "signum", "(I)I"⟩
def RJ13 : String := "java/lang/Long"
def TJ13 : u_T := fun k => match k with
  | _ => ("", "", "", false)
def tyJ13 : Nat → FieldType := fun k => match k with
  | _ => .int
abbrev wsJ130 : List Cond := u_ws RJ13 TJ13 0
theorem nmJ13 : ∀ a, a < 0 → ∀ b, b < 0 → a ≠ b → (TJ13 a).2.1 ≠ (TJ13 b).2.1 := by decide +kernel
theorem tyJ13_ok : ∀ k, k < 0 → parseFieldDescriptor (TJ13 k).2.2.1 = some (tyJ13 k) := by decide +kernel
abbrev cJ13_compare_74951 : ByteArray := prog_17_method_42_code
def yJ13_compare_74951 : MethodName := ⟨RJ13, "compare", "(JJ)I"⟩
abbrev cJ13_signum_95d88 : ByteArray := prog_17_method_57_code
def yJ13_signum_95d88 : MethodName := ⟨RJ13, "signum", "(J)I"⟩
def RJ9 : String := "java/lang/Math"
def TJ9 : u_T := fun k => match k with
  | _ => ("", "", "", false)
def tyJ9 : Nat → FieldType := fun k => match k with
  | _ => .int
abbrev wsJ90 : List Cond := u_ws RJ9 TJ9 0
theorem nmJ9 : ∀ a, a < 0 → ∀ b, b < 0 → a ≠ b → (TJ9 a).2.1 ≠ (TJ9 b).2.1 := by decide +kernel
theorem tyJ9_ok : ∀ k, k < 0 → parseFieldDescriptor (TJ9 k).2.2.1 = some (tyJ9 k) := by decide +kernel
abbrev cJ9_abs_0f7a4 : ByteArray := prog_18_method_59_code
def yJ9_abs_0f7a4 : MethodName := ⟨RJ9, "abs", "(I)I"⟩
abbrev cJ9_abs_067f4 : ByteArray := prog_18_method_61_code
def yJ9_abs_067f4 : MethodName := ⟨RJ9, "abs", "(J)J"⟩
abbrev cJ9_max_7cf53 : ByteArray := prog_18_method_65_code
def yJ9_max_7cf53 : MethodName := ⟨RJ9, "max", "(II)I"⟩
abbrev cJ9_min_7cf53 : ByteArray := prog_18_method_69_code
def yJ9_min_7cf53 : MethodName := ⟨RJ9, "min", "(II)I"⟩
abbrev cJ9_min_f86c9 : ByteArray := prog_18_method_70_code
def yJ9_min_f86c9 : MethodName := ⟨RJ9, "min", "(JJ)J"⟩
def RJ0 : String := "java/lang/String"
def TJ0 : u_T := fun k => match k with
  | _ => ("", "", "", false)
def tyJ0 : Nat → FieldType := fun k => match k with
  | _ => .int
abbrev wsJ00 : List Cond := u_ws RJ0 TJ0 0
theorem nmJ0 : ∀ a, a < 0 → ∀ b, b < 0 → a ≠ b → (TJ0 a).2.1 ≠ (TJ0 b).2.1 := by decide +kernel
theorem tyJ0_ok : ∀ k, k < 0 → parseFieldDescriptor (TJ0 k).2.2.1 = some (tyJ0 k) := by decide +kernel
abbrev cJ0_length_8abf5 : ByteArray := prog_19_method_54_code
def yJ0_length_8abf5 : MethodName := ⟨RJ0, "length", "()I"⟩
abbrev cJ0_charAt_5068e : ByteArray := prog_19_method_56_code
def yJ0_charAt_5068e : MethodName := ⟨RJ0, "charAt", "(I)C"⟩
abbrev cJ0_indexOf_0f7a4 : ByteArray := prog_19_method_79_code
def yJ0_indexOf_0f7a4 : MethodName := ⟨RJ0, "indexOf", "(I)I"⟩
abbrev cJ0_indexOf_7cf53 : ByteArray := prog_19_method_80_code
def yJ0_indexOf_7cf53 : MethodName := ⟨RJ0, "indexOf", "(II)I"⟩
abbrev cJ0_coder_7d493 : ByteArray := prog_19_method_152_code
def yJ0_coder_7d493 : MethodName := ⟨RJ0, "coder", "()B"⟩
abbrev cJ0_isLatin1_aae02 : ByteArray := prog_19_method_154_code
def yJ0_isLatin1_aae02 : MethodName := ⟨RJ0, "isLatin1", "()Z"⟩
abbrev cJ0_checkIndex_df160 : ByteArray := prog_19_method_155_code
def yJ0_checkIndex_df160 : MethodName := ⟨RJ0, "checkIndex", "(II)V"⟩
abbrev cJ0_checkBoundsBeginEnd_23922 : ByteArray := prog_19_method_158_code
def yJ0_checkBoundsBeginEnd_23922 : MethodName := ⟨RJ0, "checkBoundsBeginEnd", "(III)V"⟩
def RJ1 : String := "java/lang/StringLatin1"
def TJ1 : u_T := fun k => match k with
  | _ => ("", "", "", false)
def tyJ1 : Nat → FieldType := fun k => match k with
  | _ => .int
abbrev wsJ10 : List Cond := u_ws RJ1 TJ1 0
theorem nmJ1 : ∀ a, a < 0 → ∀ b, b < 0 → a ≠ b → (TJ1 a).2.1 ≠ (TJ1 b).2.1 := by decide +kernel
theorem tyJ1_ok : ∀ k, k < 0 → parseFieldDescriptor (TJ1 k).2.2.1 = some (tyJ1 k) := by decide +kernel
abbrev cJ1_charAt_3b067 : ByteArray := prog_20_method_2_code
def yJ1_charAt_3b067 : MethodName := ⟨RJ1, "charAt", "([BI)C"⟩
abbrev cJ1_canEncode_9a6ad : ByteArray := prog_20_method_4_code
def yJ1_canEncode_9a6ad : MethodName := ⟨RJ1, "canEncode", "(I)Z"⟩
abbrev cJ1_indexOf_4cfef : ByteArray := prog_20_method_22_code
def yJ1_indexOf_4cfef : MethodName := ⟨RJ1, "indexOf", "([BIII)I"⟩
abbrev cJ1_indexOfChar_4cfef : ByteArray := prog_20_method_23_code
def yJ1_indexOfChar_4cfef : MethodName := ⟨RJ1, "indexOfChar", "([BIII)I"⟩
def RJ2 : String := "java/lang/StringUTF16"
def TJ2 : u_T := fun k => match k with
  | _ => ("", "", "", false)
def tyJ2 : Nat → FieldType := fun k => match k with
  | _ => .int
abbrev wsJ20 : List Cond := u_ws RJ2 TJ2 0
theorem nmJ2 : ∀ a, a < 0 → ∀ b, b < 0 → a ≠ b → (TJ2 a).2.1 ≠ (TJ2 b).2.1 := by decide +kernel
theorem tyJ2_ok : ∀ k, k < 0 → parseFieldDescriptor (TJ2 k).2.2.1 = some (tyJ2 k) := by decide +kernel
abbrev cJ2_getChar_3b067 : ByteArray := prog_21_method_5_code
def yJ2_getChar_3b067 : MethodName := ⟨RJ2, "getChar", "([BI)C"⟩
abbrev cJ2_length_9d52b : ByteArray := prog_21_method_6_code
def yJ2_length_9d52b : MethodName := ⟨RJ2, "length", "([B)I"⟩
abbrev cJ2_indexOf_4cfef : ByteArray := prog_21_method_40_code
def yJ2_indexOf_4cfef : MethodName := ⟨RJ2, "indexOf", "([BIII)I"⟩
abbrev cJ2_indexOfChar_4cfef : ByteArray := prog_21_method_47_code
def yJ2_indexOfChar_4cfef : MethodName := ⟨RJ2, "indexOfChar", "([BIII)I"⟩
abbrev cJ2_indexOfCharUnsafe_4cfef : ByteArray := prog_21_method_48_code
def yJ2_indexOfCharUnsafe_4cfef : MethodName := ⟨RJ2, "indexOfCharUnsafe", "([BIII)I"⟩
abbrev cJ2_indexOfSupplementary_4cfef : ByteArray := prog_21_method_49_code
def yJ2_indexOfSupplementary_4cfef : MethodName := ⟨RJ2, "indexOfSupplementary", "([BIII)I"⟩
abbrev cJ2_charAt_3b067 : ByteArray := prog_21_method_83_code
def yJ2_charAt_3b067 : MethodName := ⟨RJ2, "charAt", "([BI)C"⟩
abbrev cJ2_checkIndex_2214a : ByteArray := prog_21_method_91_code
def yJ2_checkIndex_2214a : MethodName := ⟨RJ2, "checkIndex", "(I[B)V"⟩
abbrev cJ2_checkBoundsBeginEnd_d044e : ByteArray := prog_21_method_93_code
def yJ2_checkBoundsBeginEnd_d044e : MethodName := ⟨RJ2, "checkBoundsBeginEnd", "(II[B)V"⟩
def RJ10 : String := "java/lang/System"
def TJ10 : u_T := fun k => match k with
  | _ => ("", "", "", false)
def tyJ10 : Nat → FieldType := fun k => match k with
  | _ => .int
abbrev wsJ100 : List Cond := u_ws RJ10 TJ10 0
theorem nmJ10 : ∀ a, a < 0 → ∀ b, b < 0 → a ≠ b → (TJ10 a).2.1 ≠ (TJ10 b).2.1 := by decide +kernel
theorem tyJ10_ok : ∀ k, k < 0 → parseFieldDescriptor (TJ10 k).2.2.1 = some (tyJ10 k) := by decide +kernel
def RJ7 : String := "java/util/Arrays"
def TJ7 : u_T := fun k => match k with
  | _ => ("", "", "", false)
def tyJ7 : Nat → FieldType := fun k => match k with
  | _ => .int
abbrev wsJ70 : List Cond := u_ws RJ7 TJ7 0
theorem nmJ7 : ∀ a, a < 0 → ∀ b, b < 0 → a ≠ b → (TJ7 a).2.1 ≠ (TJ7 b).2.1 := by decide +kernel
theorem tyJ7_ok : ∀ k, k < 0 → parseFieldDescriptor (TJ7 k).2.2.1 = some (tyJ7 k) := by decide +kernel
abbrev cJ7_rangeCheck_23922 : ByteArray := prog_23_method_30_code
def yJ7_rangeCheck_23922 : MethodName := ⟨RJ7, "rangeCheck", "(III)V"⟩
abbrev cJ7_fill_d0a16 : ByteArray := prog_23_method_101_code
def yJ7_fill_d0a16 : MethodName := ⟨RJ7, "fill", "([JJ)V"⟩
abbrev cJ7_fill_fda19 : ByteArray := prog_23_method_104_code
def yJ7_fill_fda19 : MethodName := ⟨RJ7, "fill", "([IIII)V"⟩
def RJ3 : String := "jdk/internal/util/Preconditions"
def TJ3 : u_T := fun k => match k with
  | _ => ("", "", "", false)
def tyJ3 : Nat → FieldType := fun k => match k with
  | _ => .int
abbrev wsJ30 : List Cond := u_ws RJ3 TJ3 0
theorem nmJ3 : ∀ a, a < 0 → ∀ b, b < 0 → a ≠ b → (TJ3 a).2.1 ≠ (TJ3 b).2.1 := by decide +kernel
theorem tyJ3_ok : ∀ k, k < 0 → parseFieldDescriptor (TJ3 k).2.2.1 = some (tyJ3 k) := by decide +kernel
abbrev cJ3_checkIndex_8e157 : ByteArray := prog_24_method_11_code
def yJ3_checkIndex_8e157 : MethodName := ⟨RJ3, "checkIndex", "(IILjava/util/function/BiFunction;)I"⟩
abbrev cJ3_checkFromToIndex_8c36e : ByteArray := prog_24_method_12_code
def yJ3_checkFromToIndex_8c36e : MethodName := ⟨RJ3, "checkFromToIndex", "(IIILjava/util/function/BiFunction;)I"⟩
def RL : String := "OptimumHouseLaw"
abbrev cL_law : ByteArray := code
def yL_law : MethodName := ⟨RL, "law", "([I)Z"⟩
abbrev vwCl : List vw_C := [(RX0, TX0, 3), (RX1, TX1, 18), (RX2, TX2, 20), (RX3, TX3, 5), (RX4, TX4, 4), (RX5, TX5, 10), (RX6, TX6, 10), (RX7, TX7, 17), (RX8, TX8, 5), (RX9, TX9, 17), (RX10, TX10, 3), (RX11, TX11, 11), (RX12, TX12, 105)]
def tyOf (ci : Nat) : Nat → FieldType := match ci with
  | 0 => tyX0
  | 1 => tyX1
  | 2 => tyX2
  | 3 => tyX3
  | 4 => tyX4
  | 5 => tyX5
  | 6 => tyX6
  | 7 => tyX7
  | 8 => tyX8
  | 9 => tyX9
  | 10 => tyX10
  | 11 => tyX11
  | _ => tyX12
def tauL : List (Nat ⊕ (FieldType × Nat)) := [.inl 11, .inl 10, .inr (.byte, 30000), .inl 10, .inr (.byte, 120), .inl 3, .inr (.int, 221), .inr (.boolean, 13), .inl 3, .inr (.int, 221), .inr (.boolean, 13), .inl 9, .inl 8, .inr (.int, 2001), .inr (.int, 2001), .inr (.long, 2001), .inr (.long, 128), .inr (.int, 768), .inr (.int, 1728), .inr (.array .long, 31), .inr (.long, 13), .inr (.long, 13), .inr (.long, 13), .inr (.long, 13), .inr (.long, 13), .inr (.long, 13), .inr (.long, 13), .inr (.long, 13), .inr (.long, 13), .inr (.long, 13), .inr (.long, 13), .inr (.long, 13), .inr (.long, 13), .inr (.long, 13), .inr (.long, 13), .inr (.long, 13), .inr (.long, 13), .inr (.long, 13), .inr (.long, 13), .inr (.long, 13), .inr (.long, 13), .inr (.long, 13), .inr (.long, 13), .inr (.long, 13), .inr (.long, 13), .inr (.long, 13), .inr (.long, 13), .inr (.long, 13), .inr (.long, 13), .inr (.long, 13), .inr (.long, 13), .inr (.array .long, 31), .inr (.long, 13), .inr (.long, 13), .inr (.long, 13), .inr (.long, 13), .inr (.long, 13), .inr (.long, 13), .inr (.long, 13), .inr (.long, 13), .inr (.long, 13), .inr (.long, 13), .inr (.long, 13), .inr (.long, 13), .inr (.long, 13), .inr (.long, 13), .inr (.long, 13), .inr (.long, 13), .inr (.long, 13), .inr (.long, 13), .inr (.long, 13), .inr (.long, 13), .inr (.long, 13), .inr (.long, 13), .inr (.long, 13), .inr (.long, 13), .inr (.long, 13), .inr (.long, 13), .inr (.long, 13), .inr (.long, 13), .inr (.long, 13), .inr (.long, 13), .inr (.long, 13), .inr (.array .long, 31), .inr (.long, 13), .inr (.long, 13), .inr (.long, 13), .inr (.long, 13), .inr (.long, 13), .inr (.long, 13), .inr (.long, 13), .inr (.long, 13), .inr (.long, 13), .inr (.long, 13), .inr (.long, 13), .inr (.long, 13), .inr (.long, 13), .inr (.long, 13), .inr (.long, 13), .inr (.long, 13), .inr (.long, 13), .inr (.long, 13), .inr (.long, 13), .inr (.long, 13), .inr (.long, 13), .inr (.long, 13), .inr (.long, 13), .inr (.long, 13), .inr (.long, 13), .inr (.long, 13), .inr (.long, 13), .inr (.long, 13), .inr (.long, 13), .inr (.long, 13), .inr (.long, 13), .inr (.long, 13), .inl 3, .inr (.int, 221), .inr (.boolean, 13), .inl 7, .inl 6, .inr (.int, 4264), .inr (.int, 328), .inl 0, .inr (.int, 32), .inl 0, .inr (.int, 32), .inl 0, .inr (.int, 32), .inl 0, .inr (.int, 32), .inl 0, .inr (.int, 32), .inl 0, .inr (.int, 32), .inl 2, .inr (.int, 4816), .inr (.int, 4816), .inr (.int, 41), .inr (.int, 14), .inr (.int, 102220), .inl 0, .inr (.int, 32), .inl 0, .inr (.int, 32), .inl 0, .inr (.int, 32), .inl 0, .inr (.int, 32), .inl 0, .inr (.int, 32), .inl 0, .inr (.int, 32), .inl 0, .inr (.int, 32), .inl 0, .inr (.int, 32), .inl 5, .inl 10, .inr (.byte, 1500), .inl 10, .inr (.byte, 30000), .inr (.int, 112), .inl 0, .inr (.int, 32), .inl 0, .inr (.int, 32), .inl 0, .inr (.int, 32), .inl 0, .inr (.int, 32), .inl 0, .inr (.int, 32), .inl 0, .inr (.int, 32), .inl 0, .inr (.int, 32), .inl 0, .inr (.int, 32), .inl 0, .inr (.int, 32), .inl 0, .inr (.int, 32), .inl 0, .inr (.int, 32), .inl 3, .inr (.int, 221), .inr (.boolean, 13), .inl 1, .inl 4, .inl 10, .inr (.byte, 0), .inr (.int, 30001), .inl 6, .inr (.int, 4264), .inr (.int, 328), .inl 0, .inr (.int, 32), .inl 0, .inr (.int, 32), .inl 0, .inr (.int, 32), .inl 0, .inr (.int, 32), .inl 0, .inr (.int, 32), .inl 0, .inr (.int, 32), .inr (.int, 104), .inl 0, .inr (.int, 32), .inl 0, .inr (.int, 32), .inl 0, .inr (.int, 32), .inl 0, .inr (.int, 32), .inl 0, .inr (.int, 32), .inl 0, .inr (.int, 32), .inl 0, .inr (.int, 32), .inl 0, .inr (.int, 32), .inr (.int, 41), .inr (.int, 41), .inr (.int, 328), .inl 3, .inr (.int, 221), .inr (.boolean, 13), .inl 12, .inr (.byte, 30000), .inr (.int, 66), .inr (.int, 66), .inr (.int, 4), .inr (.byte, 576), .inr (.int, 68), .inr (.int, 68), .inr (.int, 68), .inr (.int, 68), .inr (.int, 68), .inr (.int, 68), .inr (.byte, 30000), .inr (.int, 30004), .inr (.int, 30004), .inr (.int, 30004), .inr (.int, 30004), .inr (.int, 700), .inr (.int, 700), .inr (.int, 700), .inr (.int, 700), .inr (.int, 700), .inr (.int, 2100), .inr (.boolean, 13), .inr (.long, 247), .inr (.long, 13), .inr (.long, 1820), .inr (.int, 2), .inr (.boolean, 13), .inr (.long, 13), .inr (.int, 4368), .inr (.int, 5280), .inr (.int, 5280), .inr (.int, 8), .inr (.int, 44), .inr (.int, 15), .inr (.int, 216480), .inr (.int, 328), .inr (.int, 1804), .inr (.int, 615), .inr (.int, 205), .inr (.int, 8), .inr (.int, 8), .inr (.int, 104), .inr (.byte, 34000), .inr (.byte, 36000), .inr (.int, 4), .inr (.int, 336), .inr (.int, 68), .inr (.int, 68), .inr (.int, 104), .inr (.int, 4), .inr (.int, 5460), .inr (.int, 520), .inr (.int, 140), .inr (.int, 10), .inr (.int, 10), .inr (.int, 10), .inr (.int, 10), .inr (.long, 247), .inr (.int, 3002), .inr (.int, 3002), .inr (.int, 3002)]
def tau (k : Nat) : Nat ⊕ (FieldType × Nat) := tauL.getD k (.inl 0)
end
section
/-! The flat memory: places from b on in the order of their making; S = (ints, longs, references) by place and slot or index; tau = what a place is. -/
def tb : List Cond := lw_tbl.filter goodWord
theorem tb_in {w : Cond} (i : Nat) (h : lw_tbl[i]? = some w) (g : goodWord w = true) : w ∈ tb := List.mem_filter.mpr ⟨List.mem_of_getElem? h, g⟩
theorem tb_good : GoodIn tb tb := fun _ h => ⟨h, good_of_word (List.mem_filter.mp h).2⟩
def nst_is : Cond → Bool
  | .fieldLinkNest .. => true
  | .methodLinkNest .. => true
  | _ => false
def nst : List Cond := lw_tbl.filter nst_is
theorem nst_in {w : Cond} (i : Nat) (h : lw_tbl[i]? = some w) (g : nst_is w = true) : w ∈ nst := List.mem_filter.mpr ⟨List.mem_of_getElem? h, g⟩
def Nst (U : State) : Prop := ∀ w ∈ nst, va_Nw w U
theorem nst_on {w : Cond} (h : nst_is w = true) : w.onTables = true := by
  cases w <;> first | rfl | (simp [nst_is] at h)
theorem Nst.warm {s U : State} (hW : s.WarmedH U.vm) (h : Nst s) : Nst U := by
  intro w hw
  have h1 := h w hw
  have h2 := (List.mem_filter.mp hw).2
  cases w <;> first | exact va_Nw.warmF hW h1 | exact va_Nw.warmM hW h1 | (simp [nst_is] at h2)
theorem Nst.same {u U : State} (e : u.vm = U.vm) (h : Nst u) : Nst U := fun w hw => va_Nw.same (nst_on (List.mem_filter.mp hw).2) e (h w hw)
abbrev sT : Type := Nat ⊕ (FieldType × Nat)
abbrev sS : Type := (Nat → Nat → Int32) × (Nat → Nat → Int64) × (Nat → Nat → Value)
abbrev sG : Type := va_G × (FieldType → ClassId) × Nat × Heap
def sv (S : sS) (ty : FieldType) (k i : Nat) : Value := match ty with
  | .int => .int (S.1 k i)
  | .boolean => .int (S.1 k i)
  | .byte => .int (S.1 k i)
  | .long => .long (S.2.1 k i)
  | _ => S.2.2 k i
def sI (S : sS) (k i : Nat) (x : Int32) : sS := (fun a j => cond (Nat.beq a k && Nat.beq j i) x (S.1 a j), S.2.1, S.2.2)
def sJ (S : sS) (k i : Nat) (x : Int64) : sS := (S.1, fun a j => cond (Nat.beq a k && Nat.beq j i) x (S.2.1 a j), S.2.2)
def sR (S : sS) (k i : Nat) (x : Value) : sS := (S.1, S.2.1, fun a j => cond (Nat.beq a k && Nat.beq j i) x (S.2.2 a j))
def sOff (S S' : sS) (k i : Nat) : Prop := ∀ (ty : FieldType) (a j : Nat), ¬ (a = k ∧ j = i) → sv S' ty a j = sv S ty a j
theorem beq_off {a j k i : Nat} (h : ¬ (a = k ∧ j = i)) : (Nat.beq a k && Nat.beq j i) = false := by
  cases h1 : Nat.beq a k <;> cases h2 : Nat.beq j i <;> first | rfl | exact absurd ⟨Nat.eq_of_beq_eq_true h1, Nat.eq_of_beq_eq_true h2⟩ h
theorem beq_on {k i : Nat} : (Nat.beq k k && Nat.beq i i) = true := by rw [Nat.beq_refl, Nat.beq_refl]; rfl
theorem sI_off {S : sS} {k i : Nat} {x : Int32} : sOff S (sI S k i x) k i := fun ty a j h => by
  cases ty <;> simp [sv, sI, beq_off h]
theorem sJ_off {S : sS} {k i : Nat} {x : Int64} : sOff S (sJ S k i x) k i := fun ty a j h => by
  cases ty <;> simp [sv, sJ, beq_off h]
theorem sR_off {S : sS} {k i : Nat} {x : Value} : sOff S (sR S k i x) k i := fun ty a j h => by
  cases ty <;> simp [sv, sR, beq_off h]
theorem sI_on {S : sS} {k i : Nat} {x : Int32} : (sI S k i x).1 k i = x := by
  show cond (Nat.beq k k && Nat.beq i i) x _ = x
  rw [beq_on]; rfl
theorem sJ_on {S : sS} {k i : Nat} {x : Int64} : (sJ S k i x).2.1 k i = x := by
  show cond (Nat.beq k k && Nat.beq i i) x _ = x
  rw [beq_on]; rfl
theorem sR_on {S : sS} {k i : Nat} {x : Value} : (sR S k i x).2.2 k i = x := by
  show cond (Nat.beq k k && Nat.beq i i) x _ = x
  rw [beq_on]; rfl
theorem sI_ne {S : sS} {k i a j : Nat} {x : Int32} (h : ¬ (a = k ∧ j = i)) : (sI S k i x).1 a j = S.1 a j := by
  show cond (Nat.beq a k && Nat.beq j i) x _ = _
  rw [beq_off h]; rfl
theorem sR_ne {S : sS} {k i a j : Nat} {x : Value} (h : ¬ (a = k ∧ j = i)) : (sR S k i x).2.2 a j = S.2.2 a j := by
  show cond (Nat.beq a k && Nat.beq j i) x _ = _
  rw [beq_off h]; rfl
def sA (G : sG) (S : sS) (k : Nat) (t : sT) (H : Heap) : Prop := match t with
  | .inl ci => ∃ r : vw_C, vwCl[ci]? = some r ∧ t_OB (G.2.2.1 + k) (G.1.1 ci) r.2.2 (G.1.2 ci) H (fun i => sv S (tyOf ci i) k i)
  | .inr a => H[G.2.2.1 + k]? = some (arrV (G.2.1 a.1) a.2 (fun i => sv S a.1 k i))
/-- a place that is not made yet -/
def sZ (S : sS) (k : Nat) : Prop := (∀ i, S.1 k i = 0) ∧ (∀ i, S.2.1 k i = 0) ∧ ∀ i, S.2.2 k i = .null
def sW (G : sG) (n : Nat) (S : sS) (H : Heap) : Prop := H.size = G.2.2.1 + n ∧ (∀ q, q < G.2.2.1 → H[q]? = G.2.2.2[q]?) ∧ (∀ k, k < n → sA G S k (tau k) H) ∧ ∀ k, n ≤ k → sZ S k
def sOK (ty : FieldType) : Bool := match ty with
  | .int => true
  | .boolean => true
  | .byte => true
  | .long => true
  | .object _ => true
  | .array _ => true
  | _ => false
theorem sZ.dflt {S : sS} {k : Nat} (h : sZ S k) {ty : FieldType} (ok : sOK ty = true) (i : Nat) : sv S ty k i = defaultValue ty := by
  cases ty <;> first | (simp [sOK] at ok; done) | exact congrArg Value.int (h.1 i) | exact congrArg Value.long (h.2.1 i) | exact h.2.2 i
theorem sOff.z {S S' : sS} {k i a : Nat} (ho : sOff S S' k i) (h : a ≠ k) (hz : sZ S a) : sZ S' a := by
  refine ⟨fun j => ?_, fun j => ?_, fun j => ?_⟩
  · have h1 : Value.int (S'.1 a j) = Value.int (S.1 a j) := ho .int a j (fun q => h q.1)
    rw [Value.int.inj h1]; exact hz.1 j
  · have h1 : Value.long (S'.2.1 a j) = Value.long (S.2.1 a j) := ho .long a j (fun q => h q.1)
    rw [Value.long.inj h1]; exact hz.2.1 j
  · have h1 : S'.2.2 a j = S.2.2 a j := ho (.object "") a j (fun q => h q.1)
    rw [h1]; exact hz.2.2 j
def sTy (G : sG) : List (ClassId × FieldType) := [(G.2.1 .int, .int), (G.2.1 .long, .long), (G.2.1 .byte, .byte), (G.2.1 .boolean, .boolean), (G.2.1 (.array .long), .array .long)]
theorem overA_spec {args : Array Value} {first s : State} {o : Option Outcome} {idx : List Nat} (h : (Cond.arrayOver (.array .long)).holds args first o s idx = true) :
    ∃ comp c k, s.vm.findClass (FieldType.array .long).toString = some comp ∧ (s.vm.classes.findIdx? fun (x : Class) => match x.kind with | .array component _ => component == comp | _ => false) = some c ∧ s.vm.classes[c]? = some k ∧ k.kind = .array comp (.array .long) ∧
      s.vm.findClass ("[" ++ (FieldType.array .long).toString) = some c := by
  simp only [Cond.holds, Cond.value, beq_iff_eq] at h
  cases hc : s.vm.findClass (FieldType.array .long).toString with
  | none => simp [hc] at h
  | some comp =>
    simp only [hc, Option.bind_some, Option.bind_eq_some_iff, Option.map_eq_some_iff] at h
    obtain ⟨c, hi, k, hk, hb⟩ := h
    obtain ⟨hlt, hp, -⟩ := Array.findIdx?_eq_some_iff_getElem.mp hi
    have hkk : s.vm.classes[c] = k := (Array.getElem?_eq_some_iff.mp hk).2
    rw [hkk] at hp
    cases hkind : k.kind with
    | array component ty =>
      rw [hkind] at hb hp
      simp at hb hp
      exact ⟨comp, c, k, rfl, hi, hk, by rw [hkind, hp, hb.1], hb.2⟩
    | _ => rw [hkind] at hb; simp at hb
/-- the class of the rows of rows -/
def sO (U : State) : Prop := (Cond.arrayOver (.array .long)).before #[] U = true
theorem sO.moved {u U : State} (hvm : u.vm.Alike U.vm) (h : sO u) : sO U := by
  obtain ⟨comp, c, k, h1, h2, h3, h4, h5⟩ := overA_spec h
  obtain ⟨k', hk', he⟩ := hvm.2.2 _ _ h3
  have hi : (U.vm.classes.findIdx? fun (x : Class) => match x.kind with | .array component _ => component == comp | _ => false) = some c := by
    have e1 := va_idx_bare U.vm comp
    have e2 := va_idx_bare u.vm comp
    have e3 : U.vm.bare = u.vm.bare := by first | exact hvm.bare_eq | exact hvm.bare_eq.symm
    rw [e3] at e1
    exact e1.symm.trans (e2.trans h2)
  have hkind : k'.kind = .array comp (.array .long) := by rw [he]; exact h4
  have f1 : U.vm.findClass (FieldType.array .long).toString = some comp := by rw [hvm.findClass]; exact h1
  have f2 : U.vm.findClass ("[" ++ (FieldType.array .long).toString) = some c := by rw [hvm.findClass]; exact h5
  unfold sO Cond.before Cond.holds
  simp only [Cond.value]
  rw [f1, Option.bind_some]
  refine (congrArg (fun o : Option Nat => (o.bind (fun c => (U.vm.classes[c]?).map fun (k : Class) => match k.kind with | .array _ ty => decide (ty = FieldType.array .long) && decide (U.vm.findClass ("[" ++ (FieldType.array .long).toString) = some c) | _ => false) == some true)) hi).trans ?_
  simp [hk', hkind, f2]
def sK (G : sG) (U : State) : Prop := va_K G.1 vwCl (sTy G) U ∧ Nst U ∧ sO U
theorem sK.warm {G : sG} {s U : State} (hW : s.WarmedH U.vm) (h : sK G s) : sK G U := ⟨va_K.moved hW.alike h.1, h.2.1.warm hW, h.2.2.moved hW.alike⟩
def sF (G : sG) : Addr → Prop := fun q => G.2.2.1 ≤ q
def sL (G : sG) (locs : List Loc) : Prop := ∀ q ∈ locs, sF G q.base
theorem sL_nil {G : sG} : sL G [] := fun _ h => by cases h
theorem sL_put {G : sG} {locs : List Loc} {k i : Nat} (h : sL G locs) : sL G (locs ++ [⟨G.2.2.1 + k, i⟩]) := fun q hq => by
  rcases List.mem_append.mp hq with h1 | h1
  · exact h q h1
  · rw [List.mem_singleton.mp h1]; exact Nat.le_add_right _ _
theorem sL_app {G : sG} {locs L : List Loc} (h : sL G locs) (h2 : ∀ q ∈ L, sF G q.base) : sL G (locs ++ L) := fun q hq => by
  rcases List.mem_append.mp hq with h1 | h1
  · exact h q h1
  · exact h2 q h1
theorem sA.kept {G : sG} {S S' : sS} {k : Nat} {t : sT} {H H' : Heap} (h : sA G S k t H) (hq : H'[G.2.2.1 + k]? = H[G.2.2.1 + k]?) (hs : ∀ ty i, sv S' ty k i = sv S ty k i) : sA G S' k t H' := by
  cases t with
  | inl ci =>
    obtain ⟨r, h1, h2⟩ := h
    exact ⟨r, h1, (h2.kept hq).to (fun i _ => (hs _ i).symm)⟩
  | inr a =>
    show H'[G.2.2.1 + k]? = some _
    rw [hq]
    exact Eq.trans h (congrArg some (congrArg (arrV _ _) (funext fun i => (hs _ i).symm)))
/-- one slot of one place has changed -/
theorem sW.set {G : sG} {n : Nat} {S S' : sS} {H H' : Heap} {k i : Nat} (h : sW G n S H) (hkn : k < n) (ho : sOff S S' k i) (hz : H'.size = H.size) (hq : ∀ q, q ≠ G.2.2.1 + k → H'[q]? = H[q]?) (hk : sA G S' k (tau k) H') : sW G n S' H' := by
  refine ⟨hz.trans h.1, fun q h1 => (hq q (by omega)).trans (h.2.1 q h1), fun a ha => ?_, fun a ha => ho.z (by omega) (h.2.2.2 a ha)⟩
  by_cases e : a = k
  · subst e; exact hk
  · exact (h.2.2.1 a ha).kept (hq _ (by omega)) (fun ty j => ho ty a j (fun q => e q.1))
def sC (G : sG) (p : Program) (m : MethodId) (c : Code) (cc : ByteArray) (nL : Nat) (s : State) (args : Array Value) (own : String) : Prop := CallFix p m c cc nL s args tb own ∧ sK G s
def sPc (G : sG) (n : Nat) (S : sS) (av : List Value) : Array Value → State → Prop := fun v U => v = av.toArray ∧ sW G n S U.heap ∧ sK G U
def sQi (G : sG) (n : Nat) (post : Int32 → sS → Prop) : Array Value → State → Outcome → State → Prop := fun _ _ oc t => ∃ (r : Int32) (u : sS), oc = .returned (some (.int r)) ∧ post r u ∧ sW G n u t.heap
def sQl (G : sG) (n : Nat) (post : Int64 → sS → Prop) : Array Value → State → Outcome → State → Prop := fun _ _ oc t => ∃ (r : Int64) (u : sS), oc = .returned (some (.long r)) ∧ post r u ∧ sW G n u t.heap
def sQv (G : sG) (n : Nat) (post : sS → Prop) : Array Value → State → Outcome → State → Prop := fun _ _ oc t => ∃ u : sS, oc = .returned none ∧ post u ∧ sW G n u t.heap
def rmk (d mc ms : Nat) : Room := { frames := d, cells := mc, slots := ms, locals := 64 * d }
theorem sPc_blind {G : sG} {n : Nat} {S : sS} {av : List Value} : FrameBlind (sPc G n S av) := fun a U g mk q => ⟨q.1, q.2.1, va_K.moved (u := U) (U := U.calling g mk a) (Vm.Alike.refl U.vm) q.2.2.1, Nst.same (u := U) (U := U.calling g mk a) rfl q.2.2.2.1, sO.moved (u := U) (U := U.calling g mk a) (Vm.Alike.refl U.vm) q.2.2.2.2⟩
theorem sEnter {l : Launch} {y : MethodName} {cc : ByteArray} {maxL : Nat} {ret : Option FieldType} {G : sG} {n : Nat} {S : sS} {av : List Value} {rm : Room} {Qc : Array Value → State → Outcome → State → Prop} {mc ms : Nat} (hy : plainName y.cls = true) (hlen : (lg_sl av).length ≤ maxL)
    (body : ∀ (p : Program) (e : Env) (s : State) (m : MethodId) (args : Array Value) (below : List Frame) (meth : Method) (c : Code), sC G p m c cc maxL s args y.cls → meth.sig.returnType = ret → meth.locks = false → meth.name = y.name → sW G n S s.heap → ∀ ls : Array Slot, lv_has ls maxL (lv_args 0 av) →
      W p l e rm s m args below meth c s.heap [] 0 0 (MQ below Qc args s mc ms (sF G)) (F0 m 0 ls [])) : Met l y (.code y cc maxL ret :: tb) rm (sPc G n S av) Qc mc ms (sF G) := by
  refine Met.ofW (cc := cc) (maxL := maxL) (ret := ret) hy rfl ?_
  intro p e s m args below meth c s₁ B hml hv
  obtain ⟨rfl, hW, hK⟩ := hv
  have hts := atoms_spec (ws := Cond.code y cc maxL ret :: tb) B.pre
  have hl := lv_entry av hlen
  rw [lg_entry_eq]
  exact body p e s m _ below meth c ⟨⟨B.exec, B.bytes, hml, findClass_of_methodNamed B.named, fun w hw => hts w (List.mem_cons_of_mem _ hw)⟩, hK⟩ B.returns B.notSynchronized (name_of_methodNamed B.named B.method).1 hW _ hl
section SV
variable {p : Program} {l : Launch} {e : Env} {R : Room} {s : State} {m : MethodId} {args : Array Value} {below : List Frame} {meth : Method} {c : Code} {H : Heap} {locs : List Loc} {cells slots : Nat} {Q : State → Prop}
variable {cc : ByteArray} {pc nL : Nat} {ls : Array Slot} {rest st0 : List Value} {G : sG} {n : Nat} {S : sS} {own : String}
theorem sGet (Cx : sC G p m c cc nL s args own) {C : String} {T : u_T} {N ci index : Nat} (hin : ∀ w ∈ u_ws C T N, w ∈ tb) (hc : vwCl[ci]? = some (C, T, N)) (i : Nat) (hi : i < N) (hl : Cond.fieldLink own index (T i).1 (T i).2.1 (T i).2.2.1 ∈ tb) (hW : sW G n S H) {k : Nat} (hk : k < n) (ht : tau k = .inl ci) {v : Value} (hv : sv S (tyOf ci i) k i = v) (hdg : decode cc pc = .ok (.getfield index, 3))
    (kk : W p l e R s m args below meth c H locs cells slots Q (F0 m (pc + 3) ls (v :: rest))) : W p l e R s m args below meth c H locs cells slots Q (F0 m pc ls (.ref (G.2.2.1 + k) :: rest)) := by
  obtain ⟨⟨hx, hb, hml, hown, hts⟩, hK, -⟩ := Cx
  have hat := hW.2.2.1 k hk
  rw [ht] at hat
  obtain ⟨r, h1, cell, q1, q2, q3, q4⟩ := hat
  have hr : r = (C, T, N) := Option.some.inj (h1.symm.trans hc)
  subst hr
  obtain ⟨hS, hfc, kC, hkC, hkind⟩ := hK.1 ci _ hc
  obtain ⟨cf, kf, fi, f, hf, hsl⟩ := hS i hi
  refine W.getf hx hb hown (hts _ hl) hf (u_facts hfc hkC (u_lays hts hin hi) hf).1 q1 (by rw [q3]; exact fun h => by cases h) (v := v) ?_ rfl rfl hdg kk
  rw [hsl, q4 i hi]
  exact congrArg some hv
theorem sGetN (Cx : sC G p m c cc nL s args own) {C host : String} {T : u_T} {N ci index : Nat} (hin : ∀ w ∈ u_ws C T N, w ∈ tb) (hc : vwCl[ci]? = some (C, T, N)) (i : Nat) (hi : i < N) (hl : Cond.fieldLinkNest own index (T i).1 (T i).2.1 (T i).2.2.1 host ∈ nst) (hW : sW G n S H) {k : Nat} (hk : k < n) (ht : tau k = .inl ci) {v : Value} (hv : sv S (tyOf ci i) k i = v) (hdg : decode cc pc = .ok (.getfield index, 3))
    (kk : W p l e R s m args below meth c H locs cells slots Q (F0 m (pc + 3) ls (v :: rest))) : W p l e R s m args below meth c H locs cells slots Q (F0 m pc ls (.ref (G.2.2.1 + k) :: rest)) := by
  obtain ⟨⟨hx, hb, hml, hown, hts⟩, hK, hN, -⟩ := Cx
  have hat := hW.2.2.1 k hk
  rw [ht] at hat
  obtain ⟨r, h1, cell, q1, q2, q3, q4⟩ := hat
  have hr : r = (C, T, N) := Option.some.inj (h1.symm.trans hc)
  subst hr
  obtain ⟨hS, hfc, kC, hkC, hkind⟩ := hK.1 ci _ hc
  obtain ⟨cf, kf, fi, f, hf, hsl⟩ := hS i hi
  refine va_Wgetf hx hb hown (va_Nw.use rfl (hN _ hl)) hf (u_facts hfc hkC (u_lays hts hin hi) hf).1 q1 (by rw [q3]; exact fun h => by cases h) (v := v) ?_ rfl rfl hdg kk
  rw [hsl, q4 i hi]
  exact congrArg some hv
theorem sA_put {G : sG} {S S' : sS} {k i ci N : Nat} {C : String} {T : u_T} {H' : Heap} {cell : Cell} {v : Value} (hc : vwCl[ci]? = some (C, T, N)) (ht : tau k = .inl ci) (q2 : cell.cls = G.1.1 ci) (q3 : cell.vm = .none) (q4 : ∀ j, j < N → cell.slots[G.1.2 ci j]? = some (sv S (tyOf ci j) k j)) (hap : ∀ a b, a < N → b < N → a ≠ b → G.1.2 ci a ≠ G.1.2 ci b) (hi : i < N) (e1 : H'[G.2.2.1 + k]? = some (cell.setSlot (G.1.2 ci i) v)) (ho : sOff S S' k i) (hv : sv S' (tyOf ci i) k i = v) : sA G S' k (tau k) H' := by
  rw [ht]
  refine ⟨_, hc, t_OB.to (V := updV (fun j => sv S (tyOf ci j) k j) i v) ⟨_, e1, q2, q3, t_set q4 hap hi v⟩ (fun j _ => ?_)⟩
  unfold updV
  by_cases e : j = i
  · subst e; rw [if_pos rfl, hv]
  · rw [if_neg e]; exact (ho _ k j (fun q => e q.2)).symm
theorem sPut (Cx : sC G p m c cc nL s args own) {C : String} {T : u_T} {N ci index : Nat} (hin : ∀ w ∈ u_ws C T N, w ∈ tb) (ty0 : Nat → FieldType) (hty : ∀ k, k < N → parseFieldDescriptor (T k).2.2.1 = some (ty0 k)) (hnm : ∀ a, a < N → ∀ b, b < N → a ≠ b → (T a).2.1 ≠ (T b).2.1) (hc : vwCl[ci]? = some (C, T, N)) (i : Nat) (hi : i < N) (hl : Cond.fieldLink own index (T i).1 (T i).2.1 (T i).2.2.1 ∈ tb) (hfin : (T i).2.2.2 = false) (hW : sW G n S H) (hL : sL G locs) {k : Nat} (hk : k < n) (ht : tau k = .inl ci)
    {v : Value} (hn : narrow (ty0 i) v = v) (hfit : fits (ty0 i) v = true) {S' : sS} (ho : sOff S S' k i) (hv : sv S' (tyOf ci i) k i = v) (hdg : decode cc pc = .ok (.putfield index, 3))
    (kk : ∀ (H1 : Heap) (locs1 : List Loc), sW G n S' H1 → sL G locs1 → W p l e R s m args below meth c H1 locs1 cells slots Q (F0 m (pc + 3) ls rest)) : W p l e R s m args below meth c H locs cells slots Q (F0 m pc ls (v :: .ref (G.2.2.1 + k) :: rest)) := by
  obtain ⟨⟨hx, hb, hml, hown, hts⟩, hK, -⟩ := Cx
  have hap := va_apart (own := own) hts hin ty0 hty hnm hK hc
  have hat := hW.2.2.1 k hk
  rw [ht] at hat
  obtain ⟨r, h1, cell, q1, q2, q3, q4⟩ := hat
  have hr : r = (C, T, N) := Option.some.inj (h1.symm.trans hc)
  subst hr
  obtain ⟨hS, hfc, kC, hkC, hkind⟩ := hK.1 ci _ hc
  obtain ⟨cf, kf, fi, f, hf, hsl⟩ := hS i hi
  have hlay := hts _ (hin _ (u_in_lay hi))
  unfold u_lay at hlay
  rw [if_neg (by rw [hfin]; decide)] at hlay
  have hst := (u_facts hfc hkC (u_lays hts hin hi) hf).1
  have h6 := u_store hfc hkC hkind hlay hf (hty i hi) hn hfit
  refine W.putK hx hb (f := f) ⟨hown, hts _ hl, ⟨_, _, _, hf⟩, hst⟩ (by rw [q2]; exact h6) q1 q3 (by rw [hsl]; exact k2_hasslot (q4 i hi)) rfl rfl hdg fun H' e1 e2 e3 => ?_
  rw [hsl] at e1 ⊢
  exact kk H' _ (hW.set hk ho e2 e3 (sA_put hc ht q2 q3 q4 hap hi e1 ho hv)) (sL_put hL)
theorem sPutN (Cx : sC G p m c cc nL s args own) {C host : String} {T : u_T} {N ci index : Nat} (hin : ∀ w ∈ u_ws C T N, w ∈ tb) (ty0 : Nat → FieldType) (hty : ∀ k, k < N → parseFieldDescriptor (T k).2.2.1 = some (ty0 k)) (hnm : ∀ a, a < N → ∀ b, b < N → a ≠ b → (T a).2.1 ≠ (T b).2.1) (hc : vwCl[ci]? = some (C, T, N)) (i : Nat) (hi : i < N) (hl : Cond.fieldLinkNest own index (T i).1 (T i).2.1 (T i).2.2.1 host ∈ nst) (hfin : (T i).2.2.2 = false) (hW : sW G n S H) (hL : sL G locs) {k : Nat} (hk : k < n) (ht : tau k = .inl ci)
    {v : Value} (hn : narrow (ty0 i) v = v) (hfit : fits (ty0 i) v = true) {S' : sS} (ho : sOff S S' k i) (hv : sv S' (tyOf ci i) k i = v) (hdg : decode cc pc = .ok (.putfield index, 3))
    (kk : ∀ (H1 : Heap) (locs1 : List Loc), sW G n S' H1 → sL G locs1 → W p l e R s m args below meth c H1 locs1 cells slots Q (F0 m (pc + 3) ls rest)) : W p l e R s m args below meth c H locs cells slots Q (F0 m pc ls (v :: .ref (G.2.2.1 + k) :: rest)) := by
  obtain ⟨⟨hx, hb, hml, hown, hts⟩, hK, hN, -⟩ := Cx
  have hap := va_apart (own := own) hts hin ty0 hty hnm hK hc
  have hat := hW.2.2.1 k hk
  rw [ht] at hat
  obtain ⟨r, h1, cell, q1, q2, q3, q4⟩ := hat
  have hr : r = (C, T, N) := Option.some.inj (h1.symm.trans hc)
  subst hr
  obtain ⟨hS, hfc, kC, hkC, hkind⟩ := hK.1 ci _ hc
  obtain ⟨cf, kf, fi, f, hf, hsl⟩ := hS i hi
  have hlay := hts _ (hin _ (u_in_lay hi))
  unfold u_lay at hlay
  rw [if_neg (by rw [hfin]; decide)] at hlay
  have hst := (u_facts hfc hkC (u_lays hts hin hi) hf).1
  have h6 := u_store hfc hkC hkind hlay hf (hty i hi) hn hfit
  refine va_WputK hx hb (f := f) hown (va_Nw.use rfl (hN _ hl)) hf hst (by rw [q2]; exact h6) q1 q3 (by rw [hsl]; exact k2_hasslot (q4 i hi)) rfl rfl hdg fun H' e1 e2 e3 => ?_
  rw [hsl] at e1 ⊢
  exact kk H' _ (hW.set hk ho e2 e3 (sA_put hc ht q2 q3 q4 hap hi e1 ho hv)) (sL_put hL)
theorem sPutF (Cx : sC G p m c cc nL s args own) {C : String} {T : u_T} {N ci index : Nat} (hin : ∀ w ∈ u_ws C T N, w ∈ tb) (ty0 : Nat → FieldType) (hty : ∀ k, k < N → parseFieldDescriptor (T k).2.2.1 = some (ty0 k)) (hnm : ∀ a, a < N → ∀ b, b < N → a ≠ b → (T a).2.1 ≠ (T b).2.1) (hc : vwCl[ci]? = some (C, T, N)) (i : Nat) (hi : i < N) (hl : Cond.fieldLink own index (T i).1 (T i).2.1 (T i).2.2.1 ∈ tb) (hfin : (T i).2.2.2 = true) (hdecl : (T i).1 = own) (hin2 : meth.name = "<init>") (hW : sW G n S H) (hL : sL G locs) {k : Nat} (hk : k < n) (ht : tau k = .inl ci)
    {v : Value} (hn : narrow (ty0 i) v = v) (hfit : fits (ty0 i) v = true) {S' : sS} (ho : sOff S S' k i) (hv : sv S' (tyOf ci i) k i = v) (hdg : decode cc pc = .ok (.putfield index, 3))
    (kk : ∀ (H1 : Heap) (locs1 : List Loc), sW G n S' H1 → sL G locs1 → W p l e R s m args below meth c H1 locs1 cells slots Q (F0 m (pc + 3) ls rest)) : W p l e R s m args below meth c H locs cells slots Q (F0 m pc ls (v :: .ref (G.2.2.1 + k) :: rest)) := by
  obtain ⟨⟨hx, hb, hml, hown, hts⟩, hK, -⟩ := Cx
  have hap := va_apart (own := own) hts hin ty0 hty hnm hK hc
  have hat := hW.2.2.1 k hk
  rw [ht] at hat
  obtain ⟨r, h1, cell, q1, q2, q3, q4⟩ := hat
  have hr : r = (C, T, N) := Option.some.inj (h1.symm.trans hc)
  subst hr
  obtain ⟨hS, hfc, kC, hkC, hkind⟩ := hK.1 ci _ hc
  obtain ⟨cf, kf, fi, f, hf, hsl⟩ := hS i hi
  have hlay := hts _ (hin _ (u_in_lay hi))
  unfold u_lay at hlay
  rw [if_pos hfin] at hlay
  have hst := (u_facts hfc hkC (u_lays hts hin hi) hf).1
  have hcf : m.cls = cf := by
    obtain ⟨_, _, c', _, _, _, -, -, hf', -, -, -, hown2, -⟩ := Cond.laysFinal_spec hlay
    have e1 : c' = cf := by have := hf.symm.trans hf'; simp at this; exact this.1.symm
    rw [hdecl] at hown2
    rw [← e1]; exact Option.some.inj (hown.symm.trans hown2)
  have h6 := u_fits hfc hkC hkind (Or.inr hlay) hf (hty i hi) hn hfit
  refine W.putFinK hx hb hown (hts _ hl) hf hst hcf hin2 (by rw [q2]; exact h6) q1 q3 (by rw [hsl]; exact k2_hasslot (q4 i hi)) rfl rfl hdg fun H' e1 e2 e3 => ?_
  rw [hsl] at e1 ⊢
  exact kk H' _ (hW.set hk ho e2 e3 (sA_put hc ht q2 q3 q4 hap hi e1 ho hv)) (sL_put hL)
/-- a new object: nothing changes but the number of places -/
theorem sNew (Cx : sC G p m c cc nL s args own) {C : String} {T : u_T} {N ci index : Nat} (hin : ∀ w ∈ u_ws C T N, w ∈ tb) (hty : ∀ k, k < N → parseFieldDescriptor (T k).2.2.1 = some (tyOf ci k)) (hc : vwCl[ci]? = some (C, T, N)) (hcl : Cond.classLink own index C ∈ tb) (hins : Cond.instantiable C N ∈ tb) (hini : Cond.initialized C ∈ tb) (hW : sW G n S H) (ht : tau n = .inl ci) (hok : ∀ i, i < N → sOK (tyOf ci i) = true) (hcells : cells + 1 ≤ R.cells) (hslots : slots + N ≤ R.slots) (hdg : decode cc pc = .ok (.new index, 3))
    (kk : ∀ H1 : Heap, sW G (n + 1) S H1 → W p l e R s m args below meth c H1 locs (cells + 1) (slots + N) Q (F0 m (pc + 3) ls (.ref (G.2.2.1 + n) :: rest))) : W p l e R s m args below meth c H locs cells slots Q (F0 m pc ls rest) := by
  obtain ⟨⟨hx, hb, hml, hown, hts⟩, hK, -⟩ := Cx
  have hKn := hK.1 ci _ hc
  refine W.newcK hx hb hown (hts _ hcl) (hts _ hins) (hts _ hini) rfl hdg hcells hslots hKn.2.1 hW.1 fun H1 kC hkC e1 z1 o1 => ?_
  refine kk H1 ⟨z1, fun q hq => (o1 q (by omega)).trans (hW.2.1 q hq), fun k hk => ?_, fun k hk => hW.2.2.2 k (by omega)⟩
  by_cases e : k = n
  · subst e
    rw [ht]
    exact ⟨_, hc, (u_born (tyOf ci) hts hin hKn hkC e1 hty).to (fun i hi => ((hW.2.2.2 k (Nat.le_refl k)).dflt (hok i hi) i).symm)⟩
  · exact (hW.2.2.1 k (by omega)).kept (o1 _ (by omega)) (fun _ _ => rfl)
theorem sArr {U : State} (hK : va_K G.1 vwCl (sTy G) U) {ty : FieldType} (t0 : Nat) (h : (sTy G)[t0]? = some (G.2.1 ty, ty)) : ArrOfT U (G.2.1 ty) ty ∧ va_RA U (G.2.1 ty) ty := hK.2 t0 _ h
theorem sNewa (Cx : sC G p m c cc nL s args own) {atype : ArrayType} {ty : FieldType} (hty : newarray.typeOf atype = ty) (t0 : Nat) (ht0 : (sTy G)[t0]? = some (G.2.1 ty, ty)) (hra : ∀ U : State, va_RA U (G.2.1 ty) ty → U.vm.findClass ("[" ++ ty.toString) = some (G.2.1 ty)) (harr : Cond.arrayClass ty ∈ tb) (hW : sW G n S H) {x : Int32} {N : Nat} (ht : tau n = .inr (ty, N)) (hok : sOK ty = true) (hn : ¬ x < 0) (hN : x.toNatClampNeg = N) (hbytes : N * componentBytes ty ≤ 536870912) (hcells : cells + 1 ≤ R.cells) (hslots : slots + N ≤ R.slots) (hdg : decode cc pc = .ok (.newarray atype, 2))
    (kk : ∀ H1 : Heap, sW G (n + 1) S H1 → W p l e R s m args below meth c H1 locs (cells + 1) (slots + N) Q (F0 m (pc + 2) ls (.ref (G.2.2.1 + n) :: rest))) : W p l e R s m args below meth c H locs cells slots Q (F0 m pc ls (.int x :: rest)) := by
  obtain ⟨⟨hx, hb, hml, hown, hts⟩, hK, -⟩ := Cx
  subst hty
  refine va_newaK hx hb (hts _ harr) rfl hdg rfl hn hN hbytes hcells hslots hW.1 fun H1 cA e1 z1 o1 hAr hNm => ?_
  have hcA : cA = G.2.1 (newarray.typeOf atype) := Option.some.inj (hNm.symm.trans (hra s (sArr hK t0 ht0).2))
  refine kk H1 ⟨z1, fun q hq => (o1 q (by omega)).trans (hW.2.1 q hq), fun k hk => ?_, fun k hk => hW.2.2.2 k (by omega)⟩
  by_cases e : k = n
  · subst e
    rw [ht]
    show H1[_]? = some (arrV (G.2.1 (newarray.typeOf atype)) N (fun i => sv S (newarray.typeOf atype) k i))
    rw [e1, hcA]
    unfold arrV
    congr 2
    congr 1
    funext j
    exact ((hW.2.2.2 k (Nat.le_refl k)).dflt hok j.val).symm
  · exact (hW.2.2.1 k (by omega)).kept (o1 _ (by omega)) (fun _ _ => rfl)
end SV
section SV2
variable {p : Program} {l : Launch} {e : Env} {R : Room} {s : State} {m : MethodId} {args : Array Value} {below : List Frame} {meth : Method} {c : Code} {H : Heap} {locs : List Loc} {cells slots : Nat} {Q : State → Prop}
variable {cc : ByteArray} {pc nL : Nat} {ls : Array Slot} {rest st0 : List Value} {G : sG} {n : Nat} {S : sS} {own : String}
theorem sW.arr (hW : sW G n S H) {k N : Nat} {ty : FieldType} (hk : k < n) (ht : tau k = .inr (ty, N)) : H[G.2.2.1 + k]? = some (arrV (G.2.1 ty) N (fun i => sv S ty k i)) := by
  have hat := hW.2.2.1 k hk
  rw [ht] at hat
  exact hat
theorem sA_ast {G : sG} {S S' : sS} {k j N : Nat} {ty : FieldType} {H' : Heap} {v : Value} (ht : tau k = .inr (ty, N)) (e1 : H'[G.2.2.1 + k]? = some ((arrV (G.2.1 ty) N (fun i => sv S ty k i)).setSlot j v)) (ho : sOff S S' k j) (hv : sv S' ty k j = v) : sA G S' k (tau k) H' := by
  rw [ht]
  show H'[G.2.2.1 + k]? = some (arrV (G.2.1 ty) N (fun i => sv S' ty k i))
  rw [e1, arrV_store]
  congr 2
  funext q
  unfold updV
  by_cases h : q = j
  · subst h; rw [if_pos rfl, hv]
  · rw [if_neg h]; exact (ho _ k q (fun z => h z.2)).symm
theorem vp_c {i : Int32} {N : Nat} (h : (decide (i < 0) || Nat.ble N i.toNatClampNeg) = false) : vp_in i N := fun q => by
  rw [Bool.or_eq_false_iff] at h
  rcases q with q | q
  · exact absurd q (of_decide_eq_false h.1)
  · have := Nat.ble_eq.mpr q
    rw [h.2] at this
    cases this
theorem sCi {x v : Int32} (h : x = v) (kk : W p l e R s m args below meth c H locs cells slots Q (F0 m pc ls (.int v :: rest))) : W p l e R s m args below meth c H locs cells slots Q (F0 m pc ls (.int x :: rest)) := by
  subst h
  exact kk
theorem sIald (Cx : sC G p m c cc nL s args own) (hW : sW G n S H) {k N : Nat} (hk : k < n) (ht : tau k = .inr (.int, N)) {i : Int32} {j : Nat} (hj : i.toNatClampNeg = j) (hin : vp_in i N) {v : Int32} (hv : S.1 k j = v) (hdg : decode cc pc = .ok (.iaload, 1))
    (kk : W p l e R s m args below meth c H locs cells slots Q (F0 m (pc + 1) ls (.int v :: rest))) : W p l e R s m args below meth c H locs cells slots Q (F0 m pc ls (.int i :: .ref (G.2.2.1 + k) :: rest)) := by
  obtain ⟨⟨hx, hb, hml, hown, hts⟩, hK, -⟩ := Cx
  have hlt : i.toNatClampNeg < N := Nat.not_le.mp fun q => hin (Or.inr q)
  subst hj
  subst hv
  exact W.iald (v := .int (S.1 k i.toNatClampNeg)) hx hb (hW.arr hk ht) ((sArr hK 0 rfl).1 N _) (fun q => by cases q) (by show ¬ (i < 0 ∨ (arrV _ _ _).slots.size ≤ _); rw [arrV_size]; exact hin) (by show (arrV _ _ _).slots[_]? = _; rw [arrV_read _ _ hlt]; rfl) rfl rfl hdg kk
theorem sBald (Cx : sC G p m c cc nL s args own) (hW : sW G n S H) {k N : Nat} (hk : k < n) (ht : tau k = .inr (.byte, N)) {i : Int32} {j : Nat} (hj : i.toNatClampNeg = j) (hin : vp_in i N) {v : Int32} (hv : S.1 k j = v) (hdg : decode cc pc = .ok (.baload, 1))
    (kk : W p l e R s m args below meth c H locs cells slots Q (F0 m (pc + 1) ls (.int v :: rest))) : W p l e R s m args below meth c H locs cells slots Q (F0 m pc ls (.int i :: .ref (G.2.2.1 + k) :: rest)) := by
  obtain ⟨⟨hx, hb, hml, hown, hts⟩, hK, -⟩ := Cx
  have hlt : i.toNatClampNeg < N := Nat.not_le.mp fun q => hin (Or.inr q)
  subst hj
  subst hv
  exact W.bald (v := .int (S.1 k i.toNatClampNeg)) hx hb (hW.arr hk ht) ((sArr hK 2 rfl).1 N _) (fun q => by cases q) (by show ¬ (i < 0 ∨ (arrV _ _ _).slots.size ≤ _); rw [arrV_size]; exact hin) (by show (arrV _ _ _).slots[_]? = _; rw [arrV_read _ _ hlt]; rfl) rfl rfl hdg kk
theorem sZald (Cx : sC G p m c cc nL s args own) (hW : sW G n S H) {k N : Nat} (hk : k < n) (ht : tau k = .inr (.boolean, N)) {i : Int32} {j : Nat} (hj : i.toNatClampNeg = j) (hin : vp_in i N) {v : Int32} (hv : S.1 k j = v) (hdg : decode cc pc = .ok (.baload, 1))
    (kk : W p l e R s m args below meth c H locs cells slots Q (F0 m (pc + 1) ls (.int v :: rest))) : W p l e R s m args below meth c H locs cells slots Q (F0 m pc ls (.int i :: .ref (G.2.2.1 + k) :: rest)) := by
  obtain ⟨⟨hx, hb, hml, hown, hts⟩, hK, -⟩ := Cx
  have hlt : i.toNatClampNeg < N := Nat.not_le.mp fun q => hin (Or.inr q)
  subst hj
  subst hv
  exact W.zald (v := .int (S.1 k i.toNatClampNeg)) hx hb (hW.arr hk ht) ((sArr hK 3 rfl).1 N _) (fun q => by cases q) (by show ¬ (i < 0 ∨ (arrV _ _ _).slots.size ≤ _); rw [arrV_size]; exact hin) (by show (arrV _ _ _).slots[_]? = _; rw [arrV_read _ _ hlt]; rfl) rfl rfl hdg kk
theorem sLald (Cx : sC G p m c cc nL s args own) (hW : sW G n S H) {k N : Nat} (hk : k < n) (ht : tau k = .inr (.long, N)) {i : Int32} {j : Nat} (hj : i.toNatClampNeg = j) (hin : vp_in i N) {v : Int64} (hv : S.2.1 k j = v) (hdg : decode cc pc = .ok (.laload, 1))
    (kk : W p l e R s m args below meth c H locs cells slots Q (F0 m (pc + 1) ls (.long v :: rest))) : W p l e R s m args below meth c H locs cells slots Q (F0 m pc ls (.int i :: .ref (G.2.2.1 + k) :: rest)) := by
  obtain ⟨⟨hx, hb, hml, hown, hts⟩, hK, -⟩ := Cx
  have hlt : i.toNatClampNeg < N := Nat.not_le.mp fun q => hin (Or.inr q)
  subst hj
  subst hv
  exact W.lald (v := .long (S.2.1 k i.toNatClampNeg)) hx hb (hW.arr hk ht) ((sArr hK 1 rfl).1 N _) (fun q => by cases q) (by show ¬ (i < 0 ∨ (arrV _ _ _).slots.size ≤ _); rw [arrV_size]; exact hin) (by show (arrV _ _ _).slots[_]? = _; rw [arrV_read _ _ hlt]; rfl) rfl rfl hdg kk
theorem sIast (Cx : sC G p m c cc nL s args own) (hW : sW G n S H) (hL : sL G locs) {k N : Nat} (hk : k < n) (ht : tau k = .inr (.int, N)) {i x : Int32} {j : Nat} (hj : i.toNatClampNeg = j) (hin : vp_in i N) (hdg : decode cc pc = .ok (.iastore, 1))
    (kk : ∀ (H1 : Heap) (locs1 : List Loc), sW G n (sI S k j x) H1 → sL G locs1 → W p l e R s m args below meth c H1 locs1 cells slots Q (F0 m (pc + 1) ls rest)) : W p l e R s m args below meth c H locs cells slots Q (F0 m pc ls (.int x :: .int i :: .ref (G.2.2.1 + k) :: rest)) := by
  obtain ⟨⟨hx, hb, hml, hown, hts⟩, hK, -⟩ := Cx
  subst hj
  refine W.iast hx hb (hW.arr hk ht) ((sArr hK 0 rfl).1 N _) (fun q => by cases q) (by show ¬ (i < 0 ∨ (arrV _ _ _).slots.size ≤ _); rw [arrV_size]; exact hin) rfl rfl hdg fun H1 e1 z oq => ?_
  exact kk H1 _ (hW.set hk sI_off z oq (sA_ast ht e1 sI_off (congrArg Value.int sI_on))) (sL_put hL)
theorem sBast (Cx : sC G p m c cc nL s args own) (hW : sW G n S H) (hL : sL G locs) {k N : Nat} (hk : k < n) (ht : tau k = .inr (.byte, N)) {i x : Int32} {j : Nat} (hj : i.toNatClampNeg = j) (hin : vp_in i N) {y : Int32} (hy : vp_nar .byte x = y) (hdg : decode cc pc = .ok (.bastore, 1))
    (kk : ∀ (H1 : Heap) (locs1 : List Loc), sW G n (sI S k j y) H1 → sL G locs1 → W p l e R s m args below meth c H1 locs1 cells slots Q (F0 m (pc + 1) ls rest)) : W p l e R s m args below meth c H locs cells slots Q (F0 m pc ls (.int x :: .int i :: .ref (G.2.2.1 + k) :: rest)) := by
  obtain ⟨⟨hx, hb, hml, hown, hts⟩, hK, -⟩ := Cx
  subst hj
  subst hy
  refine W.bast hx hb (hW.arr hk ht) ((sArr hK 2 rfl).1 N _) (fun q => by cases q) (by show ¬ (i < 0 ∨ (arrV _ _ _).slots.size ≤ _); rw [arrV_size]; exact hin) rfl rfl hdg fun H1 e1 z oq => ?_
  exact kk H1 _ (hW.set hk sI_off z oq (sA_ast ht e1 sI_off (congrArg Value.int sI_on))) (sL_put hL)
theorem sLast (Cx : sC G p m c cc nL s args own) (hW : sW G n S H) (hL : sL G locs) {k N : Nat} (hk : k < n) (ht : tau k = .inr (.long, N)) {i : Int32} {x : Int64} {j : Nat} (hj : i.toNatClampNeg = j) (hin : vp_in i N) (hdg : decode cc pc = .ok (.lastore, 1))
    (kk : ∀ (H1 : Heap) (locs1 : List Loc), sW G n (sJ S k j x) H1 → sL G locs1 → W p l e R s m args below meth c H1 locs1 cells slots Q (F0 m (pc + 1) ls rest)) : W p l e R s m args below meth c H locs cells slots Q (F0 m pc ls (.long x :: .int i :: .ref (G.2.2.1 + k) :: rest)) := by
  obtain ⟨⟨hx, hb, hml, hown, hts⟩, hK, -⟩ := Cx
  subst hj
  refine W.last hx hb (hW.arr hk ht) ((sArr hK 1 rfl).1 N _) (fun q => by cases q) (by show ¬ (i < 0 ∨ (arrV _ _ _).slots.size ≤ _); rw [arrV_size]; exact hin) rfl rfl hdg fun H1 e1 z oq => ?_
  exact kk H1 _ (hW.set hk sJ_off z oq (sA_ast ht e1 sJ_off (congrArg Value.long sJ_on))) (sL_put hL)
theorem sAlen (Cx : sC G p m c cc nL s args own) (hW : sW G n S H) {k N : Nat} (hk : k < n) {ty : FieldType} (ht : tau k = .inr (ty, N)) (t0 : Nat) (ht0 : (sTy G)[t0]? = some (G.2.1 ty, ty)) {v : Int32} (hv : Int32.ofNat N = v) (hdg : decode cc pc = .ok (.arraylength, 1))
    (kk : W p l e R s m args below meth c H locs cells slots Q (F0 m (pc + 1) ls (.int v :: rest))) : W p l e R s m args below meth c H locs cells slots Q (F0 m pc ls (.ref (G.2.2.1 + k) :: rest)) := by
  obtain ⟨⟨hx, hb, hml, hown, hts⟩, hK, -⟩ := Cx
  subst hv
  exact W.alen (n := Int32.ofNat N) hx hb (hW.arr hk ht) ((sArr hK t0 ht0).1 N _) (by rw [arrV_size]) rfl rfl hdg kk
theorem sIret {Qc : Int32 → sS → Prop} (Cx : sC G p m c cc nL s args own) (hr : meth.sig.returnType = some .int) (hlk : meth.locks = false) (hW : sW G n S H) (hL : sL G locs) {v : Int32} (hp : Qc v S) (hdg : decode cc pc = .ok (.ireturn, 1)) : W p l e R s m args below meth c H locs cells slots (MQ below (sQi G n Qc) args s cells slots (sF G)) (F0 m pc ls [.int v]) :=
  W.iret Cx.1.1 Cx.1.2.1 hr (fun t ht _ => ⟨v, S, rfl, hp, by rw [ht]; exact hW⟩) hL hdg hlk
theorem sZret {Qc : Int32 → sS → Prop} (Cx : sC G p m c cc nL s args own) (hr : meth.sig.returnType = some .boolean) (hlk : meth.locks = false) (hW : sW G n S H) (hL : sL G locs) {v : Int32} (hn : narrow .boolean (.int v) = .int v) (hp : Qc v S) (hdg : decode cc pc = .ok (.ireturn, 1)) : W p l e R s m args below meth c H locs cells slots (MQ below (sQi G n Qc) args s cells slots (sF G)) (F0 m pc ls [.int v]) :=
  W.zret Cx.1.1 Cx.1.2.1 hr hn (fun t ht _ => ⟨v, S, rfl, hp, by rw [ht]; exact hW⟩) hL hdg hlk
theorem sLret {Qc : Int64 → sS → Prop} (Cx : sC G p m c cc nL s args own) (hr : meth.sig.returnType = some .long) (hlk : meth.locks = false) (hW : sW G n S H) (hL : sL G locs) {v : Int64} (hp : Qc v S) (hdg : decode cc pc = .ok (.lreturn, 1)) : W p l e R s m args below meth c H locs cells slots (MQ below (sQl G n Qc) args s cells slots (sF G)) (F0 m pc ls [.long v]) :=
  W.lret Cx.1.1 Cx.1.2.1 hr (fun t ht _ => ⟨v, S, rfl, hp, by rw [ht]; exact hW⟩) hL hdg hlk
theorem sVret {Qc : sS → Prop} (Cx : sC G p m c cc nL s args own) (hr : meth.sig.returnType = none) (hlk : meth.locks = false) (hW : sW G n S H) (hL : sL G locs) (hp : Qc S) (hdg : decode cc pc = .ok (.return_, 1)) : W p l e R s m args below meth c H locs cells slots (MQ below (sQv G n Qc) args s cells slots (sF G)) (F0 m pc ls []) :=
  W.vret Cx.1.1 Cx.1.2.1 hr (fun t ht _ => ⟨S, rfl, hp, by rw [ht]; exact hW⟩) hL hdg hlk
/-- a call that has run: what comes back -/
theorem sBi {mc ms n' : Nat} {a : Array Value} {post : Int32 → sS → Prop} (hr : va_Run p l e R s m args below meth c H locs cells slots mc ms (F0 m pc ls st0) rest (sQi G n' post a) (sF G)) (hL : sL G locs)
    (kk : ∀ (r : Int32) (u : sS) (H1 : Heap) (locs1 : List Loc), post r u → sW G n' u H1 → sL G locs1 → W p l e R s m args below meth c H1 locs1 (cells + mc) (slots + ms) Q (F0 m (pc + 3) ls (.int r :: rest))) : W p l e R s m args below meth c H locs cells slots Q (F0 m pc ls st0) := by
  intro T hT X
  obtain ⟨v, st₀, t, T', L, h0, X', hLf, e1, e2, ⟨r, u, hv, hp, hw⟩, st⟩ := hr T hT X
  cases hv
  obtain ⟨t2, a1, b1⟩ := kk r u T'.heap (locs ++ L) hp (by rw [e1]; exact hw) (sL_app hL hLf) T' rfl X'
  exact ⟨t2, st t2 a1, b1⟩
theorem sBl {mc ms n' : Nat} {a : Array Value} {post : Int64 → sS → Prop} (hr : va_Run p l e R s m args below meth c H locs cells slots mc ms (F0 m pc ls st0) rest (sQl G n' post a) (sF G)) (hL : sL G locs)
    (kk : ∀ (r : Int64) (u : sS) (H1 : Heap) (locs1 : List Loc), post r u → sW G n' u H1 → sL G locs1 → W p l e R s m args below meth c H1 locs1 (cells + mc) (slots + ms) Q (F0 m (pc + 3) ls (.long r :: rest))) : W p l e R s m args below meth c H locs cells slots Q (F0 m pc ls st0) := by
  intro T hT X
  obtain ⟨v, st₀, t, T', L, h0, X', hLf, e1, e2, ⟨r, u, hv, hp, hw⟩, st⟩ := hr T hT X
  cases hv
  obtain ⟨t2, a1, b1⟩ := kk r u T'.heap (locs ++ L) hp (by rw [e1]; exact hw) (sL_app hL hLf) T' rfl X'
  exact ⟨t2, st t2 a1, b1⟩
theorem sBv {mc ms n' : Nat} {a : Array Value} {post : sS → Prop} (hr : va_Run p l e R s m args below meth c H locs cells slots mc ms (F0 m pc ls st0) rest (sQv G n' post a) (sF G)) (hL : sL G locs)
    (kk : ∀ (u : sS) (H1 : Heap) (locs1 : List Loc), post u → sW G n' u H1 → sL G locs1 → W p l e R s m args below meth c H1 locs1 (cells + mc) (slots + ms) Q (F0 m (pc + 3) ls rest)) : W p l e R s m args below meth c H locs cells slots Q (F0 m pc ls st0) := by
  intro T hT X
  obtain ⟨v, st₀, t, T', L, h0, X', hLf, e1, e2, ⟨u, hv, hp, hw⟩, st⟩ := hr T hT X
  cases hv
  obtain ⟨t2, a1, b1⟩ := kk u T'.heap (locs ++ L) hp (by rw [e1]; exact hw) (sL_app hL hLf) T' rfl X'
  exact ⟨t2, st t2 a1, b1⟩
variable {y : MethodName} {bytes : ByteArray} {maxL mc ms na index : Nat} {ret : Option FieldType} {rm : Room} {Qc : Array Value → State → Outcome → State → Prop} {C host : String} {As : List Value} {k : Nat}
theorem sPre (Cx : sC G p m c cc nL s args own) (hW : sW G n S H) {av : List Value} : PreS s H (sPc G n S av) av := ⟨sPc_blind, fun U hU hw => ⟨rfl, by rw [hU]; exact hW, Cx.2.warm hw⟩⟩
theorem sRecv (Cx : sC G p m c cc nL s args own) (hW : sW G n S H) {k ci N : Nat} {T : u_T} (hk : k < n) (ht : tau k = .inl ci) (hc : vwCl[ci]? = some (C, T, N)) : ∃ cellB : Cell, H[G.2.2.1 + k]? = some cellB ∧ cellB.vm.isStatics = false ∧ s.vm.findClass C = some cellB.cls := by
  have hat := hW.2.2.1 k hk
  rw [ht] at hat
  obtain ⟨r, h1, cell, q1, q2, q3, q4⟩ := hat
  exact ⟨cell, q1, by rw [q3]; rfl, by rw [q2]; exact (Cx.2.1.1 ci _ hc).2.1⟩
/-- invokevirtual -/
theorem sV (Cx : sC G p m c cc nL s args own) (hM : Met l y (.code y bytes maxL ret :: tb) rm (sPc G n S (.ref (G.2.2.1 + k) :: As)) Qc mc ms (sF G)) (cw : CallW R s args own C index y bytes maxL ret (.code y bytes maxL ret :: tb) rm mc ms na) (hW : sW G n S H) {ci N : Nat} {T : u_T} (hk : k < n) (ht : tau k = .inl ci) (hc : vwCl[ci]? = some (C, T, N))
    (hn : As.length = na) (hsz : ls.size = nL) (hst : st0 = As.reverse ++ .ref (G.2.2.1 + k) :: rest) (hro : (rest.map fun v => v.category).sum ≤ 8) (hdg : decode cc pc = .ok (.invokevirtual index, 3)) (hf : cells + mc ≤ R.cells ∧ slots + ms ≤ R.slots) :
    va_Run p l e R s m args below meth c H locs cells slots mc ms (F0 m pc ls st0) rest (Qc (Value.ref (G.2.2.1 + k) :: As).toArray) (sF G) :=
  va_runV Cx.1 hM cw ⟨sPc_blind, sRecv Cx hW hk ht hc, (sPre Cx hW).2⟩ rfl hn hsz hst (lv_room hro) hdg hf
/-- invokevirtual of a nest mate -/
theorem sVN (Cx : sC G p m c cc nL s args own) (hM : Met l y (.code y bytes maxL ret :: tb) rm (sPc G n S (.ref (G.2.2.1 + k) :: As)) Qc mc ms (sF G)) (cw : va_CN R s args own index y host bytes maxL ret (.code y bytes maxL ret :: tb) rm mc ms na ∧ (Cond.instanceMethod y).before args s = true ∧ (Cond.selects C y y).before args s = true) (hW : sW G n S H) {ci N : Nat} {T : u_T} (hk : k < n) (ht : tau k = .inl ci) (hc : vwCl[ci]? = some (C, T, N))
    (hn : As.length = na) (hsz : ls.size = nL) (hst : st0 = As.reverse ++ .ref (G.2.2.1 + k) :: rest) (hro : (rest.map fun v => v.category).sum ≤ 8) (hdg : decode cc pc = .ok (.invokevirtual index, 3)) (hf : cells + mc ≤ R.cells ∧ slots + ms ≤ R.slots) :
    va_Run p l e R s m args below meth c H locs cells slots mc ms (F0 m pc ls st0) rest (Qc (Value.ref (G.2.2.1 + k) :: As).toArray) (sF G) :=
  va_runVN Cx.1 hM cw ⟨sPc_blind, sRecv Cx hW hk ht hc, (sPre Cx hW).2⟩ rfl hn hsz hst (lv_room hro) hdg hf
/-- invokestatic -/
theorem sSt (Cx : sC G p m c cc nL s args own) (hM : Met l y (.code y bytes maxL ret :: tb) rm (sPc G n S As) Qc mc ms (sF G)) (cw : CallB R s args own index y bytes maxL ret (.code y bytes maxL ret :: tb) rm mc ms na ∧ (Cond.static y).before args s = true) (hW : sW G n S H)
    (hn : As.length = na) (hsz : ls.size = nL) (hst : st0 = As.reverse ++ rest) (hro : (rest.map fun v => v.category).sum ≤ 8) (hdg : decode cc pc = .ok (.invokestatic index, 3)) (hf : cells + mc ≤ R.cells ∧ slots + ms ≤ R.slots) :
    va_Run p l e R s m args below meth c H locs cells slots mc ms (F0 m pc ls st0) rest (Qc As.toArray) (sF G) :=
  va_runS Cx.1 hM cw (sPre Cx hW) rfl hn hsz hst (lv_room hro) hdg hf
/-- invokespecial of a constructor -/
theorem sIn (Cx : sC G p m c cc nL s args own) (hM : Met l y (.code y bytes maxL none :: tb) rm (sPc G n S (.ref (G.2.2.1 + k) :: As)) Qc mc ms (sF G)) (cw : CallB R s args own index y bytes maxL none (.code y bytes maxL none :: tb) rm mc ms na ∧ y.name = "<init>" ∧ (Cond.instanceMethod y).before args s = true) (hW : sW G n S H)
    (hn : As.length = na) (hsz : ls.size = nL) (hst : st0 = As.reverse ++ .ref (G.2.2.1 + k) :: rest) (hro : (rest.map fun v => v.category).sum ≤ 8) (hdg : decode cc pc = .ok (.invokespecial index, 3)) (hf : cells + mc ≤ R.cells ∧ slots + ms ≤ R.slots) :
    va_Run p l e R s m args below meth c H locs cells slots mc ms (F0 m pc ls st0) rest (Qc (Value.ref (G.2.2.1 + k) :: As).toArray) (sF G) :=
  va_runI Cx.1 hM cw (sPre Cx hW) rfl hn hsz hst (lv_room hro) hdg hf
theorem sInN (Cx : sC G p m c cc nL s args own) (hM : Met l y (.code y bytes maxL none :: tb) rm (sPc G n S (.ref (G.2.2.1 + k) :: As)) Qc mc ms (sF G)) (cw : va_CN R s args own index y host bytes maxL none (.code y bytes maxL none :: tb) rm mc ms na ∧ y.name = "<init>" ∧ (Cond.instanceMethod y).before args s = true) (hW : sW G n S H)
    (hn : As.length = na) (hsz : ls.size = nL) (hst : st0 = As.reverse ++ .ref (G.2.2.1 + k) :: rest) (hro : (rest.map fun v => v.category).sum ≤ 8) (hdg : decode cc pc = .ok (.invokespecial index, 3)) (hf : cells + mc ≤ R.cells ∧ slots + ms ≤ R.slots) :
    va_Run p l e R s m args below meth c H locs cells slots mc ms (F0 m pc ls st0) rest (Qc (Value.ref (G.2.2.1 + k) :: As).toArray) (sF G) :=
  va_runIN Cx.1 hM cw (sPre Cx hW) rfl hn hsz hst (lv_room hro) hdg hf
/-- the words of a call -/
theorem tb_code {ws : List Cond} (h : Cond.code y bytes maxL ret ∈ tb) (e : ws = .code y bytes maxL ret :: tb) : GoodIn tb ws := by
  intro w hw
  rw [e] at hw
  rcases List.mem_cons.mp hw with rfl | h1
  · exact tb_good _ h
  · exact tb_good _ h1
theorem sCw (Cx : sC G p m c cc nL s args own) (na : Nat) (h1 : Cond.methodLink own index y ∈ tb) (h2 : Cond.instanceMethod y ∈ tb) (h3 : Cond.selects C y y ∈ tb) (h4 : Cond.initialized C ∈ tb) (h5 : Cond.code y bytes maxL ret ∈ tb) (hd : y.cls = C ∧ y.cls ≠ "java/lang/invoke/MethodHandle" ∧ y.cls ≠ "java/lang/invoke/VarHandle" ∧ (parseMethodDescriptor y.desc).map (fun d => d.parameters.length) = some na)
    (hrc : rm.cells = mc) (hrs : rm.slots = ms) (hR : rm.frames + 1 ≤ R.frames ∧ 8 + (maxL + 11) + rm.locals ≤ R.locals) : CallW R s args own C index y bytes maxL ret (.code y bytes maxL ret :: tb) rm mc ms na := by
  refine cwV na Cx.1.2.2.2.2 (fun w hw => ?_) rfl hrc hrs hd hR
  unfold wsV at hw
  rcases List.mem_append.mp hw with h | h
  · simp only [List.mem_cons, List.not_mem_nil, or_false] at h
    rcases h with rfl | rfl | rfl | rfl
    · exact tb_good _ h1
    · exact tb_good _ h2
    · exact tb_good _ h3
    · exact tb_good _ h4
  · exact tb_code h5 rfl w h
theorem sCS (Cx : sC G p m c cc nL s args own) (na : Nat) (h1 : Cond.methodLink own index y ∈ tb) (h2 : Cond.static y ∈ tb) (h4 : Cond.initialized y.cls ∈ tb) (h5 : Cond.code y bytes maxL ret ∈ tb) (hd : y.cls ≠ "java/lang/invoke/MethodHandle" ∧ y.cls ≠ "java/lang/invoke/VarHandle" ∧ (parseMethodDescriptor y.desc).map (fun d => d.parameters.length) = some na)
    (hrc : rm.cells = mc) (hrs : rm.slots = ms) (hR : rm.frames + 1 ≤ R.frames ∧ 8 + (maxL + 11) + rm.locals ≤ R.locals) : CallB R s args own index y bytes maxL ret (.code y bytes maxL ret :: tb) rm mc ms na ∧ (Cond.static y).before args s = true :=
  ⟨callB_of na Cx.1.2.2.2.2 (tb_code h5 rfl) rfl hrc hrs (Cx.1.2.2.2.2 _ h4) (Cx.1.2.2.2.2 _ h1) hd hR, Cx.1.2.2.2.2 _ h2⟩
theorem sCI (Cx : sC G p m c cc nL s args own) (na : Nat) (h1 : Cond.methodLink own index y ∈ tb) (h2 : Cond.instanceMethod y ∈ tb) (h4 : Cond.initialized y.cls ∈ tb) (h5 : Cond.code y bytes maxL none ∈ tb) (hy : y.name = "<init>") (hd : y.cls ≠ "java/lang/invoke/MethodHandle" ∧ y.cls ≠ "java/lang/invoke/VarHandle" ∧ (parseMethodDescriptor y.desc).map (fun d => d.parameters.length) = some na)
    (hrc : rm.cells = mc) (hrs : rm.slots = ms) (hR : rm.frames + 1 ≤ R.frames ∧ 8 + (maxL + 11) + rm.locals ≤ R.locals) : CallB R s args own index y bytes maxL none (.code y bytes maxL none :: tb) rm mc ms na ∧ y.name = "<init>" ∧ (Cond.instanceMethod y).before args s = true :=
  cwI na Cx.1.2.2.2.2 (tb_code h5 rfl) rfl hrc hrs (Cx.1.2.2.2.2 _ h4) (Cx.1.2.2.2.2 _ h1) (Cx.1.2.2.2.2 _ h2) hy hd hR
theorem sCN (Cx : sC G p m c cc nL s args own) (na : Nat) (h1 : Cond.methodLinkNest own index y host ∈ nst) (h4 : Cond.initialized y.cls ∈ tb) (h5 : Cond.code y bytes maxL ret ∈ tb) (hd : y.cls ≠ "java/lang/invoke/MethodHandle" ∧ y.cls ≠ "java/lang/invoke/VarHandle" ∧ (parseMethodDescriptor y.desc).map (fun d => d.parameters.length) = some na)
    (hrc : rm.cells = mc) (hrs : rm.slots = ms) (hR : rm.frames + 1 ≤ R.frames ∧ 8 + (maxL + 11) + rm.locals ≤ R.locals) : va_CN R s args own index y host bytes maxL ret (.code y bytes maxL ret :: tb) rm mc ms na :=
  va_cnB na Cx.1.2.2.2.2 (tb_code h5 rfl) rfl hrc hrs (Cx.2.2.1 _ h1) (Cx.1.2.2.2.2 _ h4) hd hR
end SV2
end
section
/-! new long[n][k] -/
theorem vr_outer (c : ClassId) (N h0 : Nat) : ∀ i : Nat, Jvm.Free.Multi.outerC c N h0 i = arrV c N (fun j => va_rf (if j < i then some (h0 + 1 + j) else none))
  | 0 => by
    show ({ cls := c, slots := Array.replicate N .null, vm := .none } : Cell) = _
    rw [arrV_new]
    refine congrArg (arrV c N) (funext fun j => ?_)
    simp [va_rf]
  | i + 1 => by
    show (Jvm.Free.Multi.outerC c N h0 i).setSlot i (.ref (h0 + 1 + i)) = _
    rw [vr_outer c N h0 i, arrV_store]
    refine congrArg (arrV c N) (funext fun j => ?_)
    by_cases e : j = i
    · subst e
      simp [updV, va_rf]
    · by_cases h : j < i
      · simp [updV, e, h, Nat.lt_succ_of_lt h]
      · simp [updV, e, h, show ¬ j < i + 1 by omega]
def sM (b : Nat) (S : sS) (n N : Nat) : sS := (S.1, S.2.1, fun q i => cond (Nat.beq q n && Nat.blt i N) (.ref (b + n + 1 + i)) (S.2.2 q i))
theorem sM_off {b : Nat} {S : sS} {n N : Nat} (ty : FieldType) (q i : Nat) (h : q ≠ n) : sv (sM b S n N) ty q i = sv S ty q i := by
  have e : Nat.beq q n = false := by
    cases h1 : Nat.beq q n with
    | false => rfl
    | true => exact absurd (Nat.eq_of_beq_eq_true h1) h
  cases ty <;> simp [sv, sM, e]
section SVM
variable {p : Program} {l : Launch} {e : Env} {R : Room} {s : State} {m : MethodId} {args : Array Value} {below : List Frame} {meth : Method} {c : Code} {H : Heap} {locs : List Loc} {cells slots : Nat} {Q : State → Prop}
variable {cc : ByteArray} {pc nL : Nat} {ls : Array Slot} {rest st0 : List Value} {G : sG} {n : Nat} {S : sS} {own : String}
theorem sMna (Cx : sC G p m c cc nL s args own) {index : Nat} (hcl : Cond.classLink own index ("[" ++ (FieldType.array .long).toString) ∈ tb) (harr : Cond.arrayClass .long ∈ tb) (hW : sW G n S H) {x k : Int32} {N K : Nat} (hx0 : ¬ x < 0) (hk0 : ¬ k < 0) (hN : x.toNatClampNeg = N) (hK1 : k.toNatClampNeg = K) (ht : tau n = .inr (.array .long, N)) (hti : ∀ i, i < N → tau (n + 1 + i) = .inr (.long, K))
    (hb1 : N * 4 ≤ 536870912) (hb2 : K * componentBytes .long ≤ 536870912) (hb3 : K ≤ 536870912) (hcells : cells + (1 + N) ≤ R.cells) (hslots : slots + (N + N * K) ≤ R.slots) (hdg : decode cc pc = .ok (.multianewarray index 2, 4))
    (kk : ∀ H1 : Heap, sW G (n + 1 + N) (sM G.2.2.1 S n N) H1 → W p l e R s m args below meth c H1 locs (cells + 1 + N) (slots + N + N * K) Q (F0 m (pc + 4) ls (.ref (G.2.2.1 + n) :: rest))) : W p l e R s m args below meth c H locs cells slots Q (F0 m pc ls (.int k :: .int x :: rest)) := by
  obtain ⟨⟨hx, hb, hml, hown, hts⟩, hK, hN1, hov⟩ := Cx
  subst hN
  subst hK1
  intro T hT Xs
  obtain ⟨vm₁, cA, comp, -, fA, fC, hO, -, X', step⟩ := Xs.multianewarray2F hx hown (hts _ hcl) (show (Cond.arrayOver (.array .long)).before args s = true from hov) (hts _ harr) (g := F0 m pc ls (.int k :: .int x :: rest)) rfl (by rw [hb]; exact hdg) rfl hx0 hk0 hb1 hb2 hb3 rfl rfl hcells hslots
  have eA : cA = G.2.1 (.array .long) := Option.some.inj (fA.symm.trans (sArr hK 4 rfl).2)
  have eC : comp = G.2.1 .long := Option.some.inj (fC.symm.trans (sArr hK 1 rfl).2)
  subst eA
  subst eC
  generalize hF : Jvm.Free.Multi.fill (T.setVm vm₁) (G.2.1 (.array .long)) (G.2.1 .long) x.toNatClampNeg k.toNatClampNeg (defaultValue .long) x.toNatClampNeg = F at X' step
  have hTh : (T.setVm vm₁).heap = H := hT
  obtain ⟨f1, f2, -, -⟩ := Jvm.Free.Multi.fill_facts (T.setVm vm₁) (G.2.1 (.array .long)) (G.2.1 .long) x.toNatClampNeg k.toNatClampNeg (defaultValue .long) x.toNatClampNeg
  rw [hF, hTh] at f1 f2
  have hold : ∀ q : Nat, q < H.size → F.heap[q]? = H[q]? := fun q hq => by
    have := Jvm.Free.Multi.fill_old (T.setVm vm₁) (G.2.1 (.array .long)) (G.2.1 .long) x.toNatClampNeg k.toNatClampNeg (defaultValue .long) (a := q) (by rw [hTh]; exact hq) x.toNatClampNeg
    rw [hF, hTh] at this
    exact this
  have hrow : ∀ j : Nat, j < x.toNatClampNeg → F.heap[H.size + 1 + j]? = some (Jvm.Free.Multi.innerC (G.2.1 .long) k.toNatClampNeg (defaultValue .long)) := fun j hj => by
    have := Jvm.Free.Multi.fill_inner (T.setVm vm₁) (G.2.1 (.array .long)) (G.2.1 .long) x.toNatClampNeg k.toNatClampNeg (defaultValue .long) x.toNatClampNeg j hj
    rw [hF, hTh] at this
    exact this
  rw [vr_outer] at f2
  have hsz := hW.1
  have w : sW G (n + 1 + x.toNatClampNeg) (sM G.2.2.1 S n x.toNatClampNeg) F.heap := by
    refine ⟨by rw [f1, hsz]; omega, fun q hq => (hold q (by omega)).trans (hW.2.1 q hq), fun a ha => ?_, fun a ha => ?_⟩
    · by_cases h1 : a < n
      · exact (hW.2.2.1 a h1).kept (hold _ (by omega)) (fun ty i => sM_off ty a i (by omega))
      · by_cases h2 : a = n
        · subst h2
          rw [ht]
          show F.heap[G.2.2.1 + a]? = some (arrV _ _ _)
          rw [← hsz, f2]
          congr 2
          funext j
          by_cases hj : j < x.toNatClampNeg
          · have hj1 : Nat.blt j x.toNatClampNeg = true := Nat.blt_eq.mpr hj
            simp [sv, sM, va_rf, hj, hj1, hsz]
          · have hz := (hW.2.2.2 a (Nat.le_refl a)).2.2 j
            have hj2 : Nat.blt j x.toNatClampNeg = false := by
              cases h9 : Nat.blt j x.toNatClampNeg with
              | false => rfl
              | true => exact absurd (Nat.blt_eq.mp h9) hj
            simp [sv, sM, va_rf, hj, hj2, hz]
        · obtain ⟨i, rfl⟩ : ∃ i, a = n + 1 + i := ⟨a - (n + 1), by omega⟩
          rw [hti i (by omega)]
          show F.heap[G.2.2.1 + (n + 1 + i)]? = some (arrV _ _ _)
          have e9 : G.2.2.1 + (n + 1 + i) = H.size + 1 + i := by omega
          rw [e9, hrow i (by omega)]
          show some ({ cls := G.2.1 .long, slots := Array.replicate k.toNatClampNeg (defaultValue .long), vm := .none } : Cell) = _
          rw [arrV_new]
          congr 2
          funext j
          rw [sM_off _ _ _ (by omega)]
          exact ((hW.2.2.2 (n + 1 + i) (by omega)).dflt rfl j).symm
    · have hz := hW.2.2.2 a (by omega)
      have e9 : Nat.beq a n = false := by
        cases h9 : Nat.beq a n with
        | false => rfl
        | true => exact absurd (Nat.eq_of_beq_eq_true h9) (by omega)
      exact ⟨hz.1, hz.2.1, fun i => by simp [sM, e9, hz.2.2 i]⟩
  obtain ⟨t, a1, b1⟩ := kk F.heap w F rfl X'
  refine ⟨t, step t ?_, b1⟩
  have e2 : T.heap.size = G.2.2.1 + n := by rw [hT]; exact hsz
  rw [e2]
  exact a1
end SVM
end
