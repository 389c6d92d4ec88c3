section
-- ===== PART A: goes FIRST, ahead of the names: the tables' words, and 'selects' of the private methods out of them =====
/-- a private method of a class that the tables say can be made, by its rows of tables_1 -/
def lw_okq (q : MethodName × Nat) : Prop := (q.1.cls ≠ "java/lang/invoke/MethodHandle" ∧ q.1.cls ≠ "java/lang/invoke/VarHandle") ∧ Cond.instantiable q.1.cls q.2 ∈ tables_1 ∧ Cond.privateMethod q.1 ∈ tables_1 ∧ Cond.instanceMethod q.1 ∈ tables_1
theorem lw_p0 : lw_okq (⟨"IceCoreDater", "closeAct", "(I)I"⟩, 6) := ⟨⟨by decide +kernel, by decide +kernel⟩, List.mem_of_getElem? (i := 14) (by decide +kernel), List.mem_of_getElem? (i := 187) (by decide +kernel), List.mem_of_getElem? (i := 188) (by decide +kernel)⟩
theorem lw_p1 : lw_okq (⟨"IceCoreDater$Core", "copyLayer", "(II)V"⟩, 12) := ⟨⟨by decide +kernel, by decide +kernel⟩, List.mem_of_getElem? (i := 22) (by decide +kernel), List.mem_of_getElem? (i := 223) (by decide +kernel), List.mem_of_getElem? (i := 224) (by decide +kernel)⟩
theorem lw_p2 : lw_okq (⟨"IceCoreDater$Core", "yearsDividend", "(I)J"⟩, 12) := ⟨⟨by decide +kernel, by decide +kernel⟩, List.mem_of_getElem? (i := 22) (by decide +kernel), List.mem_of_getElem? (i := 331) (by decide +kernel), List.mem_of_getElem? (i := 332) (by decide +kernel)⟩
theorem lw_p3 : lw_okq (⟨"IceCoreDater$Core", "canBeTuned", "()Z"⟩, 12) := ⟨⟨by decide +kernel, by decide +kernel⟩, List.mem_of_getElem? (i := 22) (by decide +kernel), List.mem_of_getElem? (i := 344) (by decide +kernel), List.mem_of_getElem? (i := 345) (by decide +kernel)⟩
theorem lw_p4 : lw_okq (⟨"IceCoreDater$Core", "fitSegment", "(IIILIceCoreDater$Falling;)V"⟩, 12) := ⟨⟨by decide +kernel, by decide +kernel⟩, List.mem_of_getElem? (i := 22) (by decide +kernel), List.mem_of_getElem? (i := 348) (by decide +kernel), List.mem_of_getElem? (i := 349) (by decide +kernel)⟩
theorem lw_p5 : lw_okq (⟨"IceCoreDater$Falling", "firstAtMost", "(IIJ)I"⟩, 3) := ⟨⟨by decide +kernel, by decide +kernel⟩, List.mem_of_getElem? (i := 92) (by decide +kernel), List.mem_of_getElem? (i := 364) (by decide +kernel), List.mem_of_getElem? (i := 365) (by decide +kernel)⟩
theorem lw_p6 : lw_okq (⟨"IceCoreDater$Falling", "sum", "(I)J"⟩, 3) := ⟨⟨by decide +kernel, by decide +kernel⟩, List.mem_of_getElem? (i := 92) (by decide +kernel), List.mem_of_getElem? (i := 368) (by decide +kernel), List.mem_of_getElem? (i := 369) (by decide +kernel)⟩
theorem lw_p7 : lw_okq (⟨"IceCoreDater$Text", "markStart", "(I)V"⟩, 5) := ⟨⟨by decide +kernel, by decide +kernel⟩, List.mem_of_getElem? (i := 109) (by decide +kernel), List.mem_of_getElem? (i := 420) (by decide +kernel), List.mem_of_getElem? (i := 421) (by decide +kernel)⟩
theorem lw_p8 : lw_okq (⟨"IceCoreDater$Text", "markEnd", "(I)V"⟩, 5) := ⟨⟨by decide +kernel, by decide +kernel⟩, List.mem_of_getElem? (i := 109) (by decide +kernel), List.mem_of_getElem? (i := 424) (by decide +kernel), List.mem_of_getElem? (i := 425) (by decide +kernel)⟩
theorem lw_p9 : lw_okq (⟨"IceCoreDater", "execute", "()I"⟩, 6) := ⟨⟨by decide +kernel, by decide +kernel⟩, List.mem_of_getElem? (i := 14) (by decide +kernel), List.mem_of_getElem? (i := 428) (by decide +kernel), List.mem_of_getElem? (i := 429) (by decide +kernel)⟩
theorem lw_p10 : lw_okq (⟨"IceCoreDater$Text", "hasWord", "(I)Z"⟩, 5) := ⟨⟨by decide +kernel, by decide +kernel⟩, List.mem_of_getElem? (i := 109) (by decide +kernel), List.mem_of_getElem? (i := 441) (by decide +kernel), List.mem_of_getElem? (i := 442) (by decide +kernel)⟩
theorem lw_p11 : lw_okq (⟨"IceCoreDater$Text", "isNumber", "(I)Z"⟩, 5) := ⟨⟨by decide +kernel, by decide +kernel⟩, List.mem_of_getElem? (i := 109) (by decide +kernel), List.mem_of_getElem? (i := 493) (by decide +kernel), List.mem_of_getElem? (i := 494) (by decide +kernel)⟩
theorem lw_p12 : lw_okq (⟨"IceCoreDater", "executeUse", "()I"⟩, 6) := ⟨⟨by decide +kernel, by decide +kernel⟩, List.mem_of_getElem? (i := 14) (by decide +kernel), List.mem_of_getElem? (i := 508) (by decide +kernel), List.mem_of_getElem? (i := 509) (by decide +kernel)⟩
theorem lw_p13 : lw_okq (⟨"IceCoreDater", "depthFault", "(I)I"⟩, 6) := ⟨⟨by decide +kernel, by decide +kernel⟩, List.mem_of_getElem? (i := 14) (by decide +kernel), List.mem_of_getElem? (i := 594) (by decide +kernel), List.mem_of_getElem? (i := 595) (by decide +kernel)⟩
theorem lw_p14 : lw_okq (⟨"IceCoreDaterModel", "bottom", "()I"⟩, 12) := ⟨⟨by decide +kernel, by decide +kernel⟩, List.mem_of_getElem? (i := 681) (by decide +kernel), List.mem_of_getElem? (i := 738) (by decide +kernel), List.mem_of_getElem? (i := 739) (by decide +kernel)⟩
theorem lw_p15 : lw_okq (⟨"IceCoreDaterModel", "top", "(I)I"⟩, 12) := ⟨⟨by decide +kernel, by decide +kernel⟩, List.mem_of_getElem? (i := 681) (by decide +kernel), List.mem_of_getElem? (i := 742) (by decide +kernel), List.mem_of_getElem? (i := 743) (by decide +kernel)⟩
def lw_privs_1 : List (MethodName × Nat) := [(⟨"IceCoreDater", "closeAct", "(I)I"⟩, 6), (⟨"IceCoreDater$Core", "copyLayer", "(II)V"⟩, 12), (⟨"IceCoreDater$Core", "yearsDividend", "(I)J"⟩, 12), (⟨"IceCoreDater$Core", "canBeTuned", "()Z"⟩, 12), (⟨"IceCoreDater$Core", "fitSegment", "(IIILIceCoreDater$Falling;)V"⟩, 12), (⟨"IceCoreDater$Falling", "firstAtMost", "(IIJ)I"⟩, 3), (⟨"IceCoreDater$Falling", "sum", "(I)J"⟩, 3), (⟨"IceCoreDater$Text", "markStart", "(I)V"⟩, 5), (⟨"IceCoreDater$Text", "markEnd", "(I)V"⟩, 5), (⟨"IceCoreDater", "execute", "()I"⟩, 6), (⟨"IceCoreDater$Text", "hasWord", "(I)Z"⟩, 5), (⟨"IceCoreDater$Text", "isNumber", "(I)Z"⟩, 5), (⟨"IceCoreDater", "executeUse", "()I"⟩, 6), (⟨"IceCoreDater", "depthFault", "(I)I"⟩, 6), (⟨"IceCoreDaterModel", "bottom", "()I"⟩, 12), (⟨"IceCoreDaterModel", "top", "(I)I"⟩, 12)]
theorem lw_r1 : ∀ q ∈ lw_privs_1, lw_okq q := List.forall_mem_cons.mpr ⟨lw_p0, List.forall_mem_cons.mpr ⟨lw_p1, List.forall_mem_cons.mpr ⟨lw_p2, List.forall_mem_cons.mpr ⟨lw_p3, List.forall_mem_cons.mpr ⟨lw_p4, List.forall_mem_cons.mpr ⟨lw_p5, List.forall_mem_cons.mpr ⟨lw_p6, List.forall_mem_cons.mpr ⟨lw_p7, List.forall_mem_cons.mpr ⟨lw_p8, List.forall_mem_cons.mpr ⟨lw_p9, List.forall_mem_cons.mpr ⟨lw_p10, List.forall_mem_cons.mpr ⟨lw_p11, List.forall_mem_cons.mpr ⟨lw_p12, List.forall_mem_cons.mpr ⟨lw_p13, List.forall_mem_cons.mpr ⟨lw_p14, List.forall_mem_cons.mpr ⟨lw_p15, fun _ h => absurd h List.not_mem_nil⟩⟩⟩⟩⟩⟩⟩⟩⟩⟩⟩⟩⟩⟩⟩⟩
theorem lw_p16 : lw_okq (⟨"IceCoreDaterModel", "of", "(II)I"⟩, 12) := ⟨⟨by decide +kernel, by decide +kernel⟩, List.mem_of_getElem? (i := 681) (by decide +kernel), List.mem_of_getElem? (i := 746) (by decide +kernel), List.mem_of_getElem? (i := 747) (by decide +kernel)⟩
theorem lw_p17 : lw_okq (⟨"IceCoreDaterModel", "record", "()V"⟩, 12) := ⟨⟨by decide +kernel, by decide +kernel⟩, List.mem_of_getElem? (i := 681) (by decide +kernel), List.mem_of_getElem? (i := 752) (by decide +kernel), List.mem_of_getElem? (i := 753) (by decide +kernel)⟩
theorem lw_p18 : lw_okq (⟨"IceCoreDaterModel", "isLayer", "(I)Z"⟩, 12) := ⟨⟨by decide +kernel, by decide +kernel⟩, List.mem_of_getElem? (i := 681) (by decide +kernel), List.mem_of_getElem? (i := 764) (by decide +kernel), List.mem_of_getElem? (i := 765) (by decide +kernel)⟩
theorem lw_p19 : lw_okq (⟨"IceCoreDaterModel", "change", "(II)I"⟩, 12) := ⟨⟨by decide +kernel, by decide +kernel⟩, List.mem_of_getElem? (i := 681) (by decide +kernel), List.mem_of_getElem? (i := 774) (by decide +kernel), List.mem_of_getElem? (i := 775) (by decide +kernel)⟩
theorem lw_p20 : lw_okq (⟨"IceCoreDaterModel", "ashes", "()I"⟩, 12) := ⟨⟨by decide +kernel, by decide +kernel⟩, List.mem_of_getElem? (i := 681) (by decide +kernel), List.mem_of_getElem? (i := 803) (by decide +kernel), List.mem_of_getElem? (i := 804) (by decide +kernel)⟩
theorem lw_p21 : lw_okq (⟨"IceCoreDaterModel", "yearsOf", "(I)I"⟩, 12) := ⟨⟨by decide +kernel, by decide +kernel⟩, List.mem_of_getElem? (i := 681) (by decide +kernel), List.mem_of_getElem? (i := 816) (by decide +kernel), List.mem_of_getElem? (i := 817) (by decide +kernel)⟩
theorem lw_p22 : lw_okq (⟨"IceCoreDaterModel", "thinningOf", "(I)I"⟩, 12) := ⟨⟨by decide +kernel, by decide +kernel⟩, List.mem_of_getElem? (i := 681) (by decide +kernel), List.mem_of_getElem? (i := 820) (by decide +kernel), List.mem_of_getElem? (i := 821) (by decide +kernel)⟩
theorem lw_p23 : lw_okq (⟨"IceCoreDaterModel", "canTune", "()Z"⟩, 12) := ⟨⟨by decide +kernel, by decide +kernel⟩, List.mem_of_getElem? (i := 681) (by decide +kernel), List.mem_of_getElem? (i := 835) (by decide +kernel), List.mem_of_getElem? (i := 836) (by decide +kernel)⟩
theorem lw_p24 : lw_okq (⟨"IceCoreDaterModel", "tuneSegment", "(IIJ)V"⟩, 12) := ⟨⟨by decide +kernel, by decide +kernel⟩, List.mem_of_getElem? (i := 681) (by decide +kernel), List.mem_of_getElem? (i := 839) (by decide +kernel), List.mem_of_getElem? (i := 840) (by decide +kernel)⟩
theorem lw_p25 : lw_okq (⟨"IceCoreDaterModel", "yearsWith", "(III)J"⟩, 12) := ⟨⟨by decide +kernel, by decide +kernel⟩, List.mem_of_getElem? (i := 681) (by decide +kernel), List.mem_of_getElem? (i := 843) (by decide +kernel), List.mem_of_getElem? (i := 844) (by decide +kernel)⟩
theorem lw_p26 : lw_okq (⟨"IceCoreDaterModel", "fits", "()I"⟩, 12) := ⟨⟨by decide +kernel, by decide +kernel⟩, List.mem_of_getElem? (i := 681) (by decide +kernel), List.mem_of_getElem? (i := 850) (by decide +kernel), List.mem_of_getElem? (i := 851) (by decide +kernel)⟩
theorem lw_p27 : lw_okq (⟨"IceCoreDaterModel", "residualOf", "(I)I"⟩, 12) := ⟨⟨by decide +kernel, by decide +kernel⟩, List.mem_of_getElem? (i := 681) (by decide +kernel), List.mem_of_getElem? (i := 854) (by decide +kernel), List.mem_of_getElem? (i := 855) (by decide +kernel)⟩
theorem lw_p28 : lw_okq (⟨"IceCoreDaterModel", "ageAtTop", "(I)I"⟩, 12) := ⟨⟨by decide +kernel, by decide +kernel⟩, List.mem_of_getElem? (i := 681) (by decide +kernel), List.mem_of_getElem? (i := 858) (by decide +kernel), List.mem_of_getElem? (i := 859) (by decide +kernel)⟩
theorem lw_p29 : lw_okq (⟨"IceCoreDaterModel", "readCommand", "(I)I"⟩, 12) := ⟨⟨by decide +kernel, by decide +kernel⟩, List.mem_of_getElem? (i := 681) (by decide +kernel), List.mem_of_getElem? (i := 874) (by decide +kernel), List.mem_of_getElem? (i := 875) (by decide +kernel)⟩
theorem lw_p30 : lw_okq (⟨"IceCoreDaterModel", "readWord", "(II)V"⟩, 12) := ⟨⟨by decide +kernel, by decide +kernel⟩, List.mem_of_getElem? (i := 681) (by decide +kernel), List.mem_of_getElem? (i := 878) (by decide +kernel), List.mem_of_getElem? (i := 879) (by decide +kernel)⟩
theorem lw_p31 : lw_okq (⟨"IceCoreDaterModel", "perform", "()I"⟩, 12) := ⟨⟨by decide +kernel, by decide +kernel⟩, List.mem_of_getElem? (i := 681) (by decide +kernel), List.mem_of_getElem? (i := 883) (by decide +kernel), List.mem_of_getElem? (i := 884) (by decide +kernel)⟩
def lw_privs_2 : List (MethodName × Nat) := [(⟨"IceCoreDaterModel", "of", "(II)I"⟩, 12), (⟨"IceCoreDaterModel", "record", "()V"⟩, 12), (⟨"IceCoreDaterModel", "isLayer", "(I)Z"⟩, 12), (⟨"IceCoreDaterModel", "change", "(II)I"⟩, 12), (⟨"IceCoreDaterModel", "ashes", "()I"⟩, 12), (⟨"IceCoreDaterModel", "yearsOf", "(I)I"⟩, 12), (⟨"IceCoreDaterModel", "thinningOf", "(I)I"⟩, 12), (⟨"IceCoreDaterModel", "canTune", "()Z"⟩, 12), (⟨"IceCoreDaterModel", "tuneSegment", "(IIJ)V"⟩, 12), (⟨"IceCoreDaterModel", "yearsWith", "(III)J"⟩, 12), (⟨"IceCoreDaterModel", "fits", "()I"⟩, 12), (⟨"IceCoreDaterModel", "residualOf", "(I)I"⟩, 12), (⟨"IceCoreDaterModel", "ageAtTop", "(I)I"⟩, 12), (⟨"IceCoreDaterModel", "readCommand", "(I)I"⟩, 12), (⟨"IceCoreDaterModel", "readWord", "(II)V"⟩, 12), (⟨"IceCoreDaterModel", "perform", "()I"⟩, 12)]
theorem lw_r2 : ∀ q ∈ lw_privs_2, lw_okq q := List.forall_mem_cons.mpr ⟨lw_p16, List.forall_mem_cons.mpr ⟨lw_p17, List.forall_mem_cons.mpr ⟨lw_p18, List.forall_mem_cons.mpr ⟨lw_p19, List.forall_mem_cons.mpr ⟨lw_p20, List.forall_mem_cons.mpr ⟨lw_p21, List.forall_mem_cons.mpr ⟨lw_p22, List.forall_mem_cons.mpr ⟨lw_p23, List.forall_mem_cons.mpr ⟨lw_p24, List.forall_mem_cons.mpr ⟨lw_p25, List.forall_mem_cons.mpr ⟨lw_p26, List.forall_mem_cons.mpr ⟨lw_p27, List.forall_mem_cons.mpr ⟨lw_p28, List.forall_mem_cons.mpr ⟨lw_p29, List.forall_mem_cons.mpr ⟨lw_p30, List.forall_mem_cons.mpr ⟨lw_p31, fun _ h => absurd h List.not_mem_nil⟩⟩⟩⟩⟩⟩⟩⟩⟩⟩⟩⟩⟩⟩⟩⟩
theorem lw_p32 : lw_okq (⟨"IceCoreDaterModel", "hasNumbers", "(I)Z"⟩, 12) := ⟨⟨by decide +kernel, by decide +kernel⟩, List.mem_of_getElem? (i := 681) (by decide +kernel), List.mem_of_getElem? (i := 890) (by decide +kernel), List.mem_of_getElem? (i := 891) (by decide +kernel)⟩
theorem lw_p33 : lw_okq (⟨"IceCoreDaterModel", "use", "()I"⟩, 12) := ⟨⟨by decide +kernel, by decide +kernel⟩, List.mem_of_getElem? (i := 681) (by decide +kernel), List.mem_of_getElem? (i := 904) (by decide +kernel), List.mem_of_getElem? (i := 905) (by decide +kernel)⟩
theorem lw_p34 : lw_okq (⟨"IceCoreDaterModel", "told", "(II)I"⟩, 12) := ⟨⟨by decide +kernel, by decide +kernel⟩, List.mem_of_getElem? (i := 681) (by decide +kernel), List.mem_of_getElem? (i := 926) (by decide +kernel), List.mem_of_getElem? (i := 927) (by decide +kernel)⟩
theorem lw_p35 : lw_okq (⟨"IceCoreDaterModel", "delayOf", "(I)I"⟩, 12) := ⟨⟨by decide +kernel, by decide +kernel⟩, List.mem_of_getElem? (i := 681) (by decide +kernel), List.mem_of_getElem? (i := 950) (by decide +kernel), List.mem_of_getElem? (i := 951) (by decide +kernel)⟩
theorem lw_p36 : lw_okq (⟨"IceCoreDaterModel", "depthRefused", "(I)I"⟩, 12) := ⟨⟨by decide +kernel, by decide +kernel⟩, List.mem_of_getElem? (i := 681) (by decide +kernel), List.mem_of_getElem? (i := 971) (by decide +kernel), List.mem_of_getElem? (i := 972) (by decide +kernel)⟩
theorem lw_p37 : lw_okq (⟨"IceCoreDaterModel", "ageAt", "(I)I"⟩, 12) := ⟨⟨by decide +kernel, by decide +kernel⟩, List.mem_of_getElem? (i := 681) (by decide +kernel), List.mem_of_getElem? (i := 975) (by decide +kernel), List.mem_of_getElem? (i := 976) (by decide +kernel)⟩
theorem lw_p38 : lw_okq (⟨"IceCoreDaterModel", "layerAt", "(I)I"⟩, 12) := ⟨⟨by decide +kernel, by decide +kernel⟩, List.mem_of_getElem? (i := 681) (by decide +kernel), List.mem_of_getElem? (i := 979) (by decide +kernel), List.mem_of_getElem? (i := 980) (by decide +kernel)⟩
theorem lw_p39 : lw_okq (⟨"IceCoreDaterModel", "gasAgeAt", "(I)I"⟩, 12) := ⟨⟨by decide +kernel, by decide +kernel⟩, List.mem_of_getElem? (i := 681) (by decide +kernel), List.mem_of_getElem? (i := 990) (by decide +kernel), List.mem_of_getElem? (i := 991) (by decide +kernel)⟩
theorem lw_p40 : lw_okq (⟨"IceCoreDaterModel", "leastDepth", "(IZ)I"⟩, 12) := ⟨⟨by decide +kernel, by decide +kernel⟩, List.mem_of_getElem? (i := 681) (by decide +kernel), List.mem_of_getElem? (i := 998) (by decide +kernel), List.mem_of_getElem? (i := 999) (by decide +kernel)⟩
theorem lw_p41 : lw_okq (⟨"IceCoreDaterModel", "residuals", "()J"⟩, 12) := ⟨⟨by decide +kernel, by decide +kernel⟩, List.mem_of_getElem? (i := 681) (by decide +kernel), List.mem_of_getElem? (i := 1028) (by decide +kernel), List.mem_of_getElem? (i := 1029) (by decide +kernel)⟩
def lw_privs_3 : List (MethodName × Nat) := [(⟨"IceCoreDaterModel", "hasNumbers", "(I)Z"⟩, 12), (⟨"IceCoreDaterModel", "use", "()I"⟩, 12), (⟨"IceCoreDaterModel", "told", "(II)I"⟩, 12), (⟨"IceCoreDaterModel", "delayOf", "(I)I"⟩, 12), (⟨"IceCoreDaterModel", "depthRefused", "(I)I"⟩, 12), (⟨"IceCoreDaterModel", "ageAt", "(I)I"⟩, 12), (⟨"IceCoreDaterModel", "layerAt", "(I)I"⟩, 12), (⟨"IceCoreDaterModel", "gasAgeAt", "(I)I"⟩, 12), (⟨"IceCoreDaterModel", "leastDepth", "(IZ)I"⟩, 12), (⟨"IceCoreDaterModel", "residuals", "()J"⟩, 12)]
theorem lw_r3 : ∀ q ∈ lw_privs_3, lw_okq q := List.forall_mem_cons.mpr ⟨lw_p32, List.forall_mem_cons.mpr ⟨lw_p33, List.forall_mem_cons.mpr ⟨lw_p34, List.forall_mem_cons.mpr ⟨lw_p35, List.forall_mem_cons.mpr ⟨lw_p36, List.forall_mem_cons.mpr ⟨lw_p37, List.forall_mem_cons.mpr ⟨lw_p38, List.forall_mem_cons.mpr ⟨lw_p39, List.forall_mem_cons.mpr ⟨lw_p40, List.forall_mem_cons.mpr ⟨lw_p41, fun _ h => absurd h List.not_mem_nil⟩⟩⟩⟩⟩⟩⟩⟩⟩⟩
def lw_privs : List (MethodName × Nat) := lw_privs_1 ++ (lw_privs_2 ++ (lw_privs_3))
def lw_tbl : List Cond := k2_sels lw_privs ++ tables_1
theorem lw_privs_ok : ∀ q ∈ lw_privs, lw_okq q := by
  show ∀ q ∈ lw_privs_1 ++ (lw_privs_2 ++ (lw_privs_3)), lw_okq q
  exact List.forall_mem_append.mpr ⟨lw_r1, List.forall_mem_append.mpr ⟨lw_r2, lw_r3⟩⟩
end
section
/-! ===== BEGIN words of one list among another's, by their places ===== -/
theorem goodIn_r {big : List Cond} (ws : List Cond) (ps : List Nat) (hp : ws = ps.filterMap (fun i => big[i]?)) (h : ws.all goodWord = true) : GoodIn big ws := by
  intro w hw
  have h1 := List.all_eq_true.mp h w hw
  rw [hp] at hw
  obtain ⟨i, -, hi⟩ := List.mem_filterMap.mp hw
  have hm : w ∈ big := by first | exact List.mem_of_getElem? hi | exact List.getElem?_mem hi
  exact ⟨hm, good_of_word h1⟩
theorem goodIn_app {big a b : List Cond} (ha : GoodIn big a) (hb : GoodIn big b) : GoodIn big (a ++ b) := fun w h => (List.mem_append.mp h).elim (ha w) (hb w)
theorem goodIn_ca {big a b : List Cond} {c : Cond} (ha : GoodIn big (c :: a)) (hb : GoodIn big b) : GoodIn big (c :: (a ++ b)) := fun w h => (List.mem_cons.mp h).elim (fun e => ha w (List.mem_cons.mpr (Or.inl e))) (fun h => (List.mem_append.mp h).elim (fun h => ha w (List.mem_cons.mpr (Or.inr h))) (hb w))
theorem goodIn_sub {big ws : List Cond} (hm : ∀ w ∈ ws, w ∈ big) (h : ws.all goodWord = true) : GoodIn big ws := fun w hw => ⟨hm w hw, good_of_word (List.all_eq_true.mp h w hw)⟩
/-! ===== END ===== -/

/-! ===== BEGIN printed: names, fields, word lists, decode rows ===== -/
def RX0 : String := "IceCoreDater$Core"
def TX0 : u_T := fun k => match k with
  | 0 => ("IceCoreDater$Core", "size", "I", false)
  | 1 => ("IceCoreDater$Core", "bed", "I", false)
  | 2 => ("IceCoreDater$Core", "function", "I", false)
  | 3 => ("IceCoreDater$Core", "kink", "I", false)
  | 4 => ("IceCoreDater$Core", "closeOff", "I", false)
  | 5 => ("IceCoreDater$Core", "thickness", "[I", true)
  | 6 => ("IceCoreDater$Core", "accumulation", "[I", true)
  | 7 => ("IceCoreDater$Core", "correction", "[I", true)
  | 8 => ("IceCoreDater$Core", "told", "[I", true)
  | 9 => ("IceCoreDater$Core", "ashAge", "[I", true)
  | 10 => ("IceCoreDater$Core", "ashTolerance", "[I", true)
  | _ => ("IceCoreDater$Core", "count", "[I", true)
def tyX0 : Nat → FieldType := fun k => match k with
  | 0 => .int
  | 1 => .int
  | 2 => .int
  | 3 => .int
  | 4 => .int
  | 5 => .array .int
  | 6 => .array .int
  | 7 => .array .int
  | 8 => .array .int
  | 9 => .array .int
  | 10 => .array .int
  | _ => .array .int
abbrev wsX00 : List Cond := u_ws RX0 TX0 12
theorem nmX0 : ∀ a, a < 12 → ∀ b, b < 12 → a ≠ b → (TX0 a).2.1 ≠ (TX0 b).2.1 := by decide +kernel
theorem tyX0_ok : ∀ k, k < 12 → parseFieldDescriptor (TX0 k).2.2.1 = some (tyX0 k) := by decide +kernel
abbrev cX0_init : ByteArray := prog_2_method_1_code
def yX0_init : MethodName := ⟨RX0, "<init>", "()V"⟩
abbrev cX0_copyFrom : ByteArray := prog_2_method_2_code
def yX0_copyFrom : MethodName := ⟨RX0, "copyFrom", "(LIceCoreDater$Core;)V"⟩
abbrev cX0_has : ByteArray := prog_2_method_3_code
def yX0_has : MethodName := ⟨RX0, "has", "(I)Z"⟩
abbrev cX0_hasAsh : ByteArray := prog_2_method_4_code
def yX0_hasAsh : MethodName := ⟨RX0, "hasAsh", "(I)Z"⟩
abbrev cX0_hasCount : ByteArray := prog_2_method_5_code
def yX0_hasCount : MethodName := ⟨RX0, "hasCount", "(I)Z"⟩
abbrev cX0_ashBeds : ByteArray := prog_2_method_6_code
def yX0_ashBeds : MethodName := ⟨RX0, "ashBeds", "()I"⟩
abbrev cX0_topOf : ByteArray := prog_2_method_7_code
def yX0_topOf : MethodName := ⟨RX0, "topOf", "(I)I"⟩
abbrev cX0_bottom : ByteArray := prog_2_method_8_code
def yX0_bottom : MethodName := ⟨RX0, "bottom", "()I"⟩
abbrev cX0_append : ByteArray := prog_2_method_9_code
def yX0_append : MethodName := ⟨RX0, "append", "(II)I"⟩
abbrev cX0_dropLowest : ByteArray := prog_2_method_10_code
def yX0_dropLowest : MethodName := ⟨RX0, "dropLowest", "()I"⟩
abbrev cX0_split : ByteArray := prog_2_method_11_code
def yX0_split : MethodName := ⟨RX0, "split", "(II)I"⟩
abbrev cX0_copyLayer : ByteArray := prog_2_method_12_code
def yX0_copyLayer : MethodName := ⟨RX0, "copyLayer", "(II)V"⟩
abbrev cX0_putBed : ByteArray := prog_2_method_13_code
def yX0_putBed : MethodName := ⟨RX0, "putBed", "(I)I"⟩
abbrev cX0_putFunction : ByteArray := prog_2_method_14_code
def yX0_putFunction : MethodName := ⟨RX0, "putFunction", "(I)I"⟩
abbrev cX0_putKink : ByteArray := prog_2_method_15_code
def yX0_putKink : MethodName := ⟨RX0, "putKink", "(I)I"⟩
abbrev cX0_putTold : ByteArray := prog_2_method_16_code
def yX0_putTold : MethodName := ⟨RX0, "putTold", "(II)I"⟩
abbrev cX0_putCorrection : ByteArray := prog_2_method_17_code
def yX0_putCorrection : MethodName := ⟨RX0, "putCorrection", "(II)I"⟩
abbrev cX0_putCloseOff : ByteArray := prog_2_method_18_code
def yX0_putCloseOff : MethodName := ⟨RX0, "putCloseOff", "(I)I"⟩
abbrev cX0_putAsh : ByteArray := prog_2_method_19_code
def yX0_putAsh : MethodName := ⟨RX0, "putAsh", "(III)I"⟩
abbrev cX0_dropAsh : ByteArray := prog_2_method_20_code
def yX0_dropAsh : MethodName := ⟨RX0, "dropAsh", "(I)I"⟩
abbrev cX0_putCount : ByteArray := prog_2_method_21_code
def yX0_putCount : MethodName := ⟨RX0, "putCount", "(II)I"⟩
abbrev cX0_thinningOf : ByteArray := prog_2_method_22_code
def yX0_thinningOf : MethodName := ⟨RX0, "thinningOf", "(III)I"⟩
abbrev cX0_yearsDividend : ByteArray := prog_2_method_23_code
def yX0_yearsDividend : MethodName := ⟨RX0, "yearsDividend", "(I)J"⟩
abbrev cX0_yearsOf : ByteArray := prog_2_method_24_code
def yX0_yearsOf : MethodName := ⟨RX0, "yearsOf", "(III)I"⟩
abbrev cX0_delayOf : ByteArray := prog_2_method_25_code
def yX0_delayOf : MethodName := ⟨RX0, "delayOf", "(I)I"⟩
abbrev cX0_countErrorOf : ByteArray := prog_2_method_26_code
def yX0_countErrorOf : MethodName := ⟨RX0, "countErrorOf", "(I)I"⟩
abbrev cX0_residualOf : ByteArray := prog_2_method_27_code
def yX0_residualOf : MethodName := ⟨RX0, "residualOf", "(I)I"⟩
abbrev cX0_fittingBeds : ByteArray := prog_2_method_28_code
def yX0_fittingBeds : MethodName := ⟨RX0, "fittingBeds", "()I"⟩
abbrev cX0_misfit : ByteArray := prog_2_method_29_code
def yX0_misfit : MethodName := ⟨RX0, "misfit", "(II)J"⟩
abbrev cX0_sealOfAges : ByteArray := prog_2_method_30_code
def yX0_sealOfAges : MethodName := ⟨RX0, "sealOfAges", "()I"⟩
abbrev cX0_ageAt : ByteArray := prog_2_method_31_code
def yX0_ageAt : MethodName := ⟨RX0, "ageAt", "(I)I"⟩
abbrev cX0_gasAgeAt : ByteArray := prog_2_method_32_code
def yX0_gasAgeAt : MethodName := ⟨RX0, "gasAgeAt", "(I)I"⟩
abbrev cX0_leastDepthOf : ByteArray := prog_2_method_33_code
def yX0_leastDepthOf : MethodName := ⟨RX0, "leastDepthOf", "(I)I"⟩
abbrev cX0_leastGasDepthOf : ByteArray := prog_2_method_34_code
def yX0_leastGasDepthOf : MethodName := ⟨RX0, "leastGasDepthOf", "(I)I"⟩
abbrev cX0_stepsFor : ByteArray := prog_2_method_35_code
def yX0_stepsFor : MethodName := ⟨RX0, "stepsFor", "(JII)I"⟩
abbrev cX0_invertedBorders : ByteArray := prog_2_method_36_code
def yX0_invertedBorders : MethodName := ⟨RX0, "invertedBorders", "()I"⟩
abbrev cX0_fitCorrections : ByteArray := prog_2_method_37_code
def yX0_fitCorrections : MethodName := ⟨RX0, "fitCorrections", "(LIceCoreDater$Falling;)I"⟩
abbrev cX0_canBeTuned : ByteArray := prog_2_method_38_code
def yX0_canBeTuned : MethodName := ⟨RX0, "canBeTuned", "()Z"⟩
abbrev cX0_fitSegment : ByteArray := prog_2_method_39_code
def yX0_fitSegment : MethodName := ⟨RX0, "fitSegment", "(IIILIceCoreDater$Falling;)V"⟩
abbrev cX0_fitAccumulation : ByteArray := prog_2_method_40_code
def yX0_fitAccumulation : MethodName := ⟨RX0, "fitAccumulation", "(ILIceCoreDater$Falling;)I"⟩
def RX1 : String := "IceCoreDater$Falling"
def TX1 : u_T := fun k => match k with
  | 0 => ("IceCoreDater$Falling", "size", "I", false)
  | 1 => ("IceCoreDater$Falling", "dividends", "[J", true)
  | _ => ("IceCoreDater$Falling", "factors", "[J", true)
def tyX1 : Nat → FieldType := fun k => match k with
  | 0 => .int
  | 1 => .array .long
  | _ => .array .long
abbrev wsX10 : List Cond := u_ws RX1 TX1 3
theorem nmX1 : ∀ a, a < 3 → ∀ b, b < 3 → a ≠ b → (TX1 a).2.1 ≠ (TX1 b).2.1 := by decide +kernel
theorem tyX1_ok : ∀ k, k < 3 → parseFieldDescriptor (TX1 k).2.2.1 = some (tyX1 k) := by decide +kernel
abbrev cX1_init : ByteArray := prog_3_method_1_code
def yX1_init : MethodName := ⟨RX1, "<init>", "()V"⟩
abbrev cX1_clear : ByteArray := prog_3_method_2_code
def yX1_clear : MethodName := ⟨RX1, "clear", "()V"⟩
abbrev cX1_add : ByteArray := prog_3_method_3_code
def yX1_add : MethodName := ⟨RX1, "add", "(JJ)V"⟩
abbrev cX1_nearest : ByteArray := prog_3_method_4_code
def yX1_nearest : MethodName := ⟨RX1, "nearest", "(IIJ)I"⟩
abbrev cX1_firstAtMost : ByteArray := prog_3_method_5_code
def yX1_firstAtMost : MethodName := ⟨RX1, "firstAtMost", "(IIJ)I"⟩
abbrev cX1_sum : ByteArray := prog_3_method_6_code
def yX1_sum : MethodName := ⟨RX1, "sum", "(I)J"⟩
def RX2 : String := "IceCoreDater$Log"
def TX2 : u_T := fun k => match k with
  | 0 => ("IceCoreDater$Log", "slots", "[LIceCoreDater$Core;", true)
  | 1 => ("IceCoreDater$Log", "oldest", "I", false)
  | _ => ("IceCoreDater$Log", "size", "I", false)
def tyX2 : Nat → FieldType := fun k => match k with
  | 0 => .array (.object "IceCoreDater$Core")
  | 1 => .int
  | _ => .int
abbrev wsX20 : List Cond := u_ws RX2 TX2 3
theorem nmX2 : ∀ a, a < 3 → ∀ b, b < 3 → a ≠ b → (TX2 a).2.1 ≠ (TX2 b).2.1 := by decide +kernel
theorem tyX2_ok : ∀ k, k < 3 → parseFieldDescriptor (TX2 k).2.2.1 = some (tyX2 k) := by decide +kernel
abbrev cX2_init : ByteArray := prog_4_method_1_code
def yX2_init : MethodName := ⟨RX2, "<init>", "()V"⟩
abbrev cX2_prepare : ByteArray := prog_4_method_2_code
def yX2_prepare : MethodName := ⟨RX2, "prepare", "(LIceCoreDater$Core;)V"⟩
abbrev cX2_keep : ByteArray := prog_4_method_3_code
def yX2_keep : MethodName := ⟨RX2, "keep", "()V"⟩
abbrev cX2_restore : ByteArray := prog_4_method_4_code
def yX2_restore : MethodName := ⟨RX2, "restore", "(LIceCoreDater$Core;)I"⟩
def RX3 : String := "IceCoreDater$Text"
def TX3 : u_T := fun k => match k with
  | 0 => ("IceCoreDater$Text", "length", "I", false)
  | 1 => ("IceCoreDater$Text", "words", "I", false)
  | 2 => ("IceCoreDater$Text", "signs", "[C", true)
  | 3 => ("IceCoreDater$Text", "starts", "[I", true)
  | _ => ("IceCoreDater$Text", "ends", "[I", true)
def tyX3 : Nat → FieldType := fun k => match k with
  | 0 => .int
  | 1 => .int
  | 2 => .array .char
  | 3 => .array .int
  | _ => .array .int
abbrev wsX30 : List Cond := u_ws RX3 TX3 5
theorem nmX3 : ∀ a, a < 5 → ∀ b, b < 5 → a ≠ b → (TX3 a).2.1 ≠ (TX3 b).2.1 := by decide +kernel
theorem tyX3_ok : ∀ k, k < 5 → parseFieldDescriptor (TX3 k).2.2.1 = some (tyX3 k) := by decide +kernel
abbrev cX3_init : ByteArray := prog_5_method_1_code
def yX3_init : MethodName := ⟨RX3, "<init>", "()V"⟩
abbrev cX3_append : ByteArray := prog_5_method_2_code
def yX3_append : MethodName := ⟨RX3, "append", "(I)I"⟩
abbrev cX3_empty : ByteArray := prog_5_method_3_code
def yX3_empty : MethodName := ⟨RX3, "empty", "()I"⟩
abbrev cX3_at : ByteArray := prog_5_method_4_code
def yX3_at : MethodName := ⟨RX3, "at", "(I)C"⟩
abbrev cX3_readCommand : ByteArray := prog_5_method_5_code
def yX3_readCommand : MethodName := ⟨RX3, "readCommand", "(II)V"⟩
abbrev cX3_markStart : ByteArray := prog_5_method_6_code
def yX3_markStart : MethodName := ⟨RX3, "markStart", "(I)V"⟩
abbrev cX3_markEnd : ByteArray := prog_5_method_7_code
def yX3_markEnd : MethodName := ⟨RX3, "markEnd", "(I)V"⟩
abbrev cX3_hasWord : ByteArray := prog_5_method_8_code
def yX3_hasWord : MethodName := ⟨RX3, "hasWord", "(I)Z"⟩
abbrev cX3_isCommand : ByteArray := prog_5_method_9_code
def yX3_isCommand : MethodName := ⟨RX3, "isCommand", "(Ljava/lang/String;I)Z"⟩
abbrev cX3_isWord : ByteArray := prog_5_method_10_code
def yX3_isWord : MethodName := ⟨RX3, "isWord", "(ILjava/lang/String;)Z"⟩
abbrev cX3_isNumber : ByteArray := prog_5_method_11_code
def yX3_isNumber : MethodName := ⟨RX3, "isNumber", "(I)Z"⟩
abbrev cX3_number : ByteArray := prog_5_method_12_code
def yX3_number : MethodName := ⟨RX3, "number", "(I)I"⟩
def RX4 : String := "IceCoreDater"
def TX4 : u_T := fun k => match k with
  | 0 => ("IceCoreDater", "core", "LIceCoreDater$Core;", true)
  | 1 => ("IceCoreDater", "log", "LIceCoreDater$Log;", true)
  | 2 => ("IceCoreDater", "falling", "LIceCoreDater$Falling;", true)
  | 3 => ("IceCoreDater", "text", "LIceCoreDater$Text;", true)
  | 4 => ("IceCoreDater", "acts", "I", false)
  | _ => ("IceCoreDater", "failure", "I", false)
def tyX4 : Nat → FieldType := fun k => match k with
  | 0 => .object "IceCoreDater$Core"
  | 1 => .object "IceCoreDater$Log"
  | 2 => .object "IceCoreDater$Falling"
  | 3 => .object "IceCoreDater$Text"
  | 4 => .int
  | _ => .int
abbrev wsX40 : List Cond := u_ws RX4 TX4 6
theorem nmX4 : ∀ a, a < 6 → ∀ b, b < 6 → a ≠ b → (TX4 a).2.1 ≠ (TX4 b).2.1 := by decide +kernel
theorem tyX4_ok : ∀ k, k < 6 → parseFieldDescriptor (TX4 k).2.2.1 = some (tyX4 k) := by decide +kernel
abbrev cX4_init : ByteArray := prog_1_method_1_code
def yX4_init : MethodName := ⟨RX4, "<init>", "()V"⟩
abbrev cX4_addLayer : ByteArray := prog_1_method_2_code
def yX4_addLayer : MethodName := ⟨RX4, "addLayer", "(II)I"⟩
abbrev cX4_removeLowest : ByteArray := prog_1_method_3_code
def yX4_removeLowest : MethodName := ⟨RX4, "removeLowest", "()I"⟩
abbrev cX4_divide : ByteArray := prog_1_method_4_code
def yX4_divide : MethodName := ⟨RX4, "divide", "(II)I"⟩
abbrev cX4_setBed : ByteArray := prog_1_method_5_code
def yX4_setBed : MethodName := ⟨RX4, "setBed", "(I)I"⟩
abbrev cX4_setFunction : ByteArray := prog_1_method_6_code
def yX4_setFunction : MethodName := ⟨RX4, "setFunction", "(I)I"⟩
abbrev cX4_setKink : ByteArray := prog_1_method_7_code
def yX4_setKink : MethodName := ⟨RX4, "setKink", "(I)I"⟩
abbrev cX4_tellThinning : ByteArray := prog_1_method_8_code
def yX4_tellThinning : MethodName := ⟨RX4, "tellThinning", "(II)I"⟩
abbrev cX4_correct : ByteArray := prog_1_method_9_code
def yX4_correct : MethodName := ⟨RX4, "correct", "(II)I"⟩
abbrev cX4_setCloseOff : ByteArray := prog_1_method_10_code
def yX4_setCloseOff : MethodName := ⟨RX4, "setCloseOff", "(I)I"⟩
abbrev cX4_setAsh : ByteArray := prog_1_method_11_code
def yX4_setAsh : MethodName := ⟨RX4, "setAsh", "(III)I"⟩
abbrev cX4_removeAsh : ByteArray := prog_1_method_12_code
def yX4_removeAsh : MethodName := ⟨RX4, "removeAsh", "(I)I"⟩
abbrev cX4_setCount : ByteArray := prog_1_method_13_code
def yX4_setCount : MethodName := ⟨RX4, "setCount", "(II)I"⟩
abbrev cX4_tune : ByteArray := prog_1_method_14_code
def yX4_tune : MethodName := ⟨RX4, "tune", "()I"⟩
abbrev cX4_undo : ByteArray := prog_1_method_15_code
def yX4_undo : MethodName := ⟨RX4, "undo", "()I"⟩
abbrev cX4_type : ByteArray := prog_1_method_16_code
def yX4_type : MethodName := ⟨RX4, "type", "(I)I"⟩
abbrev cX4_clearText : ByteArray := prog_1_method_17_code
def yX4_clearText : MethodName := ⟨RX4, "clearText", "()I"⟩
abbrev cX4_run : ByteArray := prog_1_method_18_code
def yX4_run : MethodName := ⟨RX4, "run", "()I"⟩
abbrev cX4_failure : ByteArray := prog_1_method_19_code
def yX4_failure : MethodName := ⟨RX4, "failure", "()I"⟩
abbrev cX4_layers : ByteArray := prog_1_method_20_code
def yX4_layers : MethodName := ⟨RX4, "layers", "()I"⟩
abbrev cX4_depth : ByteArray := prog_1_method_21_code
def yX4_depth : MethodName := ⟨RX4, "depth", "()I"⟩
abbrev cX4_thickness : ByteArray := prog_1_method_22_code
def yX4_thickness : MethodName := ⟨RX4, "thickness", "(I)I"⟩
abbrev cX4_accumulation : ByteArray := prog_1_method_23_code
def yX4_accumulation : MethodName := ⟨RX4, "accumulation", "(I)I"⟩
abbrev cX4_correction : ByteArray := prog_1_method_24_code
def yX4_correction : MethodName := ⟨RX4, "correction", "(I)I"⟩
abbrev cX4_thinning : ByteArray := prog_1_method_25_code
def yX4_thinning : MethodName := ⟨RX4, "thinning", "(I)I"⟩
abbrev cX4_years : ByteArray := prog_1_method_26_code
def yX4_years : MethodName := ⟨RX4, "years", "(I)I"⟩
abbrev cX4_delay : ByteArray := prog_1_method_27_code
def yX4_delay : MethodName := ⟨RX4, "delay", "(I)I"⟩
abbrev cX4_residual : ByteArray := prog_1_method_28_code
def yX4_residual : MethodName := ⟨RX4, "residual", "(I)I"⟩
abbrev cX4_countError : ByteArray := prog_1_method_29_code
def yX4_countError : MethodName := ⟨RX4, "countError", "(I)I"⟩
abbrev cX4_fitting : ByteArray := prog_1_method_30_code
def yX4_fitting : MethodName := ⟨RX4, "fitting", "()I"⟩
abbrev cX4_age : ByteArray := prog_1_method_31_code
def yX4_age : MethodName := ⟨RX4, "age", "(I)I"⟩
abbrev cX4_gasAge : ByteArray := prog_1_method_32_code
def yX4_gasAge : MethodName := ⟨RX4, "gasAge", "(I)I"⟩
abbrev cX4_depthOf : ByteArray := prog_1_method_33_code
def yX4_depthOf : MethodName := ⟨RX4, "depthOf", "(I)I"⟩
abbrev cX4_gasDepthOf : ByteArray := prog_1_method_34_code
def yX4_gasDepthOf : MethodName := ⟨RX4, "gasDepthOf", "(I)I"⟩
abbrev cX4_lead : ByteArray := prog_1_method_35_code
def yX4_lead : MethodName := ⟨RX4, "lead", "(II)I"⟩
abbrev cX4_inversions : ByteArray := prog_1_method_36_code
def yX4_inversions : MethodName := ⟨RX4, "inversions", "()I"⟩
abbrev cX4_acts : ByteArray := prog_1_method_37_code
def yX4_acts : MethodName := ⟨RX4, "acts", "()I"⟩
abbrev cX4_seal : ByteArray := prog_1_method_38_code
def yX4_seal : MethodName := ⟨RX4, "seal", "()I"⟩
abbrev cX4_bestFunction : ByteArray := prog_1_method_39_code
def yX4_bestFunction : MethodName := ⟨RX4, "bestFunction", "()I"⟩
abbrev cX4_bestKink : ByteArray := prog_1_method_40_code
def yX4_bestKink : MethodName := ⟨RX4, "bestKink", "()I"⟩
abbrev cX4_neededAccumulation : ByteArray := prog_1_method_41_code
def yX4_neededAccumulation : MethodName := ⟨RX4, "neededAccumulation", "(I)I"⟩
abbrev cX4_closeAct : ByteArray := prog_1_method_42_code
def yX4_closeAct : MethodName := ⟨RX4, "closeAct", "(I)I"⟩
abbrev cX4_isError : ByteArray := prog_1_method_43_code
def yX4_isError : MethodName := ⟨RX4, "isError", "(I)Z"⟩
abbrev cX4_failureOf : ByteArray := prog_1_method_44_code
def yX4_failureOf : MethodName := ⟨RX4, "failureOf", "(I)I"⟩
abbrev cX4_execute : ByteArray := prog_1_method_45_code
def yX4_execute : MethodName := ⟨RX4, "execute", "()I"⟩
abbrev cX4_executeUse : ByteArray := prog_1_method_46_code
def yX4_executeUse : MethodName := ⟨RX4, "executeUse", "()I"⟩
abbrev cX4_depthFault : ByteArray := prog_1_method_47_code
def yX4_depthFault : MethodName := ⟨RX4, "depthFault", "(I)I"⟩
abbrev cX4_quotient : ByteArray := prog_1_method_48_code
def yX4_quotient : MethodName := ⟨RX4, "quotient", "(JJ)J"⟩
abbrev cX4_isBetween : ByteArray := prog_1_method_49_code
def yX4_isBetween : MethodName := ⟨RX4, "isBetween", "(III)Z"⟩
def RX5 : String := "IceCoreDaterModel"
def TX5 : u_T := fun k => match k with
  | 0 => ("IceCoreDaterModel", "now", "[I", true)
  | 1 => ("IceCoreDaterModel", "acts", "I", false)
  | 2 => ("IceCoreDaterModel", "past", "[I", true)
  | 3 => ("IceCoreDaterModel", "recorded", "I", false)
  | 4 => ("IceCoreDaterModel", "running", "Z", false)
  | 5 => ("IceCoreDaterModel", "thinnings", "[I", true)
  | 6 => ("IceCoreDaterModel", "text", "[I", true)
  | 7 => ("IceCoreDaterModel", "texted", "I", false)
  | 8 => ("IceCoreDaterModel", "failed", "I", false)
  | 9 => ("IceCoreDaterModel", "words", "I", false)
  | 10 => ("IceCoreDaterModel", "spelled", "[J", true)
  | _ => ("IceCoreDaterModel", "numbers", "[I", true)
def tyX5 : Nat → FieldType := fun k => match k with
  | 0 => .array .int
  | 1 => .int
  | 2 => .array .int
  | 3 => .int
  | 4 => .boolean
  | 5 => .array .int
  | 6 => .array .int
  | 7 => .int
  | 8 => .int
  | 9 => .int
  | 10 => .array .long
  | _ => .array .int
abbrev wsX50 : List Cond := u_ws RX5 TX5 12
theorem nmX5 : ∀ a, a < 12 → ∀ b, b < 12 → a ≠ b → (TX5 a).2.1 ≠ (TX5 b).2.1 := by decide +kernel
theorem tyX5_ok : ∀ k, k < 12 → parseFieldDescriptor (TX5 k).2.2.1 = some (tyX5 k) := by decide +kernel
abbrev cX5_init : ByteArray := prog_7_method_1_code
def yX5_init : MethodName := ⟨RX5, "<init>", "()V"⟩
abbrev cX5_in : ByteArray := prog_7_method_3_code
def yX5_in : MethodName := ⟨RX5, "in", "(III)Z"⟩
abbrev cX5_isLayer : ByteArray := prog_7_method_4_code
def yX5_isLayer : MethodName := ⟨RX5, "isLayer", "(I)Z"⟩
abbrev cX5_of : ByteArray := prog_7_method_5_code
def yX5_of : MethodName := ⟨RX5, "of", "(II)I"⟩
abbrev cX5_size : ByteArray := prog_7_method_6_code
def yX5_size : MethodName := ⟨RX5, "size", "(J)J"⟩
abbrev cX5_record : ByteArray := prog_7_method_7_code
def yX5_record : MethodName := ⟨RX5, "record", "()V"⟩
abbrev cX5_undo : ByteArray := prog_7_method_8_code
def yX5_undo : MethodName := ⟨RX5, "undo", "()I"⟩
abbrev cX5_top : ByteArray := prog_7_method_9_code
def yX5_top : MethodName := ⟨RX5, "top", "(I)I"⟩
abbrev cX5_thinningOf : ByteArray := prog_7_method_10_code
def yX5_thinningOf : MethodName := ⟨RX5, "thinningOf", "(I)I"⟩
abbrev cX5_yearsBy : ByteArray := prog_7_method_11_code
def yX5_yearsBy : MethodName := ⟨RX5, "yearsBy", "(JJJJ)I"⟩
abbrev cX5_yearsOf : ByteArray := prog_7_method_12_code
def yX5_yearsOf : MethodName := ⟨RX5, "yearsOf", "(I)I"⟩
abbrev cX5_ageAtTop : ByteArray := prog_7_method_13_code
def yX5_ageAtTop : MethodName := ⟨RX5, "ageAtTop", "(I)I"⟩
abbrev cX5_delayOf : ByteArray := prog_7_method_14_code
def yX5_delayOf : MethodName := ⟨RX5, "delayOf", "(I)I"⟩
abbrev cX5_layerAt : ByteArray := prog_7_method_15_code
def yX5_layerAt : MethodName := ⟨RX5, "layerAt", "(I)I"⟩
abbrev cX5_part : ByteArray := prog_7_method_16_code
def yX5_part : MethodName := ⟨RX5, "part", "(III)I"⟩
abbrev cX5_ageAt : ByteArray := prog_7_method_17_code
def yX5_ageAt : MethodName := ⟨RX5, "ageAt", "(I)I"⟩
abbrev cX5_gasAgeAt : ByteArray := prog_7_method_18_code
def yX5_gasAgeAt : MethodName := ⟨RX5, "gasAgeAt", "(I)I"⟩
abbrev cX5_bottom : ByteArray := prog_7_method_19_code
def yX5_bottom : MethodName := ⟨RX5, "bottom", "()I"⟩
abbrev cX5_residualOf : ByteArray := prog_7_method_20_code
def yX5_residualOf : MethodName := ⟨RX5, "residualOf", "(I)I"⟩
abbrev cX5_ashes : ByteArray := prog_7_method_21_code
def yX5_ashes : MethodName := ⟨RX5, "ashes", "()I"⟩
abbrev cX5_fits : ByteArray := prog_7_method_22_code
def yX5_fits : MethodName := ⟨RX5, "fits", "()I"⟩
abbrev cX5_addLayer : ByteArray := prog_7_method_23_code
def yX5_addLayer : MethodName := ⟨RX5, "addLayer", "(II)I"⟩
abbrev cX5_removeLowest : ByteArray := prog_7_method_24_code
def yX5_removeLowest : MethodName := ⟨RX5, "removeLowest", "()I"⟩
abbrev cX5_divide : ByteArray := prog_7_method_25_code
def yX5_divide : MethodName := ⟨RX5, "divide", "(II)I"⟩
abbrev cX5_change : ByteArray := prog_7_method_26_code
def yX5_change : MethodName := ⟨RX5, "change", "(II)I"⟩
abbrev cX5_setBed : ByteArray := prog_7_method_27_code
def yX5_setBed : MethodName := ⟨RX5, "setBed", "(I)I"⟩
abbrev cX5_setFunction : ByteArray := prog_7_method_28_code
def yX5_setFunction : MethodName := ⟨RX5, "setFunction", "(I)I"⟩
abbrev cX5_setKink : ByteArray := prog_7_method_29_code
def yX5_setKink : MethodName := ⟨RX5, "setKink", "(I)I"⟩
abbrev cX5_tellThinning : ByteArray := prog_7_method_30_code
def yX5_tellThinning : MethodName := ⟨RX5, "tellThinning", "(II)I"⟩
abbrev cX5_correct : ByteArray := prog_7_method_31_code
def yX5_correct : MethodName := ⟨RX5, "correct", "(II)I"⟩
abbrev cX5_setCloseOff : ByteArray := prog_7_method_32_code
def yX5_setCloseOff : MethodName := ⟨RX5, "setCloseOff", "(I)I"⟩
abbrev cX5_setAsh : ByteArray := prog_7_method_33_code
def yX5_setAsh : MethodName := ⟨RX5, "setAsh", "(III)I"⟩
abbrev cX5_removeAsh : ByteArray := prog_7_method_34_code
def yX5_removeAsh : MethodName := ⟨RX5, "removeAsh", "(I)I"⟩
abbrev cX5_setCount : ByteArray := prog_7_method_35_code
def yX5_setCount : MethodName := ⟨RX5, "setCount", "(II)I"⟩
abbrev cX5_yearsWith : ByteArray := prog_7_method_36_code
def yX5_yearsWith : MethodName := ⟨RX5, "yearsWith", "(III)J"⟩
abbrev cX5_tuneSegment : ByteArray := prog_7_method_37_code
def yX5_tuneSegment : MethodName := ⟨RX5, "tuneSegment", "(IIJ)V"⟩
abbrev cX5_canTune : ByteArray := prog_7_method_38_code
def yX5_canTune : MethodName := ⟨RX5, "canTune", "()Z"⟩
abbrev cX5_tune : ByteArray := prog_7_method_39_code
def yX5_tune : MethodName := ⟨RX5, "tune", "()I"⟩
abbrev cX5_type : ByteArray := prog_7_method_40_code
def yX5_type : MethodName := ⟨RX5, "type", "(I)I"⟩
abbrev cX5_clearText : ByteArray := prog_7_method_41_code
def yX5_clearText : MethodName := ⟨RX5, "clearText", "()I"⟩
abbrev cX5_word : ByteArray := prog_7_method_42_code
def yX5_word : MethodName := ⟨RX5, "word", "(IIIIII)J"⟩
abbrev cX5_readWord : ByteArray := prog_7_method_43_code
def yX5_readWord : MethodName := ⟨RX5, "readWord", "(II)V"⟩
abbrev cX5_readCommand : ByteArray := prog_7_method_44_code
def yX5_readCommand : MethodName := ⟨RX5, "readCommand", "(I)I"⟩
abbrev cX5_hasNumbers : ByteArray := prog_7_method_45_code
def yX5_hasNumbers : MethodName := ⟨RX5, "hasNumbers", "(I)Z"⟩
abbrev cX5_use : ByteArray := prog_7_method_46_code
def yX5_use : MethodName := ⟨RX5, "use", "()I"⟩
abbrev cX5_outcome : ByteArray := prog_7_method_47_code
def yX5_outcome : MethodName := ⟨RX5, "outcome", "(I)I"⟩
abbrev cX5_perform : ByteArray := prog_7_method_48_code
def yX5_perform : MethodName := ⟨RX5, "perform", "()I"⟩
abbrev cX5_run : ByteArray := prog_7_method_49_code
def yX5_run : MethodName := ⟨RX5, "run", "()I"⟩
abbrev cX5_failure : ByteArray := prog_7_method_50_code
def yX5_failure : MethodName := ⟨RX5, "failure", "()I"⟩
abbrev cX5_layers : ByteArray := prog_7_method_51_code
def yX5_layers : MethodName := ⟨RX5, "layers", "()I"⟩
abbrev cX5_depth : ByteArray := prog_7_method_52_code
def yX5_depth : MethodName := ⟨RX5, "depth", "()I"⟩
abbrev cX5_told : ByteArray := prog_7_method_53_code
def yX5_told : MethodName := ⟨RX5, "told", "(II)I"⟩
abbrev cX5_thickness : ByteArray := prog_7_method_54_code
def yX5_thickness : MethodName := ⟨RX5, "thickness", "(I)I"⟩
abbrev cX5_accumulation : ByteArray := prog_7_method_55_code
def yX5_accumulation : MethodName := ⟨RX5, "accumulation", "(I)I"⟩
abbrev cX5_correction : ByteArray := prog_7_method_56_code
def yX5_correction : MethodName := ⟨RX5, "correction", "(I)I"⟩
abbrev cX5_thinning : ByteArray := prog_7_method_57_code
def yX5_thinning : MethodName := ⟨RX5, "thinning", "(I)I"⟩
abbrev cX5_years : ByteArray := prog_7_method_58_code
def yX5_years : MethodName := ⟨RX5, "years", "(I)I"⟩
abbrev cX5_delay : ByteArray := prog_7_method_59_code
def yX5_delay : MethodName := ⟨RX5, "delay", "(I)I"⟩
abbrev cX5_residual : ByteArray := prog_7_method_60_code
def yX5_residual : MethodName := ⟨RX5, "residual", "(I)I"⟩
abbrev cX5_countError : ByteArray := prog_7_method_61_code
def yX5_countError : MethodName := ⟨RX5, "countError", "(I)I"⟩
abbrev cX5_fitting : ByteArray := prog_7_method_62_code
def yX5_fitting : MethodName := ⟨RX5, "fitting", "()I"⟩
abbrev cX5_depthRefused : ByteArray := prog_7_method_63_code
def yX5_depthRefused : MethodName := ⟨RX5, "depthRefused", "(I)I"⟩
abbrev cX5_age : ByteArray := prog_7_method_64_code
def yX5_age : MethodName := ⟨RX5, "age", "(I)I"⟩
abbrev cX5_gasAge : ByteArray := prog_7_method_65_code
def yX5_gasAge : MethodName := ⟨RX5, "gasAge", "(I)I"⟩
abbrev cX5_leastDepth : ByteArray := prog_7_method_66_code
def yX5_leastDepth : MethodName := ⟨RX5, "leastDepth", "(IZ)I"⟩
abbrev cX5_depthOf : ByteArray := prog_7_method_67_code
def yX5_depthOf : MethodName := ⟨RX5, "depthOf", "(I)I"⟩
abbrev cX5_gasDepthOf : ByteArray := prog_7_method_68_code
def yX5_gasDepthOf : MethodName := ⟨RX5, "gasDepthOf", "(I)I"⟩
abbrev cX5_lead : ByteArray := prog_7_method_69_code
def yX5_lead : MethodName := ⟨RX5, "lead", "(II)I"⟩
abbrev cX5_inversions : ByteArray := prog_7_method_70_code
def yX5_inversions : MethodName := ⟨RX5, "inversions", "()I"⟩
abbrev cX5_acts : ByteArray := prog_7_method_71_code
def yX5_acts : MethodName := ⟨RX5, "acts", "()I"⟩
abbrev cX5_seal : ByteArray := prog_7_method_72_code
def yX5_seal : MethodName := ⟨RX5, "seal", "()I"⟩
abbrev cX5_residuals : ByteArray := prog_7_method_73_code
def yX5_residuals : MethodName := ⟨RX5, "residuals", "()J"⟩
abbrev cX5_bestFunction : ByteArray := prog_7_method_74_code
def yX5_bestFunction : MethodName := ⟨RX5, "bestFunction", "()I"⟩
abbrev cX5_bestKink : ByteArray := prog_7_method_75_code
def yX5_bestKink : MethodName := ⟨RX5, "bestKink", "()I"⟩
abbrev cX5_neededAccumulation : ByteArray := prog_7_method_76_code
def yX5_neededAccumulation : MethodName := ⟨RX5, "neededAccumulation", "(I)I"⟩
def RJ9 : String := "java/lang/Math"
def TJ9 : u_T := fun k => match k with
  | _ => ("", "", "", false)
def tyJ9 : Nat → FieldType := fun k => match k with
  | _ => .int
abbrev wsJ90 : List Cond := u_ws RJ9 TJ9 0
theorem nmJ9 : ∀ a, a < 0 → ∀ b, b < 0 → a ≠ b → (TJ9 a).2.1 ≠ (TJ9 b).2.1 := by decide +kernel
theorem tyJ9_ok : ∀ k, k < 0 → parseFieldDescriptor (TJ9 k).2.2.1 = some (tyJ9 k) := by decide +kernel
abbrev cJ9_abs_0f7a4 : ByteArray := prog_8_method_59_code
def yJ9_abs_0f7a4 : MethodName := ⟨RJ9, "abs", "(I)I"⟩
abbrev cJ9_max_7cf53 : ByteArray := prog_8_method_65_code
def yJ9_max_7cf53 : MethodName := ⟨RJ9, "max", "(II)I"⟩
abbrev cJ9_max_f86c9 : ByteArray := prog_8_method_66_code
def yJ9_max_f86c9 : MethodName := ⟨RJ9, "max", "(JJ)J"⟩
def RJ0 : String := "java/lang/String"
def TJ0 : u_T := fun k => match k with
  | _ => ("", "", "", false)
def tyJ0 : Nat → FieldType := fun k => match k with
  | _ => .int
abbrev wsJ00 : List Cond := u_ws RJ0 TJ0 0
theorem nmJ0 : ∀ a, a < 0 → ∀ b, b < 0 → a ≠ b → (TJ0 a).2.1 ≠ (TJ0 b).2.1 := by decide +kernel
theorem tyJ0_ok : ∀ k, k < 0 → parseFieldDescriptor (TJ0 k).2.2.1 = some (tyJ0 k) := by decide +kernel
abbrev cJ0_length_8abf5 : ByteArray := prog_9_method_54_code
def yJ0_length_8abf5 : MethodName := ⟨RJ0, "length", "()I"⟩
abbrev cJ0_charAt_5068e : ByteArray := prog_9_method_56_code
def yJ0_charAt_5068e : MethodName := ⟨RJ0, "charAt", "(I)C"⟩
abbrev cJ0_coder_7d493 : ByteArray := prog_9_method_152_code
def yJ0_coder_7d493 : MethodName := ⟨RJ0, "coder", "()B"⟩
abbrev cJ0_isLatin1_aae02 : ByteArray := prog_9_method_154_code
def yJ0_isLatin1_aae02 : MethodName := ⟨RJ0, "isLatin1", "()Z"⟩
abbrev cJ0_checkIndex_df160 : ByteArray := prog_9_method_155_code
def yJ0_checkIndex_df160 : MethodName := ⟨RJ0, "checkIndex", "(II)V"⟩
def RJ1 : String := "java/lang/StringLatin1"
def TJ1 : u_T := fun k => match k with
  | _ => ("", "", "", false)
def tyJ1 : Nat → FieldType := fun k => match k with
  | _ => .int
abbrev wsJ10 : List Cond := u_ws RJ1 TJ1 0
theorem nmJ1 : ∀ a, a < 0 → ∀ b, b < 0 → a ≠ b → (TJ1 a).2.1 ≠ (TJ1 b).2.1 := by decide +kernel
theorem tyJ1_ok : ∀ k, k < 0 → parseFieldDescriptor (TJ1 k).2.2.1 = some (tyJ1 k) := by decide +kernel
abbrev cJ1_charAt_3b067 : ByteArray := prog_10_method_2_code
def yJ1_charAt_3b067 : MethodName := ⟨RJ1, "charAt", "([BI)C"⟩
def RJ2 : String := "java/lang/StringUTF16"
def TJ2 : u_T := fun k => match k with
  | _ => ("", "", "", false)
def tyJ2 : Nat → FieldType := fun k => match k with
  | _ => .int
abbrev wsJ20 : List Cond := u_ws RJ2 TJ2 0
theorem nmJ2 : ∀ a, a < 0 → ∀ b, b < 0 → a ≠ b → (TJ2 a).2.1 ≠ (TJ2 b).2.1 := by decide +kernel
theorem tyJ2_ok : ∀ k, k < 0 → parseFieldDescriptor (TJ2 k).2.2.1 = some (tyJ2 k) := by decide +kernel
abbrev cJ2_getChar_3b067 : ByteArray := prog_11_method_5_code
def yJ2_getChar_3b067 : MethodName := ⟨RJ2, "getChar", "([BI)C"⟩
abbrev cJ2_length_9d52b : ByteArray := prog_11_method_6_code
def yJ2_length_9d52b : MethodName := ⟨RJ2, "length", "([B)I"⟩
abbrev cJ2_charAt_3b067 : ByteArray := prog_11_method_83_code
def yJ2_charAt_3b067 : MethodName := ⟨RJ2, "charAt", "([BI)C"⟩
abbrev cJ2_checkIndex_2214a : ByteArray := prog_11_method_91_code
def yJ2_checkIndex_2214a : MethodName := ⟨RJ2, "checkIndex", "(I[B)V"⟩
def RJ10 : String := "java/lang/System"
def TJ10 : u_T := fun k => match k with
  | _ => ("", "", "", false)
def tyJ10 : Nat → FieldType := fun k => match k with
  | _ => .int
abbrev wsJ100 : List Cond := u_ws RJ10 TJ10 0
theorem nmJ10 : ∀ a, a < 0 → ∀ b, b < 0 → a ≠ b → (TJ10 a).2.1 ≠ (TJ10 b).2.1 := by decide +kernel
theorem tyJ10_ok : ∀ k, k < 0 → parseFieldDescriptor (TJ10 k).2.2.1 = some (tyJ10 k) := by decide +kernel
def RJ3 : String := "jdk/internal/util/Preconditions"
def TJ3 : u_T := fun k => match k with
  | _ => ("", "", "", false)
def tyJ3 : Nat → FieldType := fun k => match k with
  | _ => .int
abbrev wsJ30 : List Cond := u_ws RJ3 TJ3 0
theorem nmJ3 : ∀ a, a < 0 → ∀ b, b < 0 → a ≠ b → (TJ3 a).2.1 ≠ (TJ3 b).2.1 := by decide +kernel
theorem tyJ3_ok : ∀ k, k < 0 → parseFieldDescriptor (TJ3 k).2.2.1 = some (tyJ3 k) := by decide +kernel
abbrev cJ3_checkIndex_8e157 : ByteArray := prog_13_method_11_code
def yJ3_checkIndex_8e157 : MethodName := ⟨RJ3, "checkIndex", "(IILjava/util/function/BiFunction;)I"⟩
def RL : String := "IceCoreDaterLaw"
abbrev cL_law : ByteArray := code
def yL_law : MethodName := ⟨RL, "law", "([I)Z"⟩
def wsX0_init : List Cond := .code yX0_init cX0_init 1 none :: ([.methodLink RX0 3 objectInit, .instanceMethod objectInit, .code objectInit ⟨#[0xb1]⟩ 1 none, .fieldLink RX0 9 "IceCoreDater$Core" "size" "I", .constant RX0 15 (100000), .fieldLink RX0 16 "IceCoreDater$Core" "bed" "I", .fieldLink RX0 19 "IceCoreDater$Core" "function" "I", .fieldLink RX0 22 "IceCoreDater$Core" "kink" "I", .fieldLink RX0 25 "IceCoreDater$Core" "closeOff" "I", .arrayClass .int, .fieldLink RX0 28 "IceCoreDater$Core" "thickness" "[I", .fieldLink RX0 32 "IceCoreDater$Core" "accumulation" "[I", .fieldLink RX0 35 "IceCoreDater$Core" "correction" "[I", .fieldLink RX0 38 "IceCoreDater$Core" "told" "[I", .fieldLink RX0 41 "IceCoreDater$Core" "ashAge" "[I", .fieldLink RX0 44 "IceCoreDater$Core" "ashTolerance" "[I", .fieldLink RX0 47 "IceCoreDater$Core" "count" "[I"] ++ wsX00)
def wsX0_copyFrom : List Cond := .code yX0_copyFrom cX0_copyFrom 2 none :: ([.fieldLink RX0 9 "IceCoreDater$Core" "size" "I", .fieldLink RX0 16 "IceCoreDater$Core" "bed" "I", .fieldLink RX0 19 "IceCoreDater$Core" "function" "I", .fieldLink RX0 22 "IceCoreDater$Core" "kink" "I", .fieldLink RX0 25 "IceCoreDater$Core" "closeOff" "I", .fieldLink RX0 28 "IceCoreDater$Core" "thickness" "[I", .methodLink RX0 50 arraycopyName, .native arraycopyName, .static arraycopyName, .initialized "java/lang/System", .fieldLink RX0 32 "IceCoreDater$Core" "accumulation" "[I", .fieldLink RX0 35 "IceCoreDater$Core" "correction" "[I", .fieldLink RX0 38 "IceCoreDater$Core" "told" "[I", .fieldLink RX0 41 "IceCoreDater$Core" "ashAge" "[I", .fieldLink RX0 44 "IceCoreDater$Core" "ashTolerance" "[I", .fieldLink RX0 47 "IceCoreDater$Core" "count" "[I"] ++ wsX00)
def wsX0_has : List Cond := .code yX0_has cX0_has 2 (some .boolean) :: ([.fieldLink RX0 9 "IceCoreDater$Core" "size" "I"] ++ wsX00)
def wsX0_hasAsh : List Cond := .code yX0_hasAsh cX0_hasAsh 2 (some .boolean) :: ([.fieldLink RX0 41 "IceCoreDater$Core" "ashAge" "[I", .methodLink RX0 56 yX0_has, .instanceMethod yX0_has, .selects RX0 yX0_has yX0_has, .initialized RX0, .code yX0_has cX0_has 2 (some .boolean), .fieldLink RX0 9 "IceCoreDater$Core" "size" "I"] ++ wsX00)
def wsX0_hasCount : List Cond := .code yX0_hasCount cX0_hasCount 2 (some .boolean) :: ([.fieldLink RX0 47 "IceCoreDater$Core" "count" "[I", .methodLink RX0 56 yX0_has, .instanceMethod yX0_has, .selects RX0 yX0_has yX0_has, .initialized RX0, .code yX0_has cX0_has 2 (some .boolean), .fieldLink RX0 9 "IceCoreDater$Core" "size" "I"] ++ wsX00)
def wsX0_ashBeds : List Cond := .code yX0_ashBeds cX0_ashBeds 3 (some .int) :: ([.fieldLink RX0 9 "IceCoreDater$Core" "size" "I", .methodLink RX0 60 yX0_hasAsh, .instanceMethod yX0_hasAsh, .selects RX0 yX0_hasAsh yX0_hasAsh, .initialized RX0, .code yX0_hasAsh cX0_hasAsh 2 (some .boolean), .fieldLink RX0 41 "IceCoreDater$Core" "ashAge" "[I", .methodLink RX0 56 yX0_has, .instanceMethod yX0_has, .selects RX0 yX0_has yX0_has, .code yX0_has cX0_has 2 (some .boolean)] ++ wsX00)
def wsX0_topOf : List Cond := .code yX0_topOf cX0_topOf 4 (some .int) :: ([.fieldLink RX0 9 "IceCoreDater$Core" "size" "I", .fieldLink RX0 28 "IceCoreDater$Core" "thickness" "[I"] ++ wsX00)
def wsX0_bottom : List Cond := .code yX0_bottom cX0_bottom 1 (some .int) :: ([.fieldLink RX0 9 "IceCoreDater$Core" "size" "I", .methodLink RX0 63 yX0_topOf, .instanceMethod yX0_topOf, .selects RX0 yX0_topOf yX0_topOf, .initialized RX0, .code yX0_topOf cX0_topOf 4 (some .int), .fieldLink RX0 28 "IceCoreDater$Core" "thickness" "[I"] ++ wsX00)
def wsX4_isBetween : List Cond := .code yX4_isBetween cX4_isBetween 3 (some .boolean) :: ([])
def wsX0_append : List Cond := .code yX0_append cX0_append 3 (some .int) :: ([.constant RX0 71 (-1000000002), .fieldLink RX0 16 "IceCoreDater$Core" "bed" "I", .constant RX0 76 (-1000000003), .fieldLink RX0 9 "IceCoreDater$Core" "size" "I", .constant RX0 77 (-1000000004), .fieldLink RX0 28 "IceCoreDater$Core" "thickness" "[I", .fieldLink RX0 32 "IceCoreDater$Core" "accumulation" "[I", .fieldLink RX0 35 "IceCoreDater$Core" "correction" "[I", .fieldLink RX0 38 "IceCoreDater$Core" "told" "[I", .fieldLink RX0 41 "IceCoreDater$Core" "ashAge" "[I", .fieldLink RX0 44 "IceCoreDater$Core" "ashTolerance" "[I", .fieldLink RX0 47 "IceCoreDater$Core" "count" "[I", .static yX4_isBetween, .initialized RX4, .code yX4_isBetween cX4_isBetween 3 (some .boolean), .methodLink RX0 72 yX0_bottom, .instanceMethod yX0_bottom, .selects RX0 yX0_bottom yX0_bottom, .initialized RX0, .code yX0_bottom cX0_bottom 1 (some .int), .methodLink RX0 63 yX0_topOf, .instanceMethod yX0_topOf, .selects RX0 yX0_topOf yX0_topOf, .code yX0_topOf cX0_topOf 4 (some .int)] ++ wsX00)
def wsX0_dropLowest : List Cond := .code yX0_dropLowest cX0_dropLowest 1 (some .int) :: ([.fieldLink RX0 9 "IceCoreDater$Core" "size" "I", .constant RX0 76 (-1000000003)] ++ wsX00)
def wsX0_copyLayer : List Cond := .code yX0_copyLayer cX0_copyLayer 3 none :: ([.fieldLink RX0 28 "IceCoreDater$Core" "thickness" "[I", .fieldLink RX0 32 "IceCoreDater$Core" "accumulation" "[I", .fieldLink RX0 35 "IceCoreDater$Core" "correction" "[I", .fieldLink RX0 38 "IceCoreDater$Core" "told" "[I", .fieldLink RX0 41 "IceCoreDater$Core" "ashAge" "[I", .fieldLink RX0 44 "IceCoreDater$Core" "ashTolerance" "[I", .fieldLink RX0 47 "IceCoreDater$Core" "count" "[I"] ++ wsX00)
def wsX0_split : List Cond := .code yX0_split cX0_split 4 (some .int) :: ([.constant RX0 78 (-1000000001), .fieldLink RX0 28 "IceCoreDater$Core" "thickness" "[I", .constant RX0 71 (-1000000002), .fieldLink RX0 9 "IceCoreDater$Core" "size" "I", .constant RX0 77 (-1000000004), .fieldLink RX0 41 "IceCoreDater$Core" "ashAge" "[I", .fieldLink RX0 47 "IceCoreDater$Core" "count" "[I", .methodLink RX0 56 yX0_has, .instanceMethod yX0_has, .selects RX0 yX0_has yX0_has, .initialized RX0, .code yX0_has cX0_has 2 (some .boolean), .static yX4_isBetween, .initialized RX4, .code yX4_isBetween cX4_isBetween 3 (some .boolean), .methodLink RX0 79 yX0_copyLayer, .instanceMethod yX0_copyLayer, .selects RX0 yX0_copyLayer yX0_copyLayer, .code yX0_copyLayer cX0_copyLayer 3 none, .fieldLink RX0 32 "IceCoreDater$Core" "accumulation" "[I", .fieldLink RX0 35 "IceCoreDater$Core" "correction" "[I", .fieldLink RX0 38 "IceCoreDater$Core" "told" "[I", .fieldLink RX0 44 "IceCoreDater$Core" "ashTolerance" "[I"] ++ wsX00)
def wsX0_putBed : List Cond := .code yX0_putBed cX0_putBed 3 (some .int) :: ([.constant RX0 83 (200000), .constant RX0 71 (-1000000002), .constant RX0 76 (-1000000003), .fieldLink RX0 16 "IceCoreDater$Core" "bed" "I", .static yX4_isBetween, .initialized RX4, .code yX4_isBetween cX4_isBetween 3 (some .boolean), .methodLink RX0 72 yX0_bottom, .instanceMethod yX0_bottom, .selects RX0 yX0_bottom yX0_bottom, .initialized RX0, .code yX0_bottom cX0_bottom 1 (some .int), .fieldLink RX0 9 "IceCoreDater$Core" "size" "I", .methodLink RX0 63 yX0_topOf, .instanceMethod yX0_topOf, .selects RX0 yX0_topOf yX0_topOf, .code yX0_topOf cX0_topOf 4 (some .int), .fieldLink RX0 28 "IceCoreDater$Core" "thickness" "[I"] ++ wsX00)
def wsX0_putFunction : List Cond := .code yX0_putFunction cX0_putFunction 3 (some .int) :: ([.constant RX0 71 (-1000000002), .fieldLink RX0 19 "IceCoreDater$Core" "function" "I", .static yX4_isBetween, .initialized RX4, .code yX4_isBetween cX4_isBetween 3 (some .boolean)] ++ wsX00)
def wsX0_putKink : List Cond := .code yX0_putKink cX0_putKink 3 (some .int) :: ([.constant RX0 71 (-1000000002), .fieldLink RX0 22 "IceCoreDater$Core" "kink" "I", .static yX4_isBetween, .initialized RX4, .code yX4_isBetween cX4_isBetween 3 (some .boolean)] ++ wsX00)
def wsX0_putTold : List Cond := .code yX0_putTold cX0_putTold 4 (some .int) :: ([.constant RX0 78 (-1000000001), .constant RX0 71 (-1000000002), .fieldLink RX0 38 "IceCoreDater$Core" "told" "[I", .methodLink RX0 56 yX0_has, .instanceMethod yX0_has, .selects RX0 yX0_has yX0_has, .initialized RX0, .code yX0_has cX0_has 2 (some .boolean), .fieldLink RX0 9 "IceCoreDater$Core" "size" "I", .static yX4_isBetween, .initialized RX4, .code yX4_isBetween cX4_isBetween 3 (some .boolean)] ++ wsX00)
def wsX0_putCorrection : List Cond := .code yX0_putCorrection cX0_putCorrection 4 (some .int) :: ([.constant RX0 78 (-1000000001), .constant RX0 71 (-1000000002), .fieldLink RX0 35 "IceCoreDater$Core" "correction" "[I", .methodLink RX0 56 yX0_has, .instanceMethod yX0_has, .selects RX0 yX0_has yX0_has, .initialized RX0, .code yX0_has cX0_has 2 (some .boolean), .fieldLink RX0 9 "IceCoreDater$Core" "size" "I", .static yX4_isBetween, .initialized RX4, .code yX4_isBetween cX4_isBetween 3 (some .boolean)] ++ wsX00)
def wsX0_putCloseOff : List Cond := .code yX0_putCloseOff cX0_putCloseOff 3 (some .int) :: ([.constant RX0 71 (-1000000002), .fieldLink RX0 25 "IceCoreDater$Core" "closeOff" "I", .static yX4_isBetween, .initialized RX4, .code yX4_isBetween cX4_isBetween 3 (some .boolean)] ++ wsX00)
def wsX0_putAsh : List Cond := .code yX0_putAsh cX0_putAsh 4 (some .int) :: ([.constant RX0 78 (-1000000001), .constant RX0 84 (100000000), .constant RX0 71 (-1000000002), .fieldLink RX0 41 "IceCoreDater$Core" "ashAge" "[I", .fieldLink RX0 44 "IceCoreDater$Core" "ashTolerance" "[I", .methodLink RX0 56 yX0_has, .instanceMethod yX0_has, .selects RX0 yX0_has yX0_has, .initialized RX0, .code yX0_has cX0_has 2 (some .boolean), .fieldLink RX0 9 "IceCoreDater$Core" "size" "I", .static yX4_isBetween, .initialized RX4, .code yX4_isBetween cX4_isBetween 3 (some .boolean), .methodLink RX0 85 yX0_ashBeds, .instanceMethod yX0_ashBeds, .selects RX0 yX0_ashBeds yX0_ashBeds, .code yX0_ashBeds cX0_ashBeds 3 (some .int), .methodLink RX0 60 yX0_hasAsh, .instanceMethod yX0_hasAsh, .selects RX0 yX0_hasAsh yX0_hasAsh, .code yX0_hasAsh cX0_hasAsh 2 (some .boolean)] ++ wsX00)
def wsX0_dropAsh : List Cond := .code yX0_dropAsh cX0_dropAsh 2 (some .int) :: ([.constant RX0 78 (-1000000001), .constant RX0 76 (-1000000003), .fieldLink RX0 41 "IceCoreDater$Core" "ashAge" "[I", .methodLink RX0 56 yX0_has, .instanceMethod yX0_has, .selects RX0 yX0_has yX0_has, .initialized RX0, .code yX0_has cX0_has 2 (some .boolean), .fieldLink RX0 9 "IceCoreDater$Core" "size" "I", .methodLink RX0 60 yX0_hasAsh, .instanceMethod yX0_hasAsh, .selects RX0 yX0_hasAsh yX0_hasAsh, .code yX0_hasAsh cX0_hasAsh 2 (some .boolean), .methodLink RX0 85 yX0_ashBeds, .instanceMethod yX0_ashBeds, .selects RX0 yX0_ashBeds yX0_ashBeds, .code yX0_ashBeds cX0_ashBeds 3 (some .int)] ++ wsX00)
def wsX4_quotient : List Cond := .code yX4_quotient cX4_quotient 4 (some .long) :: ([])
def wsX0_thinningOf : List Cond := .code yX0_thinningOf cX0_thinningOf 15 (some .int) :: ([.fieldLink RX0 38 "IceCoreDater$Core" "told" "[I", .fieldLink RX0 16 "IceCoreDater$Core" "bed" "I", .fieldLink RX0 28 "IceCoreDater$Core" "thickness" "[I", .constantLong RX0 92 (1000), .constantLong RX0 94 (2), .constantLong RX0 96 (10), .methodLink RX0 102 Lib.MathLoose.max_long.x, .static Lib.MathLoose.max_long.x, .initialized "java/lang/Math", .code Lib.MathLoose.max_long.x Lib.MathLoose.max_long.code 4 (some .long), .methodLink RX0 63 yX0_topOf, .instanceMethod yX0_topOf, .selects RX0 yX0_topOf yX0_topOf, .initialized RX0, .code yX0_topOf cX0_topOf 4 (some .int), .fieldLink RX0 9 "IceCoreDater$Core" "size" "I", .static yX4_quotient, .initialized RX4, .code yX4_quotient cX4_quotient 4 (some .long)] ++ wsX00)
def wsX0_yearsDividend : List Cond := .code yX0_yearsDividend cX0_yearsDividend 2 (some .long) :: ([.constantLong RX0 107 (10000000), .fieldLink RX0 28 "IceCoreDater$Core" "thickness" "[I"] ++ wsX00)
def wsX0_yearsOf_r1 : List Cond := [Cond.fieldLink RX0 32 "IceCoreDater$Core" "accumulation" "[I", Cond.fieldLink RX0 35 "IceCoreDater$Core" "correction" "[I", Cond.methodLink RX0 109 yX0_thinningOf, Cond.instanceMethod yX0_thinningOf, Cond.selects RX0 yX0_thinningOf yX0_thinningOf, Cond.initialized RX0, Cond.code yX0_thinningOf cX0_thinningOf 15 (some .int), Cond.fieldLink RX0 38 "IceCoreDater$Core" "told" "[I", Cond.fieldLink RX0 16 "IceCoreDater$Core" "bed" "I", Cond.fieldLink RX0 28 "IceCoreDater$Core" "thickness" "[I", Cond.constantLong RX0 92 (1000), Cond.constantLong RX0 94 (2), Cond.constantLong RX0 96 (10), Cond.methodLink RX0 102 Lib.MathLoose.max_long.x, Cond.static Lib.MathLoose.max_long.x, Cond.initialized "java/lang/Math", Cond.code Lib.MathLoose.max_long.x Lib.MathLoose.max_long.code 4 (some .long), Cond.methodLink RX0 63 yX0_topOf, Cond.instanceMethod yX0_topOf, Cond.selects RX0 yX0_topOf yX0_topOf, Cond.code yX0_topOf cX0_topOf 4 (some .int), Cond.fieldLink RX0 9 "IceCoreDater$Core" "size" "I", Cond.static yX4_quotient, Cond.initialized RX4]
def wsX0_yearsOf_r2 : List Cond := [Cond.code yX4_quotient cX4_quotient 4 (some .long), Cond.methodLink RX0 113 yX0_yearsDividend, Cond.instanceMethod yX0_yearsDividend, Cond.selects RX0 yX0_yearsDividend yX0_yearsDividend, Cond.code yX0_yearsDividend cX0_yearsDividend 2 (some .long), Cond.constantLong RX0 107 (10000000)]
def wsX0_yearsOf : List Cond := .code yX0_yearsOf cX0_yearsOf 6 (some .int) :: ((wsX0_yearsOf_r1 ++ wsX0_yearsOf_r2) ++ wsX00)
def wsX0_countErrorOf_r1 : List Cond := [Cond.fieldLink RX0 19 "IceCoreDater$Core" "function" "I", Cond.fieldLink RX0 22 "IceCoreDater$Core" "kink" "I", Cond.fieldLink RX0 47 "IceCoreDater$Core" "count" "[I", Cond.methodLink RX0 119 yX0_yearsOf, Cond.instanceMethod yX0_yearsOf, Cond.selects RX0 yX0_yearsOf yX0_yearsOf, Cond.initialized RX0, Cond.code yX0_yearsOf cX0_yearsOf 6 (some .int), Cond.fieldLink RX0 32 "IceCoreDater$Core" "accumulation" "[I", Cond.fieldLink RX0 35 "IceCoreDater$Core" "correction" "[I", Cond.methodLink RX0 109 yX0_thinningOf, Cond.instanceMethod yX0_thinningOf, Cond.selects RX0 yX0_thinningOf yX0_thinningOf, Cond.code yX0_thinningOf cX0_thinningOf 15 (some .int), Cond.fieldLink RX0 38 "IceCoreDater$Core" "told" "[I", Cond.fieldLink RX0 16 "IceCoreDater$Core" "bed" "I", Cond.fieldLink RX0 28 "IceCoreDater$Core" "thickness" "[I", Cond.constantLong RX0 92 (1000), Cond.constantLong RX0 94 (2), Cond.constantLong RX0 96 (10), Cond.methodLink RX0 102 Lib.MathLoose.max_long.x, Cond.static Lib.MathLoose.max_long.x, Cond.initialized "java/lang/Math", Cond.code Lib.MathLoose.max_long.x Lib.MathLoose.max_long.code 4 (some .long)]
def wsX0_countErrorOf_r2 : List Cond := [Cond.methodLink RX0 63 yX0_topOf, Cond.instanceMethod yX0_topOf, Cond.selects RX0 yX0_topOf yX0_topOf, Cond.code yX0_topOf cX0_topOf 4 (some .int), Cond.fieldLink RX0 9 "IceCoreDater$Core" "size" "I", Cond.static yX4_quotient, Cond.initialized RX4, Cond.code yX4_quotient cX4_quotient 4 (some .long), Cond.methodLink RX0 113 yX0_yearsDividend, Cond.instanceMethod yX0_yearsDividend, Cond.selects RX0 yX0_yearsDividend yX0_yearsDividend, Cond.code yX0_yearsDividend cX0_yearsDividend 2 (some .long), Cond.constantLong RX0 107 (10000000)]
def wsX0_countErrorOf : List Cond := .code yX0_countErrorOf cX0_countErrorOf 2 (some .int) :: ((wsX0_countErrorOf_r1 ++ wsX0_countErrorOf_r2) ++ wsX00)
def wsX0_putCount_r1 : List Cond := [Cond.constant RX0 78 (-1000000001), Cond.constant RX0 88 (1000000), Cond.constant RX0 71 (-1000000002), Cond.fieldLink RX0 47 "IceCoreDater$Core" "count" "[I", Cond.methodLink RX0 56 yX0_has, Cond.instanceMethod yX0_has, Cond.selects RX0 yX0_has yX0_has, Cond.initialized RX0, Cond.code yX0_has cX0_has 2 (some .boolean), Cond.fieldLink RX0 9 "IceCoreDater$Core" "size" "I", Cond.static yX4_isBetween, Cond.initialized RX4, Cond.code yX4_isBetween cX4_isBetween 3 (some .boolean), Cond.methodLink RX0 89 yX0_countErrorOf, Cond.instanceMethod yX0_countErrorOf, Cond.selects RX0 yX0_countErrorOf yX0_countErrorOf, Cond.code yX0_countErrorOf cX0_countErrorOf 2 (some .int), Cond.fieldLink RX0 19 "IceCoreDater$Core" "function" "I", Cond.fieldLink RX0 22 "IceCoreDater$Core" "kink" "I", Cond.methodLink RX0 119 yX0_yearsOf, Cond.instanceMethod yX0_yearsOf, Cond.selects RX0 yX0_yearsOf yX0_yearsOf, Cond.code yX0_yearsOf cX0_yearsOf 6 (some .int), Cond.fieldLink RX0 32 "IceCoreDater$Core" "accumulation" "[I"]
def wsX0_putCount_r2 : List Cond := [Cond.fieldLink RX0 35 "IceCoreDater$Core" "correction" "[I", Cond.methodLink RX0 109 yX0_thinningOf, Cond.instanceMethod yX0_thinningOf, Cond.selects RX0 yX0_thinningOf yX0_thinningOf, Cond.code yX0_thinningOf cX0_thinningOf 15 (some .int), Cond.fieldLink RX0 38 "IceCoreDater$Core" "told" "[I", Cond.fieldLink RX0 16 "IceCoreDater$Core" "bed" "I", Cond.fieldLink RX0 28 "IceCoreDater$Core" "thickness" "[I", Cond.constantLong RX0 92 (1000), Cond.constantLong RX0 94 (2), Cond.constantLong RX0 96 (10), Cond.methodLink RX0 102 Lib.MathLoose.max_long.x, Cond.static Lib.MathLoose.max_long.x, Cond.initialized "java/lang/Math", Cond.code Lib.MathLoose.max_long.x Lib.MathLoose.max_long.code 4 (some .long), Cond.methodLink RX0 63 yX0_topOf, Cond.instanceMethod yX0_topOf, Cond.selects RX0 yX0_topOf yX0_topOf, Cond.code yX0_topOf cX0_topOf 4 (some .int), Cond.static yX4_quotient, Cond.code yX4_quotient cX4_quotient 4 (some .long), Cond.methodLink RX0 113 yX0_yearsDividend, Cond.instanceMethod yX0_yearsDividend, Cond.selects RX0 yX0_yearsDividend yX0_yearsDividend]
def wsX0_putCount_r3 : List Cond := [Cond.code yX0_yearsDividend cX0_yearsDividend 2 (some .long), Cond.constantLong RX0 107 (10000000)]
def wsX0_putCount : List Cond := .code yX0_putCount cX0_putCount 3 (some .int) :: ((wsX0_putCount_r1 ++ (wsX0_putCount_r2 ++ wsX0_putCount_r3)) ++ wsX00)
def wsX0_delayOf : List Cond := .code yX0_delayOf cX0_delayOf 2 (some .int) :: ([.constantLong RX0 117 (10000), .fieldLink RX0 25 "IceCoreDater$Core" "closeOff" "I", .fieldLink RX0 32 "IceCoreDater$Core" "accumulation" "[I", .fieldLink RX0 35 "IceCoreDater$Core" "correction" "[I", .static yX4_quotient, .initialized RX4, .code yX4_quotient cX4_quotient 4 (some .long)] ++ wsX00)
def wsX0_residualOf_r1 : List Cond := [Cond.fieldLink RX0 9 "IceCoreDater$Core" "size" "I", Cond.fieldLink RX0 19 "IceCoreDater$Core" "function" "I", Cond.fieldLink RX0 22 "IceCoreDater$Core" "kink" "I", Cond.fieldLink RX0 41 "IceCoreDater$Core" "ashAge" "[I", Cond.methodLink RX0 119 yX0_yearsOf, Cond.instanceMethod yX0_yearsOf, Cond.selects RX0 yX0_yearsOf yX0_yearsOf, Cond.initialized RX0, Cond.code yX0_yearsOf cX0_yearsOf 6 (some .int), Cond.fieldLink RX0 32 "IceCoreDater$Core" "accumulation" "[I", Cond.fieldLink RX0 35 "IceCoreDater$Core" "correction" "[I", Cond.methodLink RX0 109 yX0_thinningOf, Cond.instanceMethod yX0_thinningOf, Cond.selects RX0 yX0_thinningOf yX0_thinningOf, Cond.code yX0_thinningOf cX0_thinningOf 15 (some .int), Cond.fieldLink RX0 38 "IceCoreDater$Core" "told" "[I", Cond.fieldLink RX0 16 "IceCoreDater$Core" "bed" "I", Cond.fieldLink RX0 28 "IceCoreDater$Core" "thickness" "[I", Cond.constantLong RX0 92 (1000), Cond.constantLong RX0 94 (2), Cond.constantLong RX0 96 (10), Cond.methodLink RX0 102 Lib.MathLoose.max_long.x, Cond.static Lib.MathLoose.max_long.x, Cond.initialized "java/lang/Math"]
def wsX0_residualOf_r2 : List Cond := [Cond.code Lib.MathLoose.max_long.x Lib.MathLoose.max_long.code 4 (some .long), Cond.methodLink RX0 63 yX0_topOf, Cond.instanceMethod yX0_topOf, Cond.selects RX0 yX0_topOf yX0_topOf, Cond.code yX0_topOf cX0_topOf 4 (some .int), Cond.static yX4_quotient, Cond.initialized RX4, Cond.code yX4_quotient cX4_quotient 4 (some .long), Cond.methodLink RX0 113 yX0_yearsDividend, Cond.instanceMethod yX0_yearsDividend, Cond.selects RX0 yX0_yearsDividend yX0_yearsDividend, Cond.code yX0_yearsDividend cX0_yearsDividend 2 (some .long), Cond.constantLong RX0 107 (10000000)]
def wsX0_residualOf : List Cond := .code yX0_residualOf cX0_residualOf 4 (some .int) :: ((wsX0_residualOf_r1 ++ wsX0_residualOf_r2) ++ wsX00)
def wsX0_fittingBeds_r1 : List Cond := [Cond.fieldLink RX0 9 "IceCoreDater$Core" "size" "I", Cond.fieldLink RX0 19 "IceCoreDater$Core" "function" "I", Cond.fieldLink RX0 22 "IceCoreDater$Core" "kink" "I", Cond.fieldLink RX0 41 "IceCoreDater$Core" "ashAge" "[I", Cond.methodLink RX0 122 Lib.Math.abs.name, Cond.static Lib.Math.abs.name, Cond.initialized "java/lang/Math", Cond.code Lib.Math.abs.name Lib.Math.abs.code 1 (some .int), Cond.fieldLink RX0 44 "IceCoreDater$Core" "ashTolerance" "[I", Cond.methodLink RX0 119 yX0_yearsOf, Cond.instanceMethod yX0_yearsOf, Cond.selects RX0 yX0_yearsOf yX0_yearsOf, Cond.initialized RX0, Cond.code yX0_yearsOf cX0_yearsOf 6 (some .int), Cond.fieldLink RX0 32 "IceCoreDater$Core" "accumulation" "[I", Cond.fieldLink RX0 35 "IceCoreDater$Core" "correction" "[I", Cond.methodLink RX0 109 yX0_thinningOf, Cond.instanceMethod yX0_thinningOf, Cond.selects RX0 yX0_thinningOf yX0_thinningOf, Cond.code yX0_thinningOf cX0_thinningOf 15 (some .int), Cond.fieldLink RX0 38 "IceCoreDater$Core" "told" "[I", Cond.fieldLink RX0 16 "IceCoreDater$Core" "bed" "I", Cond.fieldLink RX0 28 "IceCoreDater$Core" "thickness" "[I", Cond.constantLong RX0 92 (1000)]
def wsX0_fittingBeds_r2 : List Cond := [Cond.constantLong RX0 94 (2), Cond.constantLong RX0 96 (10), Cond.methodLink RX0 102 Lib.MathLoose.max_long.x, Cond.static Lib.MathLoose.max_long.x, Cond.code Lib.MathLoose.max_long.x Lib.MathLoose.max_long.code 4 (some .long), Cond.methodLink RX0 63 yX0_topOf, Cond.instanceMethod yX0_topOf, Cond.selects RX0 yX0_topOf yX0_topOf, Cond.code yX0_topOf cX0_topOf 4 (some .int), Cond.static yX4_quotient, Cond.initialized RX4, Cond.code yX4_quotient cX4_quotient 4 (some .long), Cond.methodLink RX0 113 yX0_yearsDividend, Cond.instanceMethod yX0_yearsDividend, Cond.selects RX0 yX0_yearsDividend yX0_yearsDividend, Cond.code yX0_yearsDividend cX0_yearsDividend 2 (some .long), Cond.constantLong RX0 107 (10000000), Cond.methodLink RX0 60 yX0_hasAsh, Cond.instanceMethod yX0_hasAsh, Cond.selects RX0 yX0_hasAsh yX0_hasAsh, Cond.code yX0_hasAsh cX0_hasAsh 2 (some .boolean), Cond.methodLink RX0 56 yX0_has, Cond.instanceMethod yX0_has, Cond.selects RX0 yX0_has yX0_has]
def wsX0_fittingBeds_r3 : List Cond := [Cond.code yX0_has cX0_has 2 (some .boolean)]
def wsX0_fittingBeds : List Cond := .code yX0_fittingBeds cX0_fittingBeds 4 (some .int) :: ((wsX0_fittingBeds_r1 ++ (wsX0_fittingBeds_r2 ++ wsX0_fittingBeds_r3)) ++ wsX00)
def wsX0_misfit_r1 : List Cond := [Cond.fieldLink RX0 9 "IceCoreDater$Core" "size" "I", Cond.fieldLink RX0 41 "IceCoreDater$Core" "ashAge" "[I", Cond.methodLink RX0 122 Lib.Math.abs.name, Cond.static Lib.Math.abs.name, Cond.initialized "java/lang/Math", Cond.code Lib.Math.abs.name Lib.Math.abs.code 1 (some .int), Cond.methodLink RX0 119 yX0_yearsOf, Cond.instanceMethod yX0_yearsOf, Cond.selects RX0 yX0_yearsOf yX0_yearsOf, Cond.initialized RX0, Cond.code yX0_yearsOf cX0_yearsOf 6 (some .int), Cond.fieldLink RX0 32 "IceCoreDater$Core" "accumulation" "[I", Cond.fieldLink RX0 35 "IceCoreDater$Core" "correction" "[I", Cond.methodLink RX0 109 yX0_thinningOf, Cond.instanceMethod yX0_thinningOf, Cond.selects RX0 yX0_thinningOf yX0_thinningOf, Cond.code yX0_thinningOf cX0_thinningOf 15 (some .int), Cond.fieldLink RX0 38 "IceCoreDater$Core" "told" "[I", Cond.fieldLink RX0 16 "IceCoreDater$Core" "bed" "I", Cond.fieldLink RX0 28 "IceCoreDater$Core" "thickness" "[I", Cond.constantLong RX0 92 (1000), Cond.constantLong RX0 94 (2), Cond.constantLong RX0 96 (10), Cond.methodLink RX0 102 Lib.MathLoose.max_long.x]
def wsX0_misfit_r2 : List Cond := [Cond.static Lib.MathLoose.max_long.x, Cond.code Lib.MathLoose.max_long.x Lib.MathLoose.max_long.code 4 (some .long), Cond.methodLink RX0 63 yX0_topOf, Cond.instanceMethod yX0_topOf, Cond.selects RX0 yX0_topOf yX0_topOf, Cond.code yX0_topOf cX0_topOf 4 (some .int), Cond.static yX4_quotient, Cond.initialized RX4, Cond.code yX4_quotient cX4_quotient 4 (some .long), Cond.methodLink RX0 113 yX0_yearsDividend, Cond.instanceMethod yX0_yearsDividend, Cond.selects RX0 yX0_yearsDividend yX0_yearsDividend, Cond.code yX0_yearsDividend cX0_yearsDividend 2 (some .long), Cond.constantLong RX0 107 (10000000), Cond.methodLink RX0 60 yX0_hasAsh, Cond.instanceMethod yX0_hasAsh, Cond.selects RX0 yX0_hasAsh yX0_hasAsh, Cond.code yX0_hasAsh cX0_hasAsh 2 (some .boolean), Cond.methodLink RX0 56 yX0_has, Cond.instanceMethod yX0_has, Cond.selects RX0 yX0_has yX0_has, Cond.code yX0_has cX0_has 2 (some .boolean)]
def wsX0_misfit : List Cond := .code yX0_misfit cX0_misfit 7 (some .long) :: ((wsX0_misfit_r1 ++ wsX0_misfit_r2) ++ wsX00)
def wsX0_sealOfAges_r1 : List Cond := [Cond.fieldLink RX0 9 "IceCoreDater$Core" "size" "I", Cond.fieldLink RX0 19 "IceCoreDater$Core" "function" "I", Cond.fieldLink RX0 22 "IceCoreDater$Core" "kink" "I", Cond.methodLink RX0 119 yX0_yearsOf, Cond.instanceMethod yX0_yearsOf, Cond.selects RX0 yX0_yearsOf yX0_yearsOf, Cond.initialized RX0, Cond.code yX0_yearsOf cX0_yearsOf 6 (some .int), Cond.fieldLink RX0 32 "IceCoreDater$Core" "accumulation" "[I", Cond.fieldLink RX0 35 "IceCoreDater$Core" "correction" "[I", Cond.methodLink RX0 109 yX0_thinningOf, Cond.instanceMethod yX0_thinningOf, Cond.selects RX0 yX0_thinningOf yX0_thinningOf, Cond.code yX0_thinningOf cX0_thinningOf 15 (some .int), Cond.fieldLink RX0 38 "IceCoreDater$Core" "told" "[I", Cond.fieldLink RX0 16 "IceCoreDater$Core" "bed" "I", Cond.fieldLink RX0 28 "IceCoreDater$Core" "thickness" "[I", Cond.constantLong RX0 92 (1000), Cond.constantLong RX0 94 (2), Cond.constantLong RX0 96 (10), Cond.methodLink RX0 102 Lib.MathLoose.max_long.x, Cond.static Lib.MathLoose.max_long.x, Cond.initialized "java/lang/Math", Cond.code Lib.MathLoose.max_long.x Lib.MathLoose.max_long.code 4 (some .long)]
def wsX0_sealOfAges_r2 : List Cond := [Cond.methodLink RX0 63 yX0_topOf, Cond.instanceMethod yX0_topOf, Cond.selects RX0 yX0_topOf yX0_topOf, Cond.code yX0_topOf cX0_topOf 4 (some .int), Cond.static yX4_quotient, Cond.initialized RX4, Cond.code yX4_quotient cX4_quotient 4 (some .long), Cond.methodLink RX0 113 yX0_yearsDividend, Cond.instanceMethod yX0_yearsDividend, Cond.selects RX0 yX0_yearsDividend yX0_yearsDividend, Cond.code yX0_yearsDividend cX0_yearsDividend 2 (some .long), Cond.constantLong RX0 107 (10000000)]
def wsX0_sealOfAges : List Cond := .code yX0_sealOfAges cX0_sealOfAges 4 (some .int) :: ((wsX0_sealOfAges_r1 ++ wsX0_sealOfAges_r2) ++ wsX00)
def wsX0_ageAt_r1 : List Cond := [Cond.fieldLink RX0 9 "IceCoreDater$Core" "size" "I", Cond.fieldLink RX0 19 "IceCoreDater$Core" "function" "I", Cond.fieldLink RX0 22 "IceCoreDater$Core" "kink" "I", Cond.fieldLink RX0 28 "IceCoreDater$Core" "thickness" "[I", Cond.methodLink RX0 119 yX0_yearsOf, Cond.instanceMethod yX0_yearsOf, Cond.selects RX0 yX0_yearsOf yX0_yearsOf, Cond.initialized RX0, Cond.code yX0_yearsOf cX0_yearsOf 6 (some .int), Cond.fieldLink RX0 32 "IceCoreDater$Core" "accumulation" "[I", Cond.fieldLink RX0 35 "IceCoreDater$Core" "correction" "[I", Cond.methodLink RX0 109 yX0_thinningOf, Cond.instanceMethod yX0_thinningOf, Cond.selects RX0 yX0_thinningOf yX0_thinningOf, Cond.code yX0_thinningOf cX0_thinningOf 15 (some .int), Cond.fieldLink RX0 38 "IceCoreDater$Core" "told" "[I", Cond.fieldLink RX0 16 "IceCoreDater$Core" "bed" "I", Cond.constantLong RX0 92 (1000), Cond.constantLong RX0 94 (2), Cond.constantLong RX0 96 (10), Cond.methodLink RX0 102 Lib.MathLoose.max_long.x, Cond.static Lib.MathLoose.max_long.x, Cond.initialized "java/lang/Math", Cond.code Lib.MathLoose.max_long.x Lib.MathLoose.max_long.code 4 (some .long)]
def wsX0_ageAt_r2 : List Cond := [Cond.methodLink RX0 63 yX0_topOf, Cond.instanceMethod yX0_topOf, Cond.selects RX0 yX0_topOf yX0_topOf, Cond.code yX0_topOf cX0_topOf 4 (some .int), Cond.static yX4_quotient, Cond.initialized RX4, Cond.code yX4_quotient cX4_quotient 4 (some .long), Cond.methodLink RX0 113 yX0_yearsDividend, Cond.instanceMethod yX0_yearsDividend, Cond.selects RX0 yX0_yearsDividend yX0_yearsDividend, Cond.code yX0_yearsDividend cX0_yearsDividend 2 (some .long), Cond.constantLong RX0 107 (10000000)]
def wsX0_ageAt : List Cond := .code yX0_ageAt cX0_ageAt 7 (some .int) :: ((wsX0_ageAt_r1 ++ wsX0_ageAt_r2) ++ wsX00)
def wsX0_gasAgeAt_r1 : List Cond := [Cond.fieldLink RX0 9 "IceCoreDater$Core" "size" "I", Cond.fieldLink RX0 28 "IceCoreDater$Core" "thickness" "[I", Cond.methodLink RX0 131 Lib.Math.max.name, Cond.static Lib.Math.max.name, Cond.initialized "java/lang/Math", Cond.code Lib.Math.max.name Lib.Math.max.code 2 (some .int), Cond.methodLink RX0 125 yX0_ageAt, Cond.instanceMethod yX0_ageAt, Cond.selects RX0 yX0_ageAt yX0_ageAt, Cond.initialized RX0, Cond.code yX0_ageAt cX0_ageAt 7 (some .int), Cond.fieldLink RX0 19 "IceCoreDater$Core" "function" "I", Cond.fieldLink RX0 22 "IceCoreDater$Core" "kink" "I", Cond.methodLink RX0 119 yX0_yearsOf, Cond.instanceMethod yX0_yearsOf, Cond.selects RX0 yX0_yearsOf yX0_yearsOf, Cond.code yX0_yearsOf cX0_yearsOf 6 (some .int), Cond.fieldLink RX0 32 "IceCoreDater$Core" "accumulation" "[I", Cond.fieldLink RX0 35 "IceCoreDater$Core" "correction" "[I", Cond.methodLink RX0 109 yX0_thinningOf, Cond.instanceMethod yX0_thinningOf, Cond.selects RX0 yX0_thinningOf yX0_thinningOf, Cond.code yX0_thinningOf cX0_thinningOf 15 (some .int), Cond.fieldLink RX0 38 "IceCoreDater$Core" "told" "[I"]
def wsX0_gasAgeAt_r2 : List Cond := [Cond.fieldLink RX0 16 "IceCoreDater$Core" "bed" "I", Cond.constantLong RX0 92 (1000), Cond.constantLong RX0 94 (2), Cond.constantLong RX0 96 (10), Cond.methodLink RX0 102 Lib.MathLoose.max_long.x, Cond.static Lib.MathLoose.max_long.x, Cond.code Lib.MathLoose.max_long.x Lib.MathLoose.max_long.code 4 (some .long), Cond.methodLink RX0 63 yX0_topOf, Cond.instanceMethod yX0_topOf, Cond.selects RX0 yX0_topOf yX0_topOf, Cond.code yX0_topOf cX0_topOf 4 (some .int), Cond.static yX4_quotient, Cond.initialized RX4, Cond.code yX4_quotient cX4_quotient 4 (some .long), Cond.methodLink RX0 113 yX0_yearsDividend, Cond.instanceMethod yX0_yearsDividend, Cond.selects RX0 yX0_yearsDividend yX0_yearsDividend, Cond.code yX0_yearsDividend cX0_yearsDividend 2 (some .long), Cond.constantLong RX0 107 (10000000), Cond.methodLink RX0 128 yX0_delayOf, Cond.instanceMethod yX0_delayOf, Cond.selects RX0 yX0_delayOf yX0_delayOf, Cond.code yX0_delayOf cX0_delayOf 2 (some .int), Cond.constantLong RX0 117 (10000)]
def wsX0_gasAgeAt_r3 : List Cond := [Cond.fieldLink RX0 25 "IceCoreDater$Core" "closeOff" "I"]
def wsX0_gasAgeAt : List Cond := .code yX0_gasAgeAt cX0_gasAgeAt 4 (some .int) :: ((wsX0_gasAgeAt_r1 ++ (wsX0_gasAgeAt_r2 ++ wsX0_gasAgeAt_r3)) ++ wsX00)
def wsX0_stepsFor : List Cond := .code yX0_stepsFor cX0_stepsFor 4 (some .int) :: ([.static yX4_quotient, .initialized RX4, .code yX4_quotient cX4_quotient 4 (some .long)])
def wsX0_leastDepthOf_r1 : List Cond := [Cond.fieldLink RX0 9 "IceCoreDater$Core" "size" "I", Cond.fieldLink RX0 19 "IceCoreDater$Core" "function" "I", Cond.fieldLink RX0 22 "IceCoreDater$Core" "kink" "I", Cond.fieldLink RX0 28 "IceCoreDater$Core" "thickness" "[I", Cond.constant RX0 138 (-1000000005), Cond.methodLink RX0 119 yX0_yearsOf, Cond.instanceMethod yX0_yearsOf, Cond.selects RX0 yX0_yearsOf yX0_yearsOf, Cond.initialized RX0, Cond.code yX0_yearsOf cX0_yearsOf 6 (some .int), Cond.fieldLink RX0 32 "IceCoreDater$Core" "accumulation" "[I", Cond.fieldLink RX0 35 "IceCoreDater$Core" "correction" "[I", Cond.methodLink RX0 109 yX0_thinningOf, Cond.instanceMethod yX0_thinningOf, Cond.selects RX0 yX0_thinningOf yX0_thinningOf, Cond.code yX0_thinningOf cX0_thinningOf 15 (some .int), Cond.fieldLink RX0 38 "IceCoreDater$Core" "told" "[I", Cond.fieldLink RX0 16 "IceCoreDater$Core" "bed" "I", Cond.constantLong RX0 92 (1000), Cond.constantLong RX0 94 (2), Cond.constantLong RX0 96 (10), Cond.methodLink RX0 102 Lib.MathLoose.max_long.x, Cond.static Lib.MathLoose.max_long.x, Cond.initialized "java/lang/Math"]
def wsX0_leastDepthOf_r2 : List Cond := [Cond.code Lib.MathLoose.max_long.x Lib.MathLoose.max_long.code 4 (some .long), Cond.methodLink RX0 63 yX0_topOf, Cond.instanceMethod yX0_topOf, Cond.selects RX0 yX0_topOf yX0_topOf, Cond.code yX0_topOf cX0_topOf 4 (some .int), Cond.static yX4_quotient, Cond.initialized RX4, Cond.code yX4_quotient cX4_quotient 4 (some .long), Cond.methodLink RX0 113 yX0_yearsDividend, Cond.instanceMethod yX0_yearsDividend, Cond.selects RX0 yX0_yearsDividend yX0_yearsDividend, Cond.code yX0_yearsDividend cX0_yearsDividend 2 (some .long), Cond.constantLong RX0 107 (10000000), Cond.methodLink RX0 134 yX0_stepsFor, Cond.static yX0_stepsFor, Cond.code yX0_stepsFor cX0_stepsFor 4 (some .int)]
def wsX0_leastDepthOf : List Cond := .code yX0_leastDepthOf cX0_leastDepthOf 7 (some .int) :: ((wsX0_leastDepthOf_r1 ++ wsX0_leastDepthOf_r2) ++ wsX00)
def wsX0_leastGasDepthOf_r1 : List Cond := [Cond.fieldLink RX0 9 "IceCoreDater$Core" "size" "I", Cond.constant RX0 138 (-1000000005), Cond.fieldLink RX0 19 "IceCoreDater$Core" "function" "I", Cond.fieldLink RX0 22 "IceCoreDater$Core" "kink" "I", Cond.fieldLink RX0 28 "IceCoreDater$Core" "thickness" "[I", Cond.methodLink RX0 131 Lib.Math.max.name, Cond.static Lib.Math.max.name, Cond.initialized "java/lang/Math", Cond.code Lib.Math.max.name Lib.Math.max.code 2 (some .int), Cond.methodLink RX0 119 yX0_yearsOf, Cond.instanceMethod yX0_yearsOf, Cond.selects RX0 yX0_yearsOf yX0_yearsOf, Cond.initialized RX0, Cond.code yX0_yearsOf cX0_yearsOf 6 (some .int), Cond.fieldLink RX0 32 "IceCoreDater$Core" "accumulation" "[I", Cond.fieldLink RX0 35 "IceCoreDater$Core" "correction" "[I", Cond.methodLink RX0 109 yX0_thinningOf, Cond.instanceMethod yX0_thinningOf, Cond.selects RX0 yX0_thinningOf yX0_thinningOf, Cond.code yX0_thinningOf cX0_thinningOf 15 (some .int), Cond.fieldLink RX0 38 "IceCoreDater$Core" "told" "[I", Cond.fieldLink RX0 16 "IceCoreDater$Core" "bed" "I", Cond.constantLong RX0 92 (1000), Cond.constantLong RX0 94 (2)]
def wsX0_leastGasDepthOf_r2 : List Cond := [Cond.constantLong RX0 96 (10), Cond.methodLink RX0 102 Lib.MathLoose.max_long.x, Cond.static Lib.MathLoose.max_long.x, Cond.code Lib.MathLoose.max_long.x Lib.MathLoose.max_long.code 4 (some .long), Cond.methodLink RX0 63 yX0_topOf, Cond.instanceMethod yX0_topOf, Cond.selects RX0 yX0_topOf yX0_topOf, Cond.code yX0_topOf cX0_topOf 4 (some .int), Cond.static yX4_quotient, Cond.initialized RX4, Cond.code yX4_quotient cX4_quotient 4 (some .long), Cond.methodLink RX0 113 yX0_yearsDividend, Cond.instanceMethod yX0_yearsDividend, Cond.selects RX0 yX0_yearsDividend yX0_yearsDividend, Cond.code yX0_yearsDividend cX0_yearsDividend 2 (some .long), Cond.constantLong RX0 107 (10000000), Cond.methodLink RX0 128 yX0_delayOf, Cond.instanceMethod yX0_delayOf, Cond.selects RX0 yX0_delayOf yX0_delayOf, Cond.code yX0_delayOf cX0_delayOf 2 (some .int), Cond.constantLong RX0 117 (10000), Cond.fieldLink RX0 25 "IceCoreDater$Core" "closeOff" "I", Cond.methodLink RX0 134 yX0_stepsFor, Cond.static yX0_stepsFor]
def wsX0_leastGasDepthOf_r3 : List Cond := [Cond.code yX0_stepsFor cX0_stepsFor 4 (some .int)]
def wsX0_leastGasDepthOf : List Cond := .code yX0_leastGasDepthOf cX0_leastGasDepthOf 9 (some .int) :: ((wsX0_leastGasDepthOf_r1 ++ (wsX0_leastGasDepthOf_r2 ++ wsX0_leastGasDepthOf_r3)) ++ wsX00)
def wsX0_invertedBorders_r1 : List Cond := [Cond.fieldLink RX0 9 "IceCoreDater$Core" "size" "I", Cond.fieldLink RX0 28 "IceCoreDater$Core" "thickness" "[I", Cond.methodLink RX0 139 yX0_gasAgeAt, Cond.instanceMethod yX0_gasAgeAt, Cond.selects RX0 yX0_gasAgeAt yX0_gasAgeAt, Cond.initialized RX0, Cond.code yX0_gasAgeAt cX0_gasAgeAt 4 (some .int), Cond.methodLink RX0 131 Lib.Math.max.name, Cond.static Lib.Math.max.name, Cond.initialized "java/lang/Math", Cond.code Lib.Math.max.name Lib.Math.max.code 2 (some .int), Cond.methodLink RX0 125 yX0_ageAt, Cond.instanceMethod yX0_ageAt, Cond.selects RX0 yX0_ageAt yX0_ageAt, Cond.code yX0_ageAt cX0_ageAt 7 (some .int), Cond.fieldLink RX0 19 "IceCoreDater$Core" "function" "I", Cond.fieldLink RX0 22 "IceCoreDater$Core" "kink" "I", Cond.methodLink RX0 119 yX0_yearsOf, Cond.instanceMethod yX0_yearsOf, Cond.selects RX0 yX0_yearsOf yX0_yearsOf, Cond.code yX0_yearsOf cX0_yearsOf 6 (some .int), Cond.fieldLink RX0 32 "IceCoreDater$Core" "accumulation" "[I", Cond.fieldLink RX0 35 "IceCoreDater$Core" "correction" "[I", Cond.methodLink RX0 109 yX0_thinningOf]
def wsX0_invertedBorders_r2 : List Cond := [Cond.instanceMethod yX0_thinningOf, Cond.selects RX0 yX0_thinningOf yX0_thinningOf, Cond.code yX0_thinningOf cX0_thinningOf 15 (some .int), Cond.fieldLink RX0 38 "IceCoreDater$Core" "told" "[I", Cond.fieldLink RX0 16 "IceCoreDater$Core" "bed" "I", Cond.constantLong RX0 92 (1000), Cond.constantLong RX0 94 (2), Cond.constantLong RX0 96 (10), Cond.methodLink RX0 102 Lib.MathLoose.max_long.x, Cond.static Lib.MathLoose.max_long.x, Cond.code Lib.MathLoose.max_long.x Lib.MathLoose.max_long.code 4 (some .long), Cond.methodLink RX0 63 yX0_topOf, Cond.instanceMethod yX0_topOf, Cond.selects RX0 yX0_topOf yX0_topOf, Cond.code yX0_topOf cX0_topOf 4 (some .int), Cond.static yX4_quotient, Cond.initialized RX4, Cond.code yX4_quotient cX4_quotient 4 (some .long), Cond.methodLink RX0 113 yX0_yearsDividend, Cond.instanceMethod yX0_yearsDividend, Cond.selects RX0 yX0_yearsDividend yX0_yearsDividend, Cond.code yX0_yearsDividend cX0_yearsDividend 2 (some .long), Cond.constantLong RX0 107 (10000000), Cond.methodLink RX0 128 yX0_delayOf]
def wsX0_invertedBorders_r3 : List Cond := [Cond.instanceMethod yX0_delayOf, Cond.selects RX0 yX0_delayOf yX0_delayOf, Cond.code yX0_delayOf cX0_delayOf 2 (some .int), Cond.constantLong RX0 117 (10000), Cond.fieldLink RX0 25 "IceCoreDater$Core" "closeOff" "I"]
def wsX0_invertedBorders : List Cond := .code yX0_invertedBorders cX0_invertedBorders 4 (some .int) :: ((wsX0_invertedBorders_r1 ++ (wsX0_invertedBorders_r2 ++ wsX0_invertedBorders_r3)) ++ wsX00)
def wsX0_canBeTuned : List Cond := .code yX0_canBeTuned cX0_canBeTuned 3 (some .boolean) :: ([.fieldLink RX0 9 "IceCoreDater$Core" "size" "I", .fieldLink RX0 41 "IceCoreDater$Core" "ashAge" "[I", .methodLink RX0 60 yX0_hasAsh, .instanceMethod yX0_hasAsh, .selects RX0 yX0_hasAsh yX0_hasAsh, .initialized RX0, .code yX0_hasAsh cX0_hasAsh 2 (some .boolean), .methodLink RX0 56 yX0_has, .instanceMethod yX0_has, .selects RX0 yX0_has yX0_has, .code yX0_has cX0_has 2 (some .boolean), .methodLink RX0 85 yX0_ashBeds, .instanceMethod yX0_ashBeds, .selects RX0 yX0_ashBeds yX0_ashBeds, .code yX0_ashBeds cX0_ashBeds 3 (some .int)] ++ wsX00)
def wsX1_clear : List Cond := .code yX1_clear cX1_clear 1 none :: ([.fieldLink RX1 9 "IceCoreDater$Falling" "size" "I"] ++ wsX10)
def wsX1_add : List Cond := .code yX1_add cX1_add 5 none :: ([.fieldLink RX1 9 "IceCoreDater$Falling" "size" "I", .fieldLink RX1 15 "IceCoreDater$Falling" "dividends" "[J", .fieldLink RX1 19 "IceCoreDater$Falling" "factors" "[J"] ++ wsX10)
def wsX1_sum : List Cond := .code yX1_sum cX1_sum 7 (some .long) :: ([.fieldLink RX1 9 "IceCoreDater$Falling" "size" "I", .fieldLink RX1 19 "IceCoreDater$Falling" "factors" "[J", .fieldLink RX1 15 "IceCoreDater$Falling" "dividends" "[J"] ++ wsX10)
def wsX1_firstAtMost : List Cond := .code yX1_firstAtMost cX1_firstAtMost 7 (some .int) :: ([.methodLink RX1 26 yX1_sum, .instanceMethod yX1_sum, .selects RX1 yX1_sum yX1_sum, .initialized RX1, .code yX1_sum cX1_sum 7 (some .long), .fieldLink RX1 9 "IceCoreDater$Falling" "size" "I", .fieldLink RX1 19 "IceCoreDater$Falling" "factors" "[J", .fieldLink RX1 15 "IceCoreDater$Falling" "dividends" "[J"] ++ wsX10)
def wsX1_nearest : List Cond := .code yX1_nearest cX1_nearest 8 (some .int) :: ([.methodLink RX1 22 yX1_firstAtMost, .instanceMethod yX1_firstAtMost, .selects RX1 yX1_firstAtMost yX1_firstAtMost, .initialized RX1, .code yX1_firstAtMost cX1_firstAtMost 7 (some .int), .methodLink RX1 26 yX1_sum, .instanceMethod yX1_sum, .selects RX1 yX1_sum yX1_sum, .code yX1_sum cX1_sum 7 (some .long), .fieldLink RX1 9 "IceCoreDater$Falling" "size" "I", .fieldLink RX1 19 "IceCoreDater$Falling" "factors" "[J", .fieldLink RX1 15 "IceCoreDater$Falling" "dividends" "[J"] ++ wsX10)
def wsX0_fitSegment_r1 : List Cond := [Cond.fieldLink RX0 9 "IceCoreDater$Core" "size" "I", Cond.fieldLink RX0 32 "IceCoreDater$Core" "accumulation" "[I", Cond.fieldLink RX0 19 "IceCoreDater$Core" "function" "I", Cond.fieldLink RX0 22 "IceCoreDater$Core" "kink" "I", Cond.fieldLink RX0 35 "IceCoreDater$Core" "correction" "[I", Cond.methodLink RX0 153 yX1_clear, Cond.instanceMethod yX1_clear, Cond.selects RX1 yX1_clear yX1_clear, Cond.initialized RX1, Cond.code yX1_clear cX1_clear 1 none, Cond.fieldLink RX1 9 "IceCoreDater$Falling" "size" "I", Cond.methodLink RX0 113 yX0_yearsDividend, Cond.instanceMethod yX0_yearsDividend, Cond.selects RX0 yX0_yearsDividend yX0_yearsDividend, Cond.initialized RX0, Cond.code yX0_yearsDividend cX0_yearsDividend 2 (some .long), Cond.constantLong RX0 107 (10000000), Cond.fieldLink RX0 28 "IceCoreDater$Core" "thickness" "[I", Cond.methodLink RX0 109 yX0_thinningOf, Cond.instanceMethod yX0_thinningOf, Cond.selects RX0 yX0_thinningOf yX0_thinningOf, Cond.code yX0_thinningOf cX0_thinningOf 15 (some .int), Cond.fieldLink RX0 38 "IceCoreDater$Core" "told" "[I", Cond.fieldLink RX0 16 "IceCoreDater$Core" "bed" "I"]
def wsX0_fitSegment_r2 : List Cond := [Cond.constantLong RX0 92 (1000), Cond.constantLong RX0 94 (2), Cond.constantLong RX0 96 (10), Cond.methodLink RX0 102 Lib.MathLoose.max_long.x, Cond.static Lib.MathLoose.max_long.x, Cond.initialized "java/lang/Math", Cond.code Lib.MathLoose.max_long.x Lib.MathLoose.max_long.code 4 (some .long), Cond.methodLink RX0 63 yX0_topOf, Cond.instanceMethod yX0_topOf, Cond.selects RX0 yX0_topOf yX0_topOf, Cond.code yX0_topOf cX0_topOf 4 (some .int), Cond.static yX4_quotient, Cond.initialized RX4, Cond.code yX4_quotient cX4_quotient 4 (some .long), Cond.methodLink RX0 158 yX1_add, Cond.instanceMethod yX1_add, Cond.selects RX1 yX1_add yX1_add, Cond.code yX1_add cX1_add 5 none, Cond.fieldLink RX1 15 "IceCoreDater$Falling" "dividends" "[J", Cond.fieldLink RX1 19 "IceCoreDater$Falling" "factors" "[J", Cond.methodLink RX0 162 yX1_nearest, Cond.instanceMethod yX1_nearest, Cond.selects RX1 yX1_nearest yX1_nearest, Cond.code yX1_nearest cX1_nearest 8 (some .int)]
def wsX0_fitSegment_r3 : List Cond := [Cond.methodLink RX1 22 yX1_firstAtMost, Cond.instanceMethod yX1_firstAtMost, Cond.selects RX1 yX1_firstAtMost yX1_firstAtMost, Cond.code yX1_firstAtMost cX1_firstAtMost 7 (some .int), Cond.methodLink RX1 26 yX1_sum, Cond.instanceMethod yX1_sum, Cond.selects RX1 yX1_sum yX1_sum, Cond.code yX1_sum cX1_sum 7 (some .long)]
def wsX0_fitSegment : List Cond := .code yX0_fitSegment cX0_fitSegment 7 none :: ((wsX0_fitSegment_r1 ++ (wsX0_fitSegment_r2 ++ wsX0_fitSegment_r3)) ++ wsX00 ++ wsX10)
def wsX0_fitCorrections_r1 : List Cond := [Cond.constant RX0 76 (-1000000003), Cond.fieldLink RX0 9 "IceCoreDater$Core" "size" "I", Cond.fieldLink RX0 41 "IceCoreDater$Core" "ashAge" "[I", Cond.methodLink RX0 142 yX0_canBeTuned, Cond.instanceMethod yX0_canBeTuned, Cond.selects RX0 yX0_canBeTuned yX0_canBeTuned, Cond.initialized RX0, Cond.code yX0_canBeTuned cX0_canBeTuned 3 (some .boolean), Cond.methodLink RX0 60 yX0_hasAsh, Cond.instanceMethod yX0_hasAsh, Cond.selects RX0 yX0_hasAsh yX0_hasAsh, Cond.code yX0_hasAsh cX0_hasAsh 2 (some .boolean), Cond.methodLink RX0 56 yX0_has, Cond.instanceMethod yX0_has, Cond.selects RX0 yX0_has yX0_has, Cond.code yX0_has cX0_has 2 (some .boolean), Cond.methodLink RX0 85 yX0_ashBeds, Cond.instanceMethod yX0_ashBeds, Cond.selects RX0 yX0_ashBeds yX0_ashBeds, Cond.code yX0_ashBeds cX0_ashBeds 3 (some .int), Cond.methodLink RX0 146 yX0_fitSegment, Cond.instanceMethod yX0_fitSegment, Cond.selects RX0 yX0_fitSegment yX0_fitSegment, Cond.code yX0_fitSegment cX0_fitSegment 7 none]
def wsX0_fitCorrections_r2 : List Cond := [Cond.fieldLink RX0 32 "IceCoreDater$Core" "accumulation" "[I", Cond.fieldLink RX0 19 "IceCoreDater$Core" "function" "I", Cond.fieldLink RX0 22 "IceCoreDater$Core" "kink" "I", Cond.fieldLink RX0 35 "IceCoreDater$Core" "correction" "[I", Cond.methodLink RX0 153 yX1_clear, Cond.instanceMethod yX1_clear, Cond.selects RX1 yX1_clear yX1_clear, Cond.initialized RX1, Cond.code yX1_clear cX1_clear 1 none, Cond.fieldLink RX1 9 "IceCoreDater$Falling" "size" "I", Cond.methodLink RX0 113 yX0_yearsDividend, Cond.instanceMethod yX0_yearsDividend, Cond.selects RX0 yX0_yearsDividend yX0_yearsDividend, Cond.code yX0_yearsDividend cX0_yearsDividend 2 (some .long), Cond.constantLong RX0 107 (10000000), Cond.fieldLink RX0 28 "IceCoreDater$Core" "thickness" "[I", Cond.methodLink RX0 109 yX0_thinningOf, Cond.instanceMethod yX0_thinningOf, Cond.selects RX0 yX0_thinningOf yX0_thinningOf, Cond.code yX0_thinningOf cX0_thinningOf 15 (some .int), Cond.fieldLink RX0 38 "IceCoreDater$Core" "told" "[I", Cond.fieldLink RX0 16 "IceCoreDater$Core" "bed" "I", Cond.constantLong RX0 92 (1000), Cond.constantLong RX0 94 (2)]
def wsX0_fitCorrections_r3 : List Cond := [Cond.constantLong RX0 96 (10), Cond.methodLink RX0 102 Lib.MathLoose.max_long.x, Cond.static Lib.MathLoose.max_long.x, Cond.initialized "java/lang/Math", Cond.code Lib.MathLoose.max_long.x Lib.MathLoose.max_long.code 4 (some .long), Cond.methodLink RX0 63 yX0_topOf, Cond.instanceMethod yX0_topOf, Cond.selects RX0 yX0_topOf yX0_topOf, Cond.code yX0_topOf cX0_topOf 4 (some .int), Cond.static yX4_quotient, Cond.initialized RX4, Cond.code yX4_quotient cX4_quotient 4 (some .long), Cond.methodLink RX0 158 yX1_add, Cond.instanceMethod yX1_add, Cond.selects RX1 yX1_add yX1_add, Cond.code yX1_add cX1_add 5 none, Cond.fieldLink RX1 15 "IceCoreDater$Falling" "dividends" "[J", Cond.fieldLink RX1 19 "IceCoreDater$Falling" "factors" "[J", Cond.methodLink RX0 162 yX1_nearest, Cond.instanceMethod yX1_nearest, Cond.selects RX1 yX1_nearest yX1_nearest, Cond.code yX1_nearest cX1_nearest 8 (some .int), Cond.methodLink RX1 22 yX1_firstAtMost, Cond.instanceMethod yX1_firstAtMost]
def wsX0_fitCorrections_r4 : List Cond := [Cond.selects RX1 yX1_firstAtMost yX1_firstAtMost, Cond.code yX1_firstAtMost cX1_firstAtMost 7 (some .int), Cond.methodLink RX1 26 yX1_sum, Cond.instanceMethod yX1_sum, Cond.selects RX1 yX1_sum yX1_sum, Cond.code yX1_sum cX1_sum 7 (some .long), Cond.methodLink RX0 150 yX0_fittingBeds, Cond.instanceMethod yX0_fittingBeds, Cond.selects RX0 yX0_fittingBeds yX0_fittingBeds, Cond.code yX0_fittingBeds cX0_fittingBeds 4 (some .int), Cond.methodLink RX0 122 Lib.Math.abs.name, Cond.static Lib.Math.abs.name, Cond.code Lib.Math.abs.name Lib.Math.abs.code 1 (some .int), Cond.fieldLink RX0 44 "IceCoreDater$Core" "ashTolerance" "[I", Cond.methodLink RX0 119 yX0_yearsOf, Cond.instanceMethod yX0_yearsOf, Cond.selects RX0 yX0_yearsOf yX0_yearsOf, Cond.code yX0_yearsOf cX0_yearsOf 6 (some .int)]
def wsX0_fitCorrections : List Cond := .code yX0_fitCorrections cX0_fitCorrections 5 (some .int) :: ((wsX0_fitCorrections_r1 ++ (wsX0_fitCorrections_r2 ++ (wsX0_fitCorrections_r3 ++ wsX0_fitCorrections_r4))) ++ wsX00 ++ wsX10)
def wsX0_fitAccumulation_r1 : List Cond := [Cond.fieldLink RX0 35 "IceCoreDater$Core" "correction" "[I", Cond.fieldLink RX0 19 "IceCoreDater$Core" "function" "I", Cond.fieldLink RX0 22 "IceCoreDater$Core" "kink" "I", Cond.fieldLink RX0 47 "IceCoreDater$Core" "count" "[I", Cond.methodLink RX0 153 yX1_clear, Cond.instanceMethod yX1_clear, Cond.selects RX1 yX1_clear yX1_clear, Cond.initialized RX1, Cond.code yX1_clear cX1_clear 1 none, Cond.fieldLink RX1 9 "IceCoreDater$Falling" "size" "I", Cond.methodLink RX0 113 yX0_yearsDividend, Cond.instanceMethod yX0_yearsDividend, Cond.selects RX0 yX0_yearsDividend yX0_yearsDividend, Cond.initialized RX0, Cond.code yX0_yearsDividend cX0_yearsDividend 2 (some .long), Cond.constantLong RX0 107 (10000000), Cond.fieldLink RX0 28 "IceCoreDater$Core" "thickness" "[I", Cond.methodLink RX0 109 yX0_thinningOf, Cond.instanceMethod yX0_thinningOf, Cond.selects RX0 yX0_thinningOf yX0_thinningOf, Cond.code yX0_thinningOf cX0_thinningOf 15 (some .int), Cond.fieldLink RX0 38 "IceCoreDater$Core" "told" "[I", Cond.fieldLink RX0 16 "IceCoreDater$Core" "bed" "I", Cond.constantLong RX0 92 (1000)]
def wsX0_fitAccumulation_r2 : List Cond := [Cond.constantLong RX0 94 (2), Cond.constantLong RX0 96 (10), Cond.methodLink RX0 102 Lib.MathLoose.max_long.x, Cond.static Lib.MathLoose.max_long.x, Cond.initialized "java/lang/Math", Cond.code Lib.MathLoose.max_long.x Lib.MathLoose.max_long.code 4 (some .long), Cond.methodLink RX0 63 yX0_topOf, Cond.instanceMethod yX0_topOf, Cond.selects RX0 yX0_topOf yX0_topOf, Cond.code yX0_topOf cX0_topOf 4 (some .int), Cond.fieldLink RX0 9 "IceCoreDater$Core" "size" "I", Cond.static yX4_quotient, Cond.initialized RX4, Cond.code yX4_quotient cX4_quotient 4 (some .long), Cond.methodLink RX0 158 yX1_add, Cond.instanceMethod yX1_add, Cond.selects RX1 yX1_add yX1_add, Cond.code yX1_add cX1_add 5 none, Cond.fieldLink RX1 15 "IceCoreDater$Falling" "dividends" "[J", Cond.fieldLink RX1 19 "IceCoreDater$Falling" "factors" "[J", Cond.methodLink RX0 162 yX1_nearest, Cond.instanceMethod yX1_nearest, Cond.selects RX1 yX1_nearest yX1_nearest, Cond.code yX1_nearest cX1_nearest 8 (some .int)]
def wsX0_fitAccumulation_r3 : List Cond := [Cond.methodLink RX1 22 yX1_firstAtMost, Cond.instanceMethod yX1_firstAtMost, Cond.selects RX1 yX1_firstAtMost yX1_firstAtMost, Cond.code yX1_firstAtMost cX1_firstAtMost 7 (some .int), Cond.methodLink RX1 26 yX1_sum, Cond.instanceMethod yX1_sum, Cond.selects RX1 yX1_sum yX1_sum, Cond.code yX1_sum cX1_sum 7 (some .long)]
def wsX0_fitAccumulation : List Cond := .code yX0_fitAccumulation cX0_fitAccumulation 3 (some .int) :: ((wsX0_fitAccumulation_r1 ++ (wsX0_fitAccumulation_r2 ++ wsX0_fitAccumulation_r3)) ++ wsX00 ++ wsX10)
def wsX1_init : List Cond := .code yX1_init cX1_init 1 none :: ([.methodLink RX1 3 objectInit, .instanceMethod objectInit, .code objectInit ⟨#[0xb1]⟩ 1 none, .fieldLink RX1 9 "IceCoreDater$Falling" "size" "I", .arrayClass .long, .fieldLink RX1 15 "IceCoreDater$Falling" "dividends" "[J", .fieldLink RX1 19 "IceCoreDater$Falling" "factors" "[J"] ++ wsX10)
def wsX2_init_r1 : List Cond := [Cond.methodLink RX2 3 objectInit, Cond.instanceMethod objectInit, Cond.code objectInit ⟨#[0xb1]⟩ 1 none, Cond.classLink RX2 11 RX0, Cond.fieldLink RX2 13 "IceCoreDater$Log" "slots" "[LIceCoreDater$Core;", Cond.fieldLink RX2 17 "IceCoreDater$Log" "oldest" "I", Cond.fieldLink RX2 21 "IceCoreDater$Log" "size" "I", Cond.instantiable RX0 12, Cond.initialized RX0, Cond.instanceMethod yX0_init, Cond.code yX0_init cX0_init 1 none, Cond.methodLink RX0 3 objectInit, Cond.fieldLink RX0 9 "IceCoreDater$Core" "size" "I", Cond.constant RX0 15 (100000), Cond.fieldLink RX0 16 "IceCoreDater$Core" "bed" "I", Cond.fieldLink RX0 19 "IceCoreDater$Core" "function" "I", Cond.fieldLink RX0 22 "IceCoreDater$Core" "kink" "I", Cond.fieldLink RX0 25 "IceCoreDater$Core" "closeOff" "I", Cond.arrayClass .int, Cond.fieldLink RX0 28 "IceCoreDater$Core" "thickness" "[I", Cond.fieldLink RX0 32 "IceCoreDater$Core" "accumulation" "[I", Cond.fieldLink RX0 35 "IceCoreDater$Core" "correction" "[I", Cond.fieldLink RX0 38 "IceCoreDater$Core" "told" "[I", Cond.fieldLink RX0 41 "IceCoreDater$Core" "ashAge" "[I"]
def wsX2_init_r2 : List Cond := [Cond.fieldLink RX0 44 "IceCoreDater$Core" "ashTolerance" "[I", Cond.fieldLink RX0 47 "IceCoreDater$Core" "count" "[I"]
def wsX2_init : List Cond := .code yX2_init cX2_init 2 none :: ((wsX2_init_r1 ++ wsX2_init_r2) ++ wsX20 ++ wsX00)
def wsX2_prepare : List Cond := .code yX2_prepare cX2_prepare 3 none :: ([.fieldLink RX2 13 "IceCoreDater$Log" "slots" "[LIceCoreDater$Core;", .fieldLink RX2 17 "IceCoreDater$Log" "oldest" "I", .fieldLink RX2 21 "IceCoreDater$Log" "size" "I", .methodLink RX2 25 yX0_copyFrom, .instanceMethod yX0_copyFrom, .selects RX0 yX0_copyFrom yX0_copyFrom, .initialized RX0, .code yX0_copyFrom cX0_copyFrom 2 none, .fieldLink RX0 9 "IceCoreDater$Core" "size" "I", .fieldLink RX0 16 "IceCoreDater$Core" "bed" "I", .fieldLink RX0 19 "IceCoreDater$Core" "function" "I", .fieldLink RX0 22 "IceCoreDater$Core" "kink" "I", .fieldLink RX0 25 "IceCoreDater$Core" "closeOff" "I", .fieldLink RX0 28 "IceCoreDater$Core" "thickness" "[I", .methodLink RX0 50 arraycopyName, .native arraycopyName, .static arraycopyName, .initialized "java/lang/System", .fieldLink RX0 32 "IceCoreDater$Core" "accumulation" "[I", .fieldLink RX0 35 "IceCoreDater$Core" "correction" "[I", .fieldLink RX0 38 "IceCoreDater$Core" "told" "[I", .fieldLink RX0 41 "IceCoreDater$Core" "ashAge" "[I", .fieldLink RX0 44 "IceCoreDater$Core" "ashTolerance" "[I", .fieldLink RX0 47 "IceCoreDater$Core" "count" "[I"] ++ wsX20 ++ wsX00)
def wsX2_keep : List Cond := .code yX2_keep cX2_keep 1 none :: ([.fieldLink RX2 21 "IceCoreDater$Log" "size" "I", .fieldLink RX2 17 "IceCoreDater$Log" "oldest" "I"] ++ wsX20)
def wsX2_restore_r1 : List Cond := [Cond.fieldLink RX2 21 "IceCoreDater$Log" "size" "I", Cond.constant RX2 29 (-1000000005), Cond.fieldLink RX2 13 "IceCoreDater$Log" "slots" "[LIceCoreDater$Core;", Cond.fieldLink RX2 17 "IceCoreDater$Log" "oldest" "I", Cond.methodLink RX2 25 yX0_copyFrom, Cond.instanceMethod yX0_copyFrom, Cond.selects RX0 yX0_copyFrom yX0_copyFrom, Cond.initialized RX0, Cond.code yX0_copyFrom cX0_copyFrom 2 none, Cond.fieldLink RX0 9 "IceCoreDater$Core" "size" "I", Cond.fieldLink RX0 16 "IceCoreDater$Core" "bed" "I", Cond.fieldLink RX0 19 "IceCoreDater$Core" "function" "I", Cond.fieldLink RX0 22 "IceCoreDater$Core" "kink" "I", Cond.fieldLink RX0 25 "IceCoreDater$Core" "closeOff" "I", Cond.fieldLink RX0 28 "IceCoreDater$Core" "thickness" "[I", Cond.methodLink RX0 50 arraycopyName, Cond.native arraycopyName, Cond.static arraycopyName, Cond.initialized "java/lang/System", Cond.fieldLink RX0 32 "IceCoreDater$Core" "accumulation" "[I", Cond.fieldLink RX0 35 "IceCoreDater$Core" "correction" "[I", Cond.fieldLink RX0 38 "IceCoreDater$Core" "told" "[I", Cond.fieldLink RX0 41 "IceCoreDater$Core" "ashAge" "[I", Cond.fieldLink RX0 44 "IceCoreDater$Core" "ashTolerance" "[I"]
def wsX2_restore_r2 : List Cond := [Cond.fieldLink RX0 47 "IceCoreDater$Core" "count" "[I"]
def wsX2_restore : List Cond := .code yX2_restore cX2_restore 3 (some .int) :: ((wsX2_restore_r1 ++ wsX2_restore_r2) ++ wsX20 ++ wsX00)
def wsX3_init : List Cond := .code yX3_init cX3_init 1 none :: ([.methodLink RX3 3 objectInit, .instanceMethod objectInit, .code objectInit ⟨#[0xb1]⟩ 1 none, .fieldLink RX3 9 "IceCoreDater$Text" "length" "I", .fieldLink RX3 15 "IceCoreDater$Text" "words" "I", .arrayClass .char, .fieldLink RX3 18 "IceCoreDater$Text" "signs" "[C", .arrayClass .int, .fieldLink RX3 22 "IceCoreDater$Text" "starts" "[I", .fieldLink RX3 26 "IceCoreDater$Text" "ends" "[I"] ++ wsX30)
def wsX3_append : List Cond := .code yX3_append cX3_append 2 (some .int) :: ([.constant RX3 33 (-1000000002), .fieldLink RX3 9 "IceCoreDater$Text" "length" "I", .constant RX3 34 (-1000000004), .fieldLink RX3 18 "IceCoreDater$Text" "signs" "[C", .static yX4_isBetween, .initialized RX4, .code yX4_isBetween cX4_isBetween 3 (some .boolean)] ++ wsX30)
def wsX3_empty : List Cond := .code yX3_empty cX3_empty 2 (some .int) :: ([.fieldLink RX3 9 "IceCoreDater$Text" "length" "I"] ++ wsX30)
def wsX3_at : List Cond := .code yX3_at cX3_at 2 (some .char) :: ([.fieldLink RX3 9 "IceCoreDater$Text" "length" "I", .fieldLink RX3 18 "IceCoreDater$Text" "signs" "[C"] ++ wsX30)
def wsX3_markStart : List Cond := .code yX3_markStart cX3_markStart 2 none :: ([.fieldLink RX3 15 "IceCoreDater$Text" "words" "I", .fieldLink RX3 22 "IceCoreDater$Text" "starts" "[I"] ++ wsX30)
def wsX3_markEnd : List Cond := .code yX3_markEnd cX3_markEnd 2 none :: ([.fieldLink RX3 15 "IceCoreDater$Text" "words" "I", .fieldLink RX3 26 "IceCoreDater$Text" "ends" "[I"] ++ wsX30)
def wsX3_readCommand : List Cond := .code yX3_readCommand cX3_readCommand 6 none :: ([.fieldLink RX3 15 "IceCoreDater$Text" "words" "I", .methodLink RX3 35 yX3_at, .instanceMethod yX3_at, .selects RX3 yX3_at yX3_at, .initialized RX3, .code yX3_at cX3_at 2 (some .char), .fieldLink RX3 9 "IceCoreDater$Text" "length" "I", .fieldLink RX3 18 "IceCoreDater$Text" "signs" "[C", .methodLink RX3 39 yX3_markStart, .instanceMethod yX3_markStart, .selects RX3 yX3_markStart yX3_markStart, .code yX3_markStart cX3_markStart 2 none, .fieldLink RX3 22 "IceCoreDater$Text" "starts" "[I", .methodLink RX3 43 yX3_markEnd, .instanceMethod yX3_markEnd, .selects RX3 yX3_markEnd yX3_markEnd, .code yX3_markEnd cX3_markEnd 2 none, .fieldLink RX3 26 "IceCoreDater$Text" "ends" "[I"] ++ wsX30)
def wsX3_hasWord : List Cond := .code yX3_hasWord cX3_hasWord 2 (some .boolean) :: ([.fieldLink RX3 15 "IceCoreDater$Text" "words" "I"] ++ wsX30)
def wsJ0_coder_7d493 : List Cond := .code yJ0_coder_7d493 cJ0_coder_7d493 1 (some .byte) :: ([.fieldLink RJ0 38 "java/lang/String" "COMPACT_STRINGS" "Z", .fieldLink RJ0 15 "java/lang/String" "coder" "B"])
def wsJ0_length_8abf5 : List Cond := .code yJ0_length_8abf5 cJ0_length_8abf5 1 (some .int) :: ([.fieldLink RJ0 9 "java/lang/String" "value" "[B", .methodLink RJ0 335 yJ0_coder_7d493, .instanceMethod yJ0_coder_7d493, .selects RJ0 yJ0_coder_7d493 yJ0_coder_7d493, .initialized RJ0, .code yJ0_coder_7d493 cJ0_coder_7d493 1 (some .byte), .fieldLink RJ0 38 "java/lang/String" "COMPACT_STRINGS" "Z", .fieldLink RJ0 15 "java/lang/String" "coder" "B"])
def wsJ0_isLatin1_aae02 : List Cond := .code yJ0_isLatin1_aae02 cJ0_isLatin1_aae02 1 (some .boolean) :: ([.fieldLink RJ0 38 "java/lang/String" "COMPACT_STRINGS" "Z", .fieldLink RJ0 15 "java/lang/String" "coder" "B"])
def wsJ3_checkIndex_8e157 : List Cond := .code yJ3_checkIndex_8e157 cJ3_checkIndex_8e157 3 (some .int) :: ([])
def wsJ0_checkIndex_df160 : List Cond := .code yJ0_checkIndex_df160 cJ0_checkIndex_df160 2 none :: ([.fieldLink RJ0 1053 "jdk/internal/util/Preconditions" "SIOOBE_FORMATTER" "Ljava/util/function/BiFunction;", .methodLink RJ0 1059 yJ3_checkIndex_8e157, .static yJ3_checkIndex_8e157, .initialized RJ3, .code yJ3_checkIndex_8e157 cJ3_checkIndex_8e157 3 (some .int)])
def wsJ1_charAt_3b067 : List Cond := .code yJ1_charAt_3b067 cJ1_charAt_3b067 2 (some .char) :: ([.methodLink RJ1 9 yJ0_checkIndex_df160, .static yJ0_checkIndex_df160, .initialized RJ0, .code yJ0_checkIndex_df160 cJ0_checkIndex_df160 2 none, .fieldLink RJ0 1053 "jdk/internal/util/Preconditions" "SIOOBE_FORMATTER" "Ljava/util/function/BiFunction;", .methodLink RJ0 1059 yJ3_checkIndex_8e157, .static yJ3_checkIndex_8e157, .initialized RJ3, .code yJ3_checkIndex_8e157 cJ3_checkIndex_8e157 3 (some .int)])
def wsJ2_length_9d52b : List Cond := .code yJ2_length_9d52b cJ2_length_9d52b 1 (some .int) :: ([])
def wsJ2_checkIndex_2214a : List Cond := .code yJ2_checkIndex_2214a cJ2_checkIndex_2214a 2 none :: ([.methodLink RJ2 48 yJ2_length_9d52b, .static yJ2_length_9d52b, .initialized RJ2, .code yJ2_length_9d52b cJ2_length_9d52b 1 (some .int), .methodLink RJ2 414 yJ0_checkIndex_df160, .static yJ0_checkIndex_df160, .initialized RJ0, .code yJ0_checkIndex_df160 cJ0_checkIndex_df160 2 none, .fieldLink RJ0 1053 "jdk/internal/util/Preconditions" "SIOOBE_FORMATTER" "Ljava/util/function/BiFunction;", .methodLink RJ0 1059 yJ3_checkIndex_8e157, .static yJ3_checkIndex_8e157, .initialized RJ3, .code yJ3_checkIndex_8e157 cJ3_checkIndex_8e157 3 (some .int)])
def wsJ2_getChar_3b067 : List Cond := .code yJ2_getChar_3b067 cJ2_getChar_3b067 2 (some .char) :: ([.fieldLink RJ2 44 "java/lang/StringUTF16" "$assertionsDisabled" "Z", .fieldLink RJ2 59 "java/lang/StringUTF16" "HI_BYTE_SHIFT" "I", .fieldLink RJ2 63 "java/lang/StringUTF16" "LO_BYTE_SHIFT" "I", .methodLink RJ2 48 yJ2_length_9d52b, .static yJ2_length_9d52b, .initialized RJ2, .code yJ2_length_9d52b cJ2_length_9d52b 1 (some .int)])
def wsJ2_charAt_3b067 : List Cond := .code yJ2_charAt_3b067 cJ2_charAt_3b067 2 (some .char) :: ([.methodLink RJ2 67 yJ2_checkIndex_2214a, .static yJ2_checkIndex_2214a, .initialized RJ2, .code yJ2_checkIndex_2214a cJ2_checkIndex_2214a 2 none, .methodLink RJ2 48 yJ2_length_9d52b, .static yJ2_length_9d52b, .code yJ2_length_9d52b cJ2_length_9d52b 1 (some .int), .methodLink RJ2 414 yJ0_checkIndex_df160, .static yJ0_checkIndex_df160, .initialized RJ0, .code yJ0_checkIndex_df160 cJ0_checkIndex_df160 2 none, .fieldLink RJ0 1053 "jdk/internal/util/Preconditions" "SIOOBE_FORMATTER" "Ljava/util/function/BiFunction;", .methodLink RJ0 1059 yJ3_checkIndex_8e157, .static yJ3_checkIndex_8e157, .initialized RJ3, .code yJ3_checkIndex_8e157 cJ3_checkIndex_8e157 3 (some .int), .methodLink RJ2 71 yJ2_getChar_3b067, .static yJ2_getChar_3b067, .code yJ2_getChar_3b067 cJ2_getChar_3b067 2 (some .char), .fieldLink RJ2 44 "java/lang/StringUTF16" "$assertionsDisabled" "Z", .fieldLink RJ2 59 "java/lang/StringUTF16" "HI_BYTE_SHIFT" "I", .fieldLink RJ2 63 "java/lang/StringUTF16" "LO_BYTE_SHIFT" "I"])
def wsJ0_charAt_5068e_r1 : List Cond := [Cond.fieldLink RJ0 9 "java/lang/String" "value" "[B", Cond.methodLink RJ0 492 yJ0_isLatin1_aae02, Cond.instanceMethod yJ0_isLatin1_aae02, Cond.selects RJ0 yJ0_isLatin1_aae02 yJ0_isLatin1_aae02, Cond.initialized RJ0, Cond.code yJ0_isLatin1_aae02 cJ0_isLatin1_aae02 1 (some .boolean), Cond.fieldLink RJ0 38 "java/lang/String" "COMPACT_STRINGS" "Z", Cond.fieldLink RJ0 15 "java/lang/String" "coder" "B", Cond.methodLink RJ0 495 yJ1_charAt_3b067, Cond.static yJ1_charAt_3b067, Cond.initialized RJ1, Cond.code yJ1_charAt_3b067 cJ1_charAt_3b067 2 (some .char), Cond.methodLink RJ1 9 yJ0_checkIndex_df160, Cond.static yJ0_checkIndex_df160, Cond.code yJ0_checkIndex_df160 cJ0_checkIndex_df160 2 none, Cond.fieldLink RJ0 1053 "jdk/internal/util/Preconditions" "SIOOBE_FORMATTER" "Ljava/util/function/BiFunction;", Cond.methodLink RJ0 1059 yJ3_checkIndex_8e157, Cond.static yJ3_checkIndex_8e157, Cond.initialized RJ3, Cond.code yJ3_checkIndex_8e157 cJ3_checkIndex_8e157 3 (some .int), Cond.methodLink RJ0 498 yJ2_charAt_3b067, Cond.static yJ2_charAt_3b067, Cond.initialized RJ2, Cond.code yJ2_charAt_3b067 cJ2_charAt_3b067 2 (some .char)]
def wsJ0_charAt_5068e_r2 : List Cond := [Cond.methodLink RJ2 67 yJ2_checkIndex_2214a, Cond.static yJ2_checkIndex_2214a, Cond.code yJ2_checkIndex_2214a cJ2_checkIndex_2214a 2 none, Cond.methodLink RJ2 48 yJ2_length_9d52b, Cond.static yJ2_length_9d52b, Cond.code yJ2_length_9d52b cJ2_length_9d52b 1 (some .int), Cond.methodLink RJ2 414 yJ0_checkIndex_df160, Cond.methodLink RJ2 71 yJ2_getChar_3b067, Cond.static yJ2_getChar_3b067, Cond.code yJ2_getChar_3b067 cJ2_getChar_3b067 2 (some .char), Cond.fieldLink RJ2 44 "java/lang/StringUTF16" "$assertionsDisabled" "Z", Cond.fieldLink RJ2 59 "java/lang/StringUTF16" "HI_BYTE_SHIFT" "I", Cond.fieldLink RJ2 63 "java/lang/StringUTF16" "LO_BYTE_SHIFT" "I"]
def wsJ0_charAt_5068e : List Cond := .code yJ0_charAt_5068e cJ0_charAt_5068e 2 (some .char) :: ((wsJ0_charAt_5068e_r1 ++ wsJ0_charAt_5068e_r2))
def wsX3_isWord_r1 : List Cond := [Cond.fieldLink RX3 26 "IceCoreDater$Text" "ends" "[I", Cond.fieldLink RX3 22 "IceCoreDater$Text" "starts" "[I", Cond.methodLink RX3 54 yX3_hasWord, Cond.instanceMethod yX3_hasWord, Cond.selects RX3 yX3_hasWord yX3_hasWord, Cond.initialized RX3, Cond.code yX3_hasWord cX3_hasWord 2 (some .boolean), Cond.fieldLink RX3 15 "IceCoreDater$Text" "words" "I", Cond.methodLink RX3 57 yJ0_length_8abf5, Cond.instanceMethod yJ0_length_8abf5, Cond.selects RJ0 yJ0_length_8abf5 yJ0_length_8abf5, Cond.initialized RJ0, Cond.code yJ0_length_8abf5 cJ0_length_8abf5 1 (some .int), Cond.fieldLink RJ0 9 "java/lang/String" "value" "[B", Cond.methodLink RJ0 335 yJ0_coder_7d493, Cond.instanceMethod yJ0_coder_7d493, Cond.selects RJ0 yJ0_coder_7d493 yJ0_coder_7d493, Cond.code yJ0_coder_7d493 cJ0_coder_7d493 1 (some .byte), Cond.fieldLink RJ0 38 "java/lang/String" "COMPACT_STRINGS" "Z", Cond.fieldLink RJ0 15 "java/lang/String" "coder" "B", Cond.methodLink RX3 35 yX3_at, Cond.instanceMethod yX3_at, Cond.selects RX3 yX3_at yX3_at, Cond.code yX3_at cX3_at 2 (some .char)]
def wsX3_isWord_r2 : List Cond := [Cond.fieldLink RX3 9 "IceCoreDater$Text" "length" "I", Cond.fieldLink RX3 18 "IceCoreDater$Text" "signs" "[C", Cond.methodLink RX3 62 yJ0_charAt_5068e, Cond.instanceMethod yJ0_charAt_5068e, Cond.selects RJ0 yJ0_charAt_5068e yJ0_charAt_5068e, Cond.code yJ0_charAt_5068e cJ0_charAt_5068e 2 (some .char), Cond.methodLink RJ0 492 yJ0_isLatin1_aae02, Cond.instanceMethod yJ0_isLatin1_aae02, Cond.selects RJ0 yJ0_isLatin1_aae02 yJ0_isLatin1_aae02, Cond.code yJ0_isLatin1_aae02 cJ0_isLatin1_aae02 1 (some .boolean), Cond.methodLink RJ0 495 yJ1_charAt_3b067, Cond.static yJ1_charAt_3b067, Cond.initialized RJ1, Cond.code yJ1_charAt_3b067 cJ1_charAt_3b067 2 (some .char), Cond.methodLink RJ1 9 yJ0_checkIndex_df160, Cond.static yJ0_checkIndex_df160, Cond.code yJ0_checkIndex_df160 cJ0_checkIndex_df160 2 none, Cond.fieldLink RJ0 1053 "jdk/internal/util/Preconditions" "SIOOBE_FORMATTER" "Ljava/util/function/BiFunction;", Cond.methodLink RJ0 1059 yJ3_checkIndex_8e157, Cond.static yJ3_checkIndex_8e157, Cond.initialized RJ3, Cond.code yJ3_checkIndex_8e157 cJ3_checkIndex_8e157 3 (some .int), Cond.methodLink RJ0 498 yJ2_charAt_3b067, Cond.static yJ2_charAt_3b067]
def wsX3_isWord_r3 : List Cond := [Cond.initialized RJ2, Cond.code yJ2_charAt_3b067 cJ2_charAt_3b067 2 (some .char), Cond.methodLink RJ2 67 yJ2_checkIndex_2214a, Cond.static yJ2_checkIndex_2214a, Cond.code yJ2_checkIndex_2214a cJ2_checkIndex_2214a 2 none, Cond.methodLink RJ2 48 yJ2_length_9d52b, Cond.static yJ2_length_9d52b, Cond.code yJ2_length_9d52b cJ2_length_9d52b 1 (some .int), Cond.methodLink RJ2 414 yJ0_checkIndex_df160, Cond.methodLink RJ2 71 yJ2_getChar_3b067, Cond.static yJ2_getChar_3b067, Cond.code yJ2_getChar_3b067 cJ2_getChar_3b067 2 (some .char), Cond.fieldLink RJ2 44 "java/lang/StringUTF16" "$assertionsDisabled" "Z", Cond.fieldLink RJ2 59 "java/lang/StringUTF16" "HI_BYTE_SHIFT" "I", Cond.fieldLink RJ2 63 "java/lang/StringUTF16" "LO_BYTE_SHIFT" "I"]
def wsX3_isWord : List Cond := .code yX3_isWord cX3_isWord 4 (some .boolean) :: ((wsX3_isWord_r1 ++ (wsX3_isWord_r2 ++ wsX3_isWord_r3)) ++ wsX30)
def wsX3_isNumber : List Cond := .code yX3_isNumber cX3_isNumber 3 (some .boolean) :: ([.fieldLink RX3 26 "IceCoreDater$Text" "ends" "[I", .fieldLink RX3 22 "IceCoreDater$Text" "starts" "[I", .methodLink RX3 54 yX3_hasWord, .instanceMethod yX3_hasWord, .selects RX3 yX3_hasWord yX3_hasWord, .initialized RX3, .code yX3_hasWord cX3_hasWord 2 (some .boolean), .fieldLink RX3 15 "IceCoreDater$Text" "words" "I", .methodLink RX3 35 yX3_at, .instanceMethod yX3_at, .selects RX3 yX3_at yX3_at, .code yX3_at cX3_at 2 (some .char), .fieldLink RX3 9 "IceCoreDater$Text" "length" "I", .fieldLink RX3 18 "IceCoreDater$Text" "signs" "[C"] ++ wsX30)
def wsX3_isCommand_r1 : List Cond := [Cond.fieldLink RX3 15 "IceCoreDater$Text" "words" "I", Cond.methodLink RX3 46 yX3_isWord, Cond.instanceMethod yX3_isWord, Cond.selects RX3 yX3_isWord yX3_isWord, Cond.initialized RX3, Cond.code yX3_isWord cX3_isWord 4 (some .boolean), Cond.fieldLink RX3 26 "IceCoreDater$Text" "ends" "[I", Cond.fieldLink RX3 22 "IceCoreDater$Text" "starts" "[I", Cond.methodLink RX3 54 yX3_hasWord, Cond.instanceMethod yX3_hasWord, Cond.selects RX3 yX3_hasWord yX3_hasWord, Cond.code yX3_hasWord cX3_hasWord 2 (some .boolean), Cond.methodLink RX3 57 yJ0_length_8abf5, Cond.instanceMethod yJ0_length_8abf5, Cond.selects RJ0 yJ0_length_8abf5 yJ0_length_8abf5, Cond.initialized RJ0, Cond.code yJ0_length_8abf5 cJ0_length_8abf5 1 (some .int), Cond.fieldLink RJ0 9 "java/lang/String" "value" "[B", Cond.methodLink RJ0 335 yJ0_coder_7d493, Cond.instanceMethod yJ0_coder_7d493, Cond.selects RJ0 yJ0_coder_7d493 yJ0_coder_7d493, Cond.code yJ0_coder_7d493 cJ0_coder_7d493 1 (some .byte), Cond.fieldLink RJ0 38 "java/lang/String" "COMPACT_STRINGS" "Z", Cond.fieldLink RJ0 15 "java/lang/String" "coder" "B"]
def wsX3_isCommand_r2 : List Cond := [Cond.methodLink RX3 35 yX3_at, Cond.instanceMethod yX3_at, Cond.selects RX3 yX3_at yX3_at, Cond.code yX3_at cX3_at 2 (some .char), Cond.fieldLink RX3 9 "IceCoreDater$Text" "length" "I", Cond.fieldLink RX3 18 "IceCoreDater$Text" "signs" "[C", Cond.methodLink RX3 62 yJ0_charAt_5068e, Cond.instanceMethod yJ0_charAt_5068e, Cond.selects RJ0 yJ0_charAt_5068e yJ0_charAt_5068e, Cond.code yJ0_charAt_5068e cJ0_charAt_5068e 2 (some .char), Cond.methodLink RJ0 492 yJ0_isLatin1_aae02, Cond.instanceMethod yJ0_isLatin1_aae02, Cond.selects RJ0 yJ0_isLatin1_aae02 yJ0_isLatin1_aae02, Cond.code yJ0_isLatin1_aae02 cJ0_isLatin1_aae02 1 (some .boolean), Cond.methodLink RJ0 495 yJ1_charAt_3b067, Cond.static yJ1_charAt_3b067, Cond.initialized RJ1, Cond.code yJ1_charAt_3b067 cJ1_charAt_3b067 2 (some .char), Cond.methodLink RJ1 9 yJ0_checkIndex_df160, Cond.static yJ0_checkIndex_df160, Cond.code yJ0_checkIndex_df160 cJ0_checkIndex_df160 2 none, Cond.fieldLink RJ0 1053 "jdk/internal/util/Preconditions" "SIOOBE_FORMATTER" "Ljava/util/function/BiFunction;", Cond.methodLink RJ0 1059 yJ3_checkIndex_8e157, Cond.static yJ3_checkIndex_8e157]
def wsX3_isCommand_r3 : List Cond := [Cond.initialized RJ3, Cond.code yJ3_checkIndex_8e157 cJ3_checkIndex_8e157 3 (some .int), Cond.methodLink RJ0 498 yJ2_charAt_3b067, Cond.static yJ2_charAt_3b067, Cond.initialized RJ2, Cond.code yJ2_charAt_3b067 cJ2_charAt_3b067 2 (some .char), Cond.methodLink RJ2 67 yJ2_checkIndex_2214a, Cond.static yJ2_checkIndex_2214a, Cond.code yJ2_checkIndex_2214a cJ2_checkIndex_2214a 2 none, Cond.methodLink RJ2 48 yJ2_length_9d52b, Cond.static yJ2_length_9d52b, Cond.code yJ2_length_9d52b cJ2_length_9d52b 1 (some .int), Cond.methodLink RJ2 414 yJ0_checkIndex_df160, Cond.methodLink RJ2 71 yJ2_getChar_3b067, Cond.static yJ2_getChar_3b067, Cond.code yJ2_getChar_3b067 cJ2_getChar_3b067 2 (some .char), Cond.fieldLink RJ2 44 "java/lang/StringUTF16" "$assertionsDisabled" "Z", Cond.fieldLink RJ2 59 "java/lang/StringUTF16" "HI_BYTE_SHIFT" "I", Cond.fieldLink RJ2 63 "java/lang/StringUTF16" "LO_BYTE_SHIFT" "I", Cond.methodLink RX3 50 yX3_isNumber, Cond.instanceMethod yX3_isNumber, Cond.selects RX3 yX3_isNumber yX3_isNumber, Cond.code yX3_isNumber cX3_isNumber 3 (some .boolean)]
def wsX3_isCommand : List Cond := .code yX3_isCommand cX3_isCommand 4 (some .boolean) :: ((wsX3_isCommand_r1 ++ (wsX3_isCommand_r2 ++ wsX3_isCommand_r3)) ++ wsX30)
def wsX3_number : List Cond := .code yX3_number cX3_number 4 (some .int) :: ([.fieldLink RX3 22 "IceCoreDater$Text" "starts" "[I", .fieldLink RX3 26 "IceCoreDater$Text" "ends" "[I", .methodLink RX3 54 yX3_hasWord, .instanceMethod yX3_hasWord, .selects RX3 yX3_hasWord yX3_hasWord, .initialized RX3, .code yX3_hasWord cX3_hasWord 2 (some .boolean), .fieldLink RX3 15 "IceCoreDater$Text" "words" "I", .methodLink RX3 35 yX3_at, .instanceMethod yX3_at, .selects RX3 yX3_at yX3_at, .code yX3_at cX3_at 2 (some .char), .fieldLink RX3 9 "IceCoreDater$Text" "length" "I", .fieldLink RX3 18 "IceCoreDater$Text" "signs" "[C"] ++ wsX30)
def wsX4_init_r1 : List Cond := [Cond.methodLink RX4 1 objectInit, Cond.instanceMethod objectInit, Cond.code objectInit ⟨#[0xb1]⟩ 1 none, Cond.classLink RX4 7 RX0, Cond.instantiable RX0 12, Cond.initialized RX0, Cond.fieldLink RX4 10 "IceCoreDater" "core" "LIceCoreDater$Core;", Cond.classLink RX4 16 RX2, Cond.instantiable RX2 3, Cond.initialized RX2, Cond.fieldLink RX4 19 "IceCoreDater" "log" "LIceCoreDater$Log;", Cond.classLink RX4 23 RX1, Cond.instantiable RX1 3, Cond.initialized RX1, Cond.fieldLink RX4 26 "IceCoreDater" "falling" "LIceCoreDater$Falling;", Cond.classLink RX4 30 RX3, Cond.instantiable RX3 5, Cond.initialized RX3, Cond.fieldLink RX4 33 "IceCoreDater" "text" "LIceCoreDater$Text;", Cond.fieldLink RX4 37 "IceCoreDater" "acts" "I", Cond.constant RX4 41 (-1000000005), Cond.fieldLink RX4 42 "IceCoreDater" "failure" "I", Cond.instanceMethod yX0_init, Cond.code yX0_init cX0_init 1 none]
def wsX4_init_r2 : List Cond := [Cond.methodLink RX0 3 objectInit, Cond.fieldLink RX0 9 "IceCoreDater$Core" "size" "I", Cond.constant RX0 15 (100000), Cond.fieldLink RX0 16 "IceCoreDater$Core" "bed" "I", Cond.fieldLink RX0 19 "IceCoreDater$Core" "function" "I", Cond.fieldLink RX0 22 "IceCoreDater$Core" "kink" "I", Cond.fieldLink RX0 25 "IceCoreDater$Core" "closeOff" "I", Cond.arrayClass .int, Cond.fieldLink RX0 28 "IceCoreDater$Core" "thickness" "[I", Cond.fieldLink RX0 32 "IceCoreDater$Core" "accumulation" "[I", Cond.fieldLink RX0 35 "IceCoreDater$Core" "correction" "[I", Cond.fieldLink RX0 38 "IceCoreDater$Core" "told" "[I", Cond.fieldLink RX0 41 "IceCoreDater$Core" "ashAge" "[I", Cond.fieldLink RX0 44 "IceCoreDater$Core" "ashTolerance" "[I", Cond.fieldLink RX0 47 "IceCoreDater$Core" "count" "[I", Cond.methodLink RX4 18 yX2_init, Cond.instanceMethod yX2_init, Cond.code yX2_init cX2_init 2 none, Cond.methodLink RX2 3 objectInit, Cond.classLink RX2 11 RX0, Cond.fieldLink RX2 13 "IceCoreDater$Log" "slots" "[LIceCoreDater$Core;", Cond.fieldLink RX2 17 "IceCoreDater$Log" "oldest" "I", Cond.fieldLink RX2 21 "IceCoreDater$Log" "size" "I", Cond.instanceMethod yX1_init]
def wsX4_init_r3 : List Cond := [Cond.code yX1_init cX1_init 1 none, Cond.methodLink RX1 3 objectInit, Cond.fieldLink RX1 9 "IceCoreDater$Falling" "size" "I", Cond.arrayClass .long, Cond.fieldLink RX1 15 "IceCoreDater$Falling" "dividends" "[J", Cond.fieldLink RX1 19 "IceCoreDater$Falling" "factors" "[J", Cond.instanceMethod yX3_init, Cond.code yX3_init cX3_init 1 none, Cond.methodLink RX3 3 objectInit, Cond.fieldLink RX3 9 "IceCoreDater$Text" "length" "I", Cond.fieldLink RX3 15 "IceCoreDater$Text" "words" "I", Cond.arrayClass .char, Cond.fieldLink RX3 18 "IceCoreDater$Text" "signs" "[C", Cond.fieldLink RX3 22 "IceCoreDater$Text" "starts" "[I", Cond.fieldLink RX3 26 "IceCoreDater$Text" "ends" "[I"]
def wsX4_init : List Cond := .code yX4_init cX4_init 1 none :: ((wsX4_init_r1 ++ (wsX4_init_r2 ++ wsX4_init_r3)) ++ wsX00 ++ wsX40 ++ wsX20 ++ wsX10 ++ wsX30)
def wsX4_isError : List Cond := .code yX4_isError cX4_isError 1 (some .boolean) :: ([.constant RX4 139 (-1000000001), .constant RX4 185 (-1000000002), .constant RX4 212 (-1000000003), .constant RX4 213 (-1000000004)])
def wsX4_closeAct : List Cond := .code yX4_closeAct cX4_closeAct 2 (some .int) :: ([.fieldLink RX4 19 "IceCoreDater" "log" "LIceCoreDater$Log;", .fieldLink RX4 37 "IceCoreDater" "acts" "I", .methodLink RX4 209 yX4_isError, .static yX4_isError, .initialized RX4, .code yX4_isError cX4_isError 1 (some .boolean), .constant RX4 139 (-1000000001), .constant RX4 185 (-1000000002), .constant RX4 212 (-1000000003), .constant RX4 213 (-1000000004), .methodLink RX4 105 yX2_keep, .instanceMethod yX2_keep, .selects RX2 yX2_keep yX2_keep, .initialized RX2, .code yX2_keep cX2_keep 1 none, .fieldLink RX2 21 "IceCoreDater$Log" "size" "I", .fieldLink RX2 17 "IceCoreDater$Log" "oldest" "I"] ++ wsX40 ++ wsX20)
def wsX4_addLayer_r1 : List Cond := [Cond.fieldLink RX4 19 "IceCoreDater" "log" "LIceCoreDater$Log;", Cond.fieldLink RX4 10 "IceCoreDater" "core" "LIceCoreDater$Core;", Cond.methodLink RX4 45 yX2_prepare, Cond.instanceMethod yX2_prepare, Cond.selects RX2 yX2_prepare yX2_prepare, Cond.initialized RX2, Cond.code yX2_prepare cX2_prepare 3 none, Cond.fieldLink RX2 13 "IceCoreDater$Log" "slots" "[LIceCoreDater$Core;", Cond.fieldLink RX2 17 "IceCoreDater$Log" "oldest" "I", Cond.fieldLink RX2 21 "IceCoreDater$Log" "size" "I", Cond.methodLink RX2 25 yX0_copyFrom, Cond.instanceMethod yX0_copyFrom, Cond.selects RX0 yX0_copyFrom yX0_copyFrom, Cond.initialized RX0, Cond.code yX0_copyFrom cX0_copyFrom 2 none, Cond.fieldLink RX0 9 "IceCoreDater$Core" "size" "I", Cond.fieldLink RX0 16 "IceCoreDater$Core" "bed" "I", Cond.fieldLink RX0 19 "IceCoreDater$Core" "function" "I", Cond.fieldLink RX0 22 "IceCoreDater$Core" "kink" "I", Cond.fieldLink RX0 25 "IceCoreDater$Core" "closeOff" "I", Cond.fieldLink RX0 28 "IceCoreDater$Core" "thickness" "[I", Cond.methodLink RX0 50 arraycopyName, Cond.native arraycopyName, Cond.static arraycopyName]
def wsX4_addLayer_r2 : List Cond := [Cond.initialized "java/lang/System", Cond.fieldLink RX0 32 "IceCoreDater$Core" "accumulation" "[I", Cond.fieldLink RX0 35 "IceCoreDater$Core" "correction" "[I", Cond.fieldLink RX0 38 "IceCoreDater$Core" "told" "[I", Cond.fieldLink RX0 41 "IceCoreDater$Core" "ashAge" "[I", Cond.fieldLink RX0 44 "IceCoreDater$Core" "ashTolerance" "[I", Cond.fieldLink RX0 47 "IceCoreDater$Core" "count" "[I", Cond.methodLink RX4 49 yX0_append, Cond.instanceMethod yX0_append, Cond.selects RX0 yX0_append yX0_append, Cond.code yX0_append cX0_append 3 (some .int), Cond.constant RX0 71 (-1000000002), Cond.constant RX0 76 (-1000000003), Cond.constant RX0 77 (-1000000004), Cond.static yX4_isBetween, Cond.initialized RX4, Cond.code yX4_isBetween cX4_isBetween 3 (some .boolean), Cond.methodLink RX0 72 yX0_bottom, Cond.instanceMethod yX0_bottom, Cond.selects RX0 yX0_bottom yX0_bottom, Cond.code yX0_bottom cX0_bottom 1 (some .int), Cond.methodLink RX0 63 yX0_topOf, Cond.instanceMethod yX0_topOf, Cond.selects RX0 yX0_topOf yX0_topOf]
def wsX4_addLayer_r3 : List Cond := [Cond.code yX0_topOf cX0_topOf 4 (some .int), Cond.methodLink RX4 53 yX4_closeAct, Cond.instanceMethod yX4_closeAct, Cond.selects RX4 yX4_closeAct yX4_closeAct, Cond.code yX4_closeAct cX4_closeAct 2 (some .int), Cond.fieldLink RX4 37 "IceCoreDater" "acts" "I", Cond.methodLink RX4 209 yX4_isError, Cond.static yX4_isError, Cond.code yX4_isError cX4_isError 1 (some .boolean), Cond.constant RX4 139 (-1000000001), Cond.constant RX4 185 (-1000000002), Cond.constant RX4 212 (-1000000003), Cond.constant RX4 213 (-1000000004), Cond.methodLink RX4 105 yX2_keep, Cond.instanceMethod yX2_keep, Cond.selects RX2 yX2_keep yX2_keep, Cond.code yX2_keep cX2_keep 1 none]
def wsX4_addLayer : List Cond := .code yX4_addLayer cX4_addLayer 3 (some .int) :: ((wsX4_addLayer_r1 ++ (wsX4_addLayer_r2 ++ wsX4_addLayer_r3)) ++ wsX40 ++ wsX20 ++ wsX00)
def wsX4_removeLowest_r1 : List Cond := [Cond.fieldLink RX4 19 "IceCoreDater" "log" "LIceCoreDater$Log;", Cond.fieldLink RX4 10 "IceCoreDater" "core" "LIceCoreDater$Core;", Cond.methodLink RX4 45 yX2_prepare, Cond.instanceMethod yX2_prepare, Cond.selects RX2 yX2_prepare yX2_prepare, Cond.initialized RX2, Cond.code yX2_prepare cX2_prepare 3 none, Cond.fieldLink RX2 13 "IceCoreDater$Log" "slots" "[LIceCoreDater$Core;", Cond.fieldLink RX2 17 "IceCoreDater$Log" "oldest" "I", Cond.fieldLink RX2 21 "IceCoreDater$Log" "size" "I", Cond.methodLink RX2 25 yX0_copyFrom, Cond.instanceMethod yX0_copyFrom, Cond.selects RX0 yX0_copyFrom yX0_copyFrom, Cond.initialized RX0, Cond.code yX0_copyFrom cX0_copyFrom 2 none, Cond.fieldLink RX0 9 "IceCoreDater$Core" "size" "I", Cond.fieldLink RX0 16 "IceCoreDater$Core" "bed" "I", Cond.fieldLink RX0 19 "IceCoreDater$Core" "function" "I", Cond.fieldLink RX0 22 "IceCoreDater$Core" "kink" "I", Cond.fieldLink RX0 25 "IceCoreDater$Core" "closeOff" "I", Cond.fieldLink RX0 28 "IceCoreDater$Core" "thickness" "[I", Cond.methodLink RX0 50 arraycopyName, Cond.native arraycopyName, Cond.static arraycopyName]
def wsX4_removeLowest_r2 : List Cond := [Cond.initialized "java/lang/System", Cond.fieldLink RX0 32 "IceCoreDater$Core" "accumulation" "[I", Cond.fieldLink RX0 35 "IceCoreDater$Core" "correction" "[I", Cond.fieldLink RX0 38 "IceCoreDater$Core" "told" "[I", Cond.fieldLink RX0 41 "IceCoreDater$Core" "ashAge" "[I", Cond.fieldLink RX0 44 "IceCoreDater$Core" "ashTolerance" "[I", Cond.fieldLink RX0 47 "IceCoreDater$Core" "count" "[I", Cond.methodLink RX4 57 yX0_dropLowest, Cond.instanceMethod yX0_dropLowest, Cond.selects RX0 yX0_dropLowest yX0_dropLowest, Cond.code yX0_dropLowest cX0_dropLowest 1 (some .int), Cond.constant RX0 76 (-1000000003), Cond.methodLink RX4 53 yX4_closeAct, Cond.instanceMethod yX4_closeAct, Cond.selects RX4 yX4_closeAct yX4_closeAct, Cond.initialized RX4, Cond.code yX4_closeAct cX4_closeAct 2 (some .int), Cond.fieldLink RX4 37 "IceCoreDater" "acts" "I", Cond.methodLink RX4 209 yX4_isError, Cond.static yX4_isError, Cond.code yX4_isError cX4_isError 1 (some .boolean), Cond.constant RX4 139 (-1000000001), Cond.constant RX4 185 (-1000000002), Cond.constant RX4 212 (-1000000003)]
def wsX4_removeLowest_r3 : List Cond := [Cond.constant RX4 213 (-1000000004), Cond.methodLink RX4 105 yX2_keep, Cond.instanceMethod yX2_keep, Cond.selects RX2 yX2_keep yX2_keep, Cond.code yX2_keep cX2_keep 1 none]
def wsX4_removeLowest : List Cond := .code yX4_removeLowest cX4_removeLowest 1 (some .int) :: ((wsX4_removeLowest_r1 ++ (wsX4_removeLowest_r2 ++ wsX4_removeLowest_r3)) ++ wsX40 ++ wsX20 ++ wsX00)
def wsX4_divide_r1 : List Cond := [Cond.fieldLink RX4 19 "IceCoreDater" "log" "LIceCoreDater$Log;", Cond.fieldLink RX4 10 "IceCoreDater" "core" "LIceCoreDater$Core;", Cond.methodLink RX4 45 yX2_prepare, Cond.instanceMethod yX2_prepare, Cond.selects RX2 yX2_prepare yX2_prepare, Cond.initialized RX2, Cond.code yX2_prepare cX2_prepare 3 none, Cond.fieldLink RX2 13 "IceCoreDater$Log" "slots" "[LIceCoreDater$Core;", Cond.fieldLink RX2 17 "IceCoreDater$Log" "oldest" "I", Cond.fieldLink RX2 21 "IceCoreDater$Log" "size" "I", Cond.methodLink RX2 25 yX0_copyFrom, Cond.instanceMethod yX0_copyFrom, Cond.selects RX0 yX0_copyFrom yX0_copyFrom, Cond.initialized RX0, Cond.code yX0_copyFrom cX0_copyFrom 2 none, Cond.fieldLink RX0 9 "IceCoreDater$Core" "size" "I", Cond.fieldLink RX0 16 "IceCoreDater$Core" "bed" "I", Cond.fieldLink RX0 19 "IceCoreDater$Core" "function" "I", Cond.fieldLink RX0 22 "IceCoreDater$Core" "kink" "I", Cond.fieldLink RX0 25 "IceCoreDater$Core" "closeOff" "I", Cond.fieldLink RX0 28 "IceCoreDater$Core" "thickness" "[I", Cond.methodLink RX0 50 arraycopyName, Cond.native arraycopyName, Cond.static arraycopyName]
def wsX4_divide_r2 : List Cond := [Cond.initialized "java/lang/System", Cond.fieldLink RX0 32 "IceCoreDater$Core" "accumulation" "[I", Cond.fieldLink RX0 35 "IceCoreDater$Core" "correction" "[I", Cond.fieldLink RX0 38 "IceCoreDater$Core" "told" "[I", Cond.fieldLink RX0 41 "IceCoreDater$Core" "ashAge" "[I", Cond.fieldLink RX0 44 "IceCoreDater$Core" "ashTolerance" "[I", Cond.fieldLink RX0 47 "IceCoreDater$Core" "count" "[I", Cond.methodLink RX4 61 yX0_split, Cond.instanceMethod yX0_split, Cond.selects RX0 yX0_split yX0_split, Cond.code yX0_split cX0_split 4 (some .int), Cond.constant RX0 78 (-1000000001), Cond.constant RX0 71 (-1000000002), Cond.constant RX0 77 (-1000000004), Cond.methodLink RX0 56 yX0_has, Cond.instanceMethod yX0_has, Cond.selects RX0 yX0_has yX0_has, Cond.code yX0_has cX0_has 2 (some .boolean), Cond.static yX4_isBetween, Cond.initialized RX4, Cond.code yX4_isBetween cX4_isBetween 3 (some .boolean), Cond.methodLink RX0 79 yX0_copyLayer, Cond.instanceMethod yX0_copyLayer, Cond.selects RX0 yX0_copyLayer yX0_copyLayer]
def wsX4_divide_r3 : List Cond := [Cond.code yX0_copyLayer cX0_copyLayer 3 none, Cond.methodLink RX4 53 yX4_closeAct, Cond.instanceMethod yX4_closeAct, Cond.selects RX4 yX4_closeAct yX4_closeAct, Cond.code yX4_closeAct cX4_closeAct 2 (some .int), Cond.fieldLink RX4 37 "IceCoreDater" "acts" "I", Cond.methodLink RX4 209 yX4_isError, Cond.static yX4_isError, Cond.code yX4_isError cX4_isError 1 (some .boolean), Cond.constant RX4 139 (-1000000001), Cond.constant RX4 185 (-1000000002), Cond.constant RX4 212 (-1000000003), Cond.constant RX4 213 (-1000000004), Cond.methodLink RX4 105 yX2_keep, Cond.instanceMethod yX2_keep, Cond.selects RX2 yX2_keep yX2_keep, Cond.code yX2_keep cX2_keep 1 none]
def wsX4_divide : List Cond := .code yX4_divide cX4_divide 3 (some .int) :: ((wsX4_divide_r1 ++ (wsX4_divide_r2 ++ wsX4_divide_r3)) ++ wsX40 ++ wsX20 ++ wsX00)
def wsX4_setBed_r1 : List Cond := [Cond.fieldLink RX4 19 "IceCoreDater" "log" "LIceCoreDater$Log;", Cond.fieldLink RX4 10 "IceCoreDater" "core" "LIceCoreDater$Core;", Cond.methodLink RX4 45 yX2_prepare, Cond.instanceMethod yX2_prepare, Cond.selects RX2 yX2_prepare yX2_prepare, Cond.initialized RX2, Cond.code yX2_prepare cX2_prepare 3 none, Cond.fieldLink RX2 13 "IceCoreDater$Log" "slots" "[LIceCoreDater$Core;", Cond.fieldLink RX2 17 "IceCoreDater$Log" "oldest" "I", Cond.fieldLink RX2 21 "IceCoreDater$Log" "size" "I", Cond.methodLink RX2 25 yX0_copyFrom, Cond.instanceMethod yX0_copyFrom, Cond.selects RX0 yX0_copyFrom yX0_copyFrom, Cond.initialized RX0, Cond.code yX0_copyFrom cX0_copyFrom 2 none, Cond.fieldLink RX0 9 "IceCoreDater$Core" "size" "I", Cond.fieldLink RX0 16 "IceCoreDater$Core" "bed" "I", Cond.fieldLink RX0 19 "IceCoreDater$Core" "function" "I", Cond.fieldLink RX0 22 "IceCoreDater$Core" "kink" "I", Cond.fieldLink RX0 25 "IceCoreDater$Core" "closeOff" "I", Cond.fieldLink RX0 28 "IceCoreDater$Core" "thickness" "[I", Cond.methodLink RX0 50 arraycopyName, Cond.native arraycopyName, Cond.static arraycopyName]
def wsX4_setBed_r2 : List Cond := [Cond.initialized "java/lang/System", Cond.fieldLink RX0 32 "IceCoreDater$Core" "accumulation" "[I", Cond.fieldLink RX0 35 "IceCoreDater$Core" "correction" "[I", Cond.fieldLink RX0 38 "IceCoreDater$Core" "told" "[I", Cond.fieldLink RX0 41 "IceCoreDater$Core" "ashAge" "[I", Cond.fieldLink RX0 44 "IceCoreDater$Core" "ashTolerance" "[I", Cond.fieldLink RX0 47 "IceCoreDater$Core" "count" "[I", Cond.methodLink RX4 64 yX0_putBed, Cond.instanceMethod yX0_putBed, Cond.selects RX0 yX0_putBed yX0_putBed, Cond.code yX0_putBed cX0_putBed 3 (some .int), Cond.constant RX0 83 (200000), Cond.constant RX0 71 (-1000000002), Cond.constant RX0 76 (-1000000003), Cond.static yX4_isBetween, Cond.initialized RX4, Cond.code yX4_isBetween cX4_isBetween 3 (some .boolean), Cond.methodLink RX0 72 yX0_bottom, Cond.instanceMethod yX0_bottom, Cond.selects RX0 yX0_bottom yX0_bottom, Cond.code yX0_bottom cX0_bottom 1 (some .int), Cond.methodLink RX0 63 yX0_topOf, Cond.instanceMethod yX0_topOf, Cond.selects RX0 yX0_topOf yX0_topOf]
def wsX4_setBed_r3 : List Cond := [Cond.code yX0_topOf cX0_topOf 4 (some .int), Cond.methodLink RX4 53 yX4_closeAct, Cond.instanceMethod yX4_closeAct, Cond.selects RX4 yX4_closeAct yX4_closeAct, Cond.code yX4_closeAct cX4_closeAct 2 (some .int), Cond.fieldLink RX4 37 "IceCoreDater" "acts" "I", Cond.methodLink RX4 209 yX4_isError, Cond.static yX4_isError, Cond.code yX4_isError cX4_isError 1 (some .boolean), Cond.constant RX4 139 (-1000000001), Cond.constant RX4 185 (-1000000002), Cond.constant RX4 212 (-1000000003), Cond.constant RX4 213 (-1000000004), Cond.methodLink RX4 105 yX2_keep, Cond.instanceMethod yX2_keep, Cond.selects RX2 yX2_keep yX2_keep, Cond.code yX2_keep cX2_keep 1 none]
def wsX4_setBed : List Cond := .code yX4_setBed cX4_setBed 2 (some .int) :: ((wsX4_setBed_r1 ++ (wsX4_setBed_r2 ++ wsX4_setBed_r3)) ++ wsX40 ++ wsX20 ++ wsX00)
def wsX4_setFunction_r1 : List Cond := [Cond.fieldLink RX4 19 "IceCoreDater" "log" "LIceCoreDater$Log;", Cond.fieldLink RX4 10 "IceCoreDater" "core" "LIceCoreDater$Core;", Cond.methodLink RX4 45 yX2_prepare, Cond.instanceMethod yX2_prepare, Cond.selects RX2 yX2_prepare yX2_prepare, Cond.initialized RX2, Cond.code yX2_prepare cX2_prepare 3 none, Cond.fieldLink RX2 13 "IceCoreDater$Log" "slots" "[LIceCoreDater$Core;", Cond.fieldLink RX2 17 "IceCoreDater$Log" "oldest" "I", Cond.fieldLink RX2 21 "IceCoreDater$Log" "size" "I", Cond.methodLink RX2 25 yX0_copyFrom, Cond.instanceMethod yX0_copyFrom, Cond.selects RX0 yX0_copyFrom yX0_copyFrom, Cond.initialized RX0, Cond.code yX0_copyFrom cX0_copyFrom 2 none, Cond.fieldLink RX0 9 "IceCoreDater$Core" "size" "I", Cond.fieldLink RX0 16 "IceCoreDater$Core" "bed" "I", Cond.fieldLink RX0 19 "IceCoreDater$Core" "function" "I", Cond.fieldLink RX0 22 "IceCoreDater$Core" "kink" "I", Cond.fieldLink RX0 25 "IceCoreDater$Core" "closeOff" "I", Cond.fieldLink RX0 28 "IceCoreDater$Core" "thickness" "[I", Cond.methodLink RX0 50 arraycopyName, Cond.native arraycopyName, Cond.static arraycopyName]
def wsX4_setFunction_r2 : List Cond := [Cond.initialized "java/lang/System", Cond.fieldLink RX0 32 "IceCoreDater$Core" "accumulation" "[I", Cond.fieldLink RX0 35 "IceCoreDater$Core" "correction" "[I", Cond.fieldLink RX0 38 "IceCoreDater$Core" "told" "[I", Cond.fieldLink RX0 41 "IceCoreDater$Core" "ashAge" "[I", Cond.fieldLink RX0 44 "IceCoreDater$Core" "ashTolerance" "[I", Cond.fieldLink RX0 47 "IceCoreDater$Core" "count" "[I", Cond.methodLink RX4 67 yX0_putFunction, Cond.instanceMethod yX0_putFunction, Cond.selects RX0 yX0_putFunction yX0_putFunction, Cond.code yX0_putFunction cX0_putFunction 3 (some .int), Cond.constant RX0 71 (-1000000002), Cond.static yX4_isBetween, Cond.initialized RX4, Cond.code yX4_isBetween cX4_isBetween 3 (some .boolean), Cond.methodLink RX4 53 yX4_closeAct, Cond.instanceMethod yX4_closeAct, Cond.selects RX4 yX4_closeAct yX4_closeAct, Cond.code yX4_closeAct cX4_closeAct 2 (some .int), Cond.fieldLink RX4 37 "IceCoreDater" "acts" "I", Cond.methodLink RX4 209 yX4_isError, Cond.static yX4_isError, Cond.code yX4_isError cX4_isError 1 (some .boolean), Cond.constant RX4 139 (-1000000001)]
def wsX4_setFunction_r3 : List Cond := [Cond.constant RX4 185 (-1000000002), Cond.constant RX4 212 (-1000000003), Cond.constant RX4 213 (-1000000004), Cond.methodLink RX4 105 yX2_keep, Cond.instanceMethod yX2_keep, Cond.selects RX2 yX2_keep yX2_keep, Cond.code yX2_keep cX2_keep 1 none]
def wsX4_setFunction : List Cond := .code yX4_setFunction cX4_setFunction 2 (some .int) :: ((wsX4_setFunction_r1 ++ (wsX4_setFunction_r2 ++ wsX4_setFunction_r3)) ++ wsX40 ++ wsX20 ++ wsX00)
def wsX4_setKink_r1 : List Cond := [Cond.fieldLink RX4 19 "IceCoreDater" "log" "LIceCoreDater$Log;", Cond.fieldLink RX4 10 "IceCoreDater" "core" "LIceCoreDater$Core;", Cond.methodLink RX4 45 yX2_prepare, Cond.instanceMethod yX2_prepare, Cond.selects RX2 yX2_prepare yX2_prepare, Cond.initialized RX2, Cond.code yX2_prepare cX2_prepare 3 none, Cond.fieldLink RX2 13 "IceCoreDater$Log" "slots" "[LIceCoreDater$Core;", Cond.fieldLink RX2 17 "IceCoreDater$Log" "oldest" "I", Cond.fieldLink RX2 21 "IceCoreDater$Log" "size" "I", Cond.methodLink RX2 25 yX0_copyFrom, Cond.instanceMethod yX0_copyFrom, Cond.selects RX0 yX0_copyFrom yX0_copyFrom, Cond.initialized RX0, Cond.code yX0_copyFrom cX0_copyFrom 2 none, Cond.fieldLink RX0 9 "IceCoreDater$Core" "size" "I", Cond.fieldLink RX0 16 "IceCoreDater$Core" "bed" "I", Cond.fieldLink RX0 19 "IceCoreDater$Core" "function" "I", Cond.fieldLink RX0 22 "IceCoreDater$Core" "kink" "I", Cond.fieldLink RX0 25 "IceCoreDater$Core" "closeOff" "I", Cond.fieldLink RX0 28 "IceCoreDater$Core" "thickness" "[I", Cond.methodLink RX0 50 arraycopyName, Cond.native arraycopyName, Cond.static arraycopyName]
def wsX4_setKink_r2 : List Cond := [Cond.initialized "java/lang/System", Cond.fieldLink RX0 32 "IceCoreDater$Core" "accumulation" "[I", Cond.fieldLink RX0 35 "IceCoreDater$Core" "correction" "[I", Cond.fieldLink RX0 38 "IceCoreDater$Core" "told" "[I", Cond.fieldLink RX0 41 "IceCoreDater$Core" "ashAge" "[I", Cond.fieldLink RX0 44 "IceCoreDater$Core" "ashTolerance" "[I", Cond.fieldLink RX0 47 "IceCoreDater$Core" "count" "[I", Cond.methodLink RX4 70 yX0_putKink, Cond.instanceMethod yX0_putKink, Cond.selects RX0 yX0_putKink yX0_putKink, Cond.code yX0_putKink cX0_putKink 3 (some .int), Cond.constant RX0 71 (-1000000002), Cond.static yX4_isBetween, Cond.initialized RX4, Cond.code yX4_isBetween cX4_isBetween 3 (some .boolean), Cond.methodLink RX4 53 yX4_closeAct, Cond.instanceMethod yX4_closeAct, Cond.selects RX4 yX4_closeAct yX4_closeAct, Cond.code yX4_closeAct cX4_closeAct 2 (some .int), Cond.fieldLink RX4 37 "IceCoreDater" "acts" "I", Cond.methodLink RX4 209 yX4_isError, Cond.static yX4_isError, Cond.code yX4_isError cX4_isError 1 (some .boolean), Cond.constant RX4 139 (-1000000001)]
def wsX4_setKink_r3 : List Cond := [Cond.constant RX4 185 (-1000000002), Cond.constant RX4 212 (-1000000003), Cond.constant RX4 213 (-1000000004), Cond.methodLink RX4 105 yX2_keep, Cond.instanceMethod yX2_keep, Cond.selects RX2 yX2_keep yX2_keep, Cond.code yX2_keep cX2_keep 1 none]
def wsX4_setKink : List Cond := .code yX4_setKink cX4_setKink 2 (some .int) :: ((wsX4_setKink_r1 ++ (wsX4_setKink_r2 ++ wsX4_setKink_r3)) ++ wsX40 ++ wsX20 ++ wsX00)
def wsX4_tellThinning_r1 : List Cond := [Cond.fieldLink RX4 19 "IceCoreDater" "log" "LIceCoreDater$Log;", Cond.fieldLink RX4 10 "IceCoreDater" "core" "LIceCoreDater$Core;", Cond.methodLink RX4 45 yX2_prepare, Cond.instanceMethod yX2_prepare, Cond.selects RX2 yX2_prepare yX2_prepare, Cond.initialized RX2, Cond.code yX2_prepare cX2_prepare 3 none, Cond.fieldLink RX2 13 "IceCoreDater$Log" "slots" "[LIceCoreDater$Core;", Cond.fieldLink RX2 17 "IceCoreDater$Log" "oldest" "I", Cond.fieldLink RX2 21 "IceCoreDater$Log" "size" "I", Cond.methodLink RX2 25 yX0_copyFrom, Cond.instanceMethod yX0_copyFrom, Cond.selects RX0 yX0_copyFrom yX0_copyFrom, Cond.initialized RX0, Cond.code yX0_copyFrom cX0_copyFrom 2 none, Cond.fieldLink RX0 9 "IceCoreDater$Core" "size" "I", Cond.fieldLink RX0 16 "IceCoreDater$Core" "bed" "I", Cond.fieldLink RX0 19 "IceCoreDater$Core" "function" "I", Cond.fieldLink RX0 22 "IceCoreDater$Core" "kink" "I", Cond.fieldLink RX0 25 "IceCoreDater$Core" "closeOff" "I", Cond.fieldLink RX0 28 "IceCoreDater$Core" "thickness" "[I", Cond.methodLink RX0 50 arraycopyName, Cond.native arraycopyName, Cond.static arraycopyName]
def wsX4_tellThinning_r2 : List Cond := [Cond.initialized "java/lang/System", Cond.fieldLink RX0 32 "IceCoreDater$Core" "accumulation" "[I", Cond.fieldLink RX0 35 "IceCoreDater$Core" "correction" "[I", Cond.fieldLink RX0 38 "IceCoreDater$Core" "told" "[I", Cond.fieldLink RX0 41 "IceCoreDater$Core" "ashAge" "[I", Cond.fieldLink RX0 44 "IceCoreDater$Core" "ashTolerance" "[I", Cond.fieldLink RX0 47 "IceCoreDater$Core" "count" "[I", Cond.methodLink RX4 73 yX0_putTold, Cond.instanceMethod yX0_putTold, Cond.selects RX0 yX0_putTold yX0_putTold, Cond.code yX0_putTold cX0_putTold 4 (some .int), Cond.constant RX0 78 (-1000000001), Cond.constant RX0 71 (-1000000002), Cond.methodLink RX0 56 yX0_has, Cond.instanceMethod yX0_has, Cond.selects RX0 yX0_has yX0_has, Cond.code yX0_has cX0_has 2 (some .boolean), Cond.static yX4_isBetween, Cond.initialized RX4, Cond.code yX4_isBetween cX4_isBetween 3 (some .boolean), Cond.methodLink RX4 53 yX4_closeAct, Cond.instanceMethod yX4_closeAct, Cond.selects RX4 yX4_closeAct yX4_closeAct, Cond.code yX4_closeAct cX4_closeAct 2 (some .int)]
def wsX4_tellThinning_r3 : List Cond := [Cond.fieldLink RX4 37 "IceCoreDater" "acts" "I", Cond.methodLink RX4 209 yX4_isError, Cond.static yX4_isError, Cond.code yX4_isError cX4_isError 1 (some .boolean), Cond.constant RX4 139 (-1000000001), Cond.constant RX4 185 (-1000000002), Cond.constant RX4 212 (-1000000003), Cond.constant RX4 213 (-1000000004), Cond.methodLink RX4 105 yX2_keep, Cond.instanceMethod yX2_keep, Cond.selects RX2 yX2_keep yX2_keep, Cond.code yX2_keep cX2_keep 1 none]
def wsX4_tellThinning : List Cond := .code yX4_tellThinning cX4_tellThinning 3 (some .int) :: ((wsX4_tellThinning_r1 ++ (wsX4_tellThinning_r2 ++ wsX4_tellThinning_r3)) ++ wsX40 ++ wsX20 ++ wsX00)
def wsX4_correct_r1 : List Cond := [Cond.fieldLink RX4 19 "IceCoreDater" "log" "LIceCoreDater$Log;", Cond.fieldLink RX4 10 "IceCoreDater" "core" "LIceCoreDater$Core;", Cond.methodLink RX4 45 yX2_prepare, Cond.instanceMethod yX2_prepare, Cond.selects RX2 yX2_prepare yX2_prepare, Cond.initialized RX2, Cond.code yX2_prepare cX2_prepare 3 none, Cond.fieldLink RX2 13 "IceCoreDater$Log" "slots" "[LIceCoreDater$Core;", Cond.fieldLink RX2 17 "IceCoreDater$Log" "oldest" "I", Cond.fieldLink RX2 21 "IceCoreDater$Log" "size" "I", Cond.methodLink RX2 25 yX0_copyFrom, Cond.instanceMethod yX0_copyFrom, Cond.selects RX0 yX0_copyFrom yX0_copyFrom, Cond.initialized RX0, Cond.code yX0_copyFrom cX0_copyFrom 2 none, Cond.fieldLink RX0 9 "IceCoreDater$Core" "size" "I", Cond.fieldLink RX0 16 "IceCoreDater$Core" "bed" "I", Cond.fieldLink RX0 19 "IceCoreDater$Core" "function" "I", Cond.fieldLink RX0 22 "IceCoreDater$Core" "kink" "I", Cond.fieldLink RX0 25 "IceCoreDater$Core" "closeOff" "I", Cond.fieldLink RX0 28 "IceCoreDater$Core" "thickness" "[I", Cond.methodLink RX0 50 arraycopyName, Cond.native arraycopyName, Cond.static arraycopyName]
def wsX4_correct_r2 : List Cond := [Cond.initialized "java/lang/System", Cond.fieldLink RX0 32 "IceCoreDater$Core" "accumulation" "[I", Cond.fieldLink RX0 35 "IceCoreDater$Core" "correction" "[I", Cond.fieldLink RX0 38 "IceCoreDater$Core" "told" "[I", Cond.fieldLink RX0 41 "IceCoreDater$Core" "ashAge" "[I", Cond.fieldLink RX0 44 "IceCoreDater$Core" "ashTolerance" "[I", Cond.fieldLink RX0 47 "IceCoreDater$Core" "count" "[I", Cond.methodLink RX4 76 yX0_putCorrection, Cond.instanceMethod yX0_putCorrection, Cond.selects RX0 yX0_putCorrection yX0_putCorrection, Cond.code yX0_putCorrection cX0_putCorrection 4 (some .int), Cond.constant RX0 78 (-1000000001), Cond.constant RX0 71 (-1000000002), Cond.methodLink RX0 56 yX0_has, Cond.instanceMethod yX0_has, Cond.selects RX0 yX0_has yX0_has, Cond.code yX0_has cX0_has 2 (some .boolean), Cond.static yX4_isBetween, Cond.initialized RX4, Cond.code yX4_isBetween cX4_isBetween 3 (some .boolean), Cond.methodLink RX4 53 yX4_closeAct, Cond.instanceMethod yX4_closeAct, Cond.selects RX4 yX4_closeAct yX4_closeAct, Cond.code yX4_closeAct cX4_closeAct 2 (some .int)]
def wsX4_correct_r3 : List Cond := [Cond.fieldLink RX4 37 "IceCoreDater" "acts" "I", Cond.methodLink RX4 209 yX4_isError, Cond.static yX4_isError, Cond.code yX4_isError cX4_isError 1 (some .boolean), Cond.constant RX4 139 (-1000000001), Cond.constant RX4 185 (-1000000002), Cond.constant RX4 212 (-1000000003), Cond.constant RX4 213 (-1000000004), Cond.methodLink RX4 105 yX2_keep, Cond.instanceMethod yX2_keep, Cond.selects RX2 yX2_keep yX2_keep, Cond.code yX2_keep cX2_keep 1 none]
def wsX4_correct : List Cond := .code yX4_correct cX4_correct 3 (some .int) :: ((wsX4_correct_r1 ++ (wsX4_correct_r2 ++ wsX4_correct_r3)) ++ wsX40 ++ wsX20 ++ wsX00)
def wsX4_setCloseOff_r1 : List Cond := [Cond.fieldLink RX4 19 "IceCoreDater" "log" "LIceCoreDater$Log;", Cond.fieldLink RX4 10 "IceCoreDater" "core" "LIceCoreDater$Core;", Cond.methodLink RX4 45 yX2_prepare, Cond.instanceMethod yX2_prepare, Cond.selects RX2 yX2_prepare yX2_prepare, Cond.initialized RX2, Cond.code yX2_prepare cX2_prepare 3 none, Cond.fieldLink RX2 13 "IceCoreDater$Log" "slots" "[LIceCoreDater$Core;", Cond.fieldLink RX2 17 "IceCoreDater$Log" "oldest" "I", Cond.fieldLink RX2 21 "IceCoreDater$Log" "size" "I", Cond.methodLink RX2 25 yX0_copyFrom, Cond.instanceMethod yX0_copyFrom, Cond.selects RX0 yX0_copyFrom yX0_copyFrom, Cond.initialized RX0, Cond.code yX0_copyFrom cX0_copyFrom 2 none, Cond.fieldLink RX0 9 "IceCoreDater$Core" "size" "I", Cond.fieldLink RX0 16 "IceCoreDater$Core" "bed" "I", Cond.fieldLink RX0 19 "IceCoreDater$Core" "function" "I", Cond.fieldLink RX0 22 "IceCoreDater$Core" "kink" "I", Cond.fieldLink RX0 25 "IceCoreDater$Core" "closeOff" "I", Cond.fieldLink RX0 28 "IceCoreDater$Core" "thickness" "[I", Cond.methodLink RX0 50 arraycopyName, Cond.native arraycopyName, Cond.static arraycopyName]
def wsX4_setCloseOff_r2 : List Cond := [Cond.initialized "java/lang/System", Cond.fieldLink RX0 32 "IceCoreDater$Core" "accumulation" "[I", Cond.fieldLink RX0 35 "IceCoreDater$Core" "correction" "[I", Cond.fieldLink RX0 38 "IceCoreDater$Core" "told" "[I", Cond.fieldLink RX0 41 "IceCoreDater$Core" "ashAge" "[I", Cond.fieldLink RX0 44 "IceCoreDater$Core" "ashTolerance" "[I", Cond.fieldLink RX0 47 "IceCoreDater$Core" "count" "[I", Cond.methodLink RX4 79 yX0_putCloseOff, Cond.instanceMethod yX0_putCloseOff, Cond.selects RX0 yX0_putCloseOff yX0_putCloseOff, Cond.code yX0_putCloseOff cX0_putCloseOff 3 (some .int), Cond.constant RX0 71 (-1000000002), Cond.static yX4_isBetween, Cond.initialized RX4, Cond.code yX4_isBetween cX4_isBetween 3 (some .boolean), Cond.methodLink RX4 53 yX4_closeAct, Cond.instanceMethod yX4_closeAct, Cond.selects RX4 yX4_closeAct yX4_closeAct, Cond.code yX4_closeAct cX4_closeAct 2 (some .int), Cond.fieldLink RX4 37 "IceCoreDater" "acts" "I", Cond.methodLink RX4 209 yX4_isError, Cond.static yX4_isError, Cond.code yX4_isError cX4_isError 1 (some .boolean), Cond.constant RX4 139 (-1000000001)]
def wsX4_setCloseOff_r3 : List Cond := [Cond.constant RX4 185 (-1000000002), Cond.constant RX4 212 (-1000000003), Cond.constant RX4 213 (-1000000004), Cond.methodLink RX4 105 yX2_keep, Cond.instanceMethod yX2_keep, Cond.selects RX2 yX2_keep yX2_keep, Cond.code yX2_keep cX2_keep 1 none]
def wsX4_setCloseOff : List Cond := .code yX4_setCloseOff cX4_setCloseOff 2 (some .int) :: ((wsX4_setCloseOff_r1 ++ (wsX4_setCloseOff_r2 ++ wsX4_setCloseOff_r3)) ++ wsX40 ++ wsX20 ++ wsX00)
def wsX4_setAsh_r1 : List Cond := [Cond.fieldLink RX4 19 "IceCoreDater" "log" "LIceCoreDater$Log;", Cond.fieldLink RX4 10 "IceCoreDater" "core" "LIceCoreDater$Core;", Cond.methodLink RX4 45 yX2_prepare, Cond.instanceMethod yX2_prepare, Cond.selects RX2 yX2_prepare yX2_prepare, Cond.initialized RX2, Cond.code yX2_prepare cX2_prepare 3 none, Cond.fieldLink RX2 13 "IceCoreDater$Log" "slots" "[LIceCoreDater$Core;", Cond.fieldLink RX2 17 "IceCoreDater$Log" "oldest" "I", Cond.fieldLink RX2 21 "IceCoreDater$Log" "size" "I", Cond.methodLink RX2 25 yX0_copyFrom, Cond.instanceMethod yX0_copyFrom, Cond.selects RX0 yX0_copyFrom yX0_copyFrom, Cond.initialized RX0, Cond.code yX0_copyFrom cX0_copyFrom 2 none, Cond.fieldLink RX0 9 "IceCoreDater$Core" "size" "I", Cond.fieldLink RX0 16 "IceCoreDater$Core" "bed" "I", Cond.fieldLink RX0 19 "IceCoreDater$Core" "function" "I", Cond.fieldLink RX0 22 "IceCoreDater$Core" "kink" "I", Cond.fieldLink RX0 25 "IceCoreDater$Core" "closeOff" "I", Cond.fieldLink RX0 28 "IceCoreDater$Core" "thickness" "[I", Cond.methodLink RX0 50 arraycopyName, Cond.native arraycopyName, Cond.static arraycopyName]
def wsX4_setAsh_r2 : List Cond := [Cond.initialized "java/lang/System", Cond.fieldLink RX0 32 "IceCoreDater$Core" "accumulation" "[I", Cond.fieldLink RX0 35 "IceCoreDater$Core" "correction" "[I", Cond.fieldLink RX0 38 "IceCoreDater$Core" "told" "[I", Cond.fieldLink RX0 41 "IceCoreDater$Core" "ashAge" "[I", Cond.fieldLink RX0 44 "IceCoreDater$Core" "ashTolerance" "[I", Cond.fieldLink RX0 47 "IceCoreDater$Core" "count" "[I", Cond.methodLink RX4 82 yX0_putAsh, Cond.instanceMethod yX0_putAsh, Cond.selects RX0 yX0_putAsh yX0_putAsh, Cond.code yX0_putAsh cX0_putAsh 4 (some .int), Cond.constant RX0 78 (-1000000001), Cond.constant RX0 84 (100000000), Cond.constant RX0 71 (-1000000002), Cond.methodLink RX0 56 yX0_has, Cond.instanceMethod yX0_has, Cond.selects RX0 yX0_has yX0_has, Cond.code yX0_has cX0_has 2 (some .boolean), Cond.static yX4_isBetween, Cond.initialized RX4, Cond.code yX4_isBetween cX4_isBetween 3 (some .boolean), Cond.methodLink RX0 85 yX0_ashBeds, Cond.instanceMethod yX0_ashBeds, Cond.selects RX0 yX0_ashBeds yX0_ashBeds]
def wsX4_setAsh_r3 : List Cond := [Cond.code yX0_ashBeds cX0_ashBeds 3 (some .int), Cond.methodLink RX0 60 yX0_hasAsh, Cond.instanceMethod yX0_hasAsh, Cond.selects RX0 yX0_hasAsh yX0_hasAsh, Cond.code yX0_hasAsh cX0_hasAsh 2 (some .boolean), Cond.methodLink RX4 53 yX4_closeAct, Cond.instanceMethod yX4_closeAct, Cond.selects RX4 yX4_closeAct yX4_closeAct, Cond.code yX4_closeAct cX4_closeAct 2 (some .int), Cond.fieldLink RX4 37 "IceCoreDater" "acts" "I", Cond.methodLink RX4 209 yX4_isError, Cond.static yX4_isError, Cond.code yX4_isError cX4_isError 1 (some .boolean), Cond.constant RX4 139 (-1000000001), Cond.constant RX4 185 (-1000000002), Cond.constant RX4 212 (-1000000003), Cond.constant RX4 213 (-1000000004), Cond.methodLink RX4 105 yX2_keep, Cond.instanceMethod yX2_keep, Cond.selects RX2 yX2_keep yX2_keep, Cond.code yX2_keep cX2_keep 1 none]
def wsX4_setAsh : List Cond := .code yX4_setAsh cX4_setAsh 4 (some .int) :: ((wsX4_setAsh_r1 ++ (wsX4_setAsh_r2 ++ wsX4_setAsh_r3)) ++ wsX40 ++ wsX20 ++ wsX00)
def wsX4_removeAsh_r1 : List Cond := [Cond.fieldLink RX4 19 "IceCoreDater" "log" "LIceCoreDater$Log;", Cond.fieldLink RX4 10 "IceCoreDater" "core" "LIceCoreDater$Core;", Cond.methodLink RX4 45 yX2_prepare, Cond.instanceMethod yX2_prepare, Cond.selects RX2 yX2_prepare yX2_prepare, Cond.initialized RX2, Cond.code yX2_prepare cX2_prepare 3 none, Cond.fieldLink RX2 13 "IceCoreDater$Log" "slots" "[LIceCoreDater$Core;", Cond.fieldLink RX2 17 "IceCoreDater$Log" "oldest" "I", Cond.fieldLink RX2 21 "IceCoreDater$Log" "size" "I", Cond.methodLink RX2 25 yX0_copyFrom, Cond.instanceMethod yX0_copyFrom, Cond.selects RX0 yX0_copyFrom yX0_copyFrom, Cond.initialized RX0, Cond.code yX0_copyFrom cX0_copyFrom 2 none, Cond.fieldLink RX0 9 "IceCoreDater$Core" "size" "I", Cond.fieldLink RX0 16 "IceCoreDater$Core" "bed" "I", Cond.fieldLink RX0 19 "IceCoreDater$Core" "function" "I", Cond.fieldLink RX0 22 "IceCoreDater$Core" "kink" "I", Cond.fieldLink RX0 25 "IceCoreDater$Core" "closeOff" "I", Cond.fieldLink RX0 28 "IceCoreDater$Core" "thickness" "[I", Cond.methodLink RX0 50 arraycopyName, Cond.native arraycopyName, Cond.static arraycopyName]
def wsX4_removeAsh_r2 : List Cond := [Cond.initialized "java/lang/System", Cond.fieldLink RX0 32 "IceCoreDater$Core" "accumulation" "[I", Cond.fieldLink RX0 35 "IceCoreDater$Core" "correction" "[I", Cond.fieldLink RX0 38 "IceCoreDater$Core" "told" "[I", Cond.fieldLink RX0 41 "IceCoreDater$Core" "ashAge" "[I", Cond.fieldLink RX0 44 "IceCoreDater$Core" "ashTolerance" "[I", Cond.fieldLink RX0 47 "IceCoreDater$Core" "count" "[I", Cond.methodLink RX4 86 yX0_dropAsh, Cond.instanceMethod yX0_dropAsh, Cond.selects RX0 yX0_dropAsh yX0_dropAsh, Cond.code yX0_dropAsh cX0_dropAsh 2 (some .int), Cond.constant RX0 78 (-1000000001), Cond.constant RX0 76 (-1000000003), Cond.methodLink RX0 56 yX0_has, Cond.instanceMethod yX0_has, Cond.selects RX0 yX0_has yX0_has, Cond.code yX0_has cX0_has 2 (some .boolean), Cond.methodLink RX0 60 yX0_hasAsh, Cond.instanceMethod yX0_hasAsh, Cond.selects RX0 yX0_hasAsh yX0_hasAsh, Cond.code yX0_hasAsh cX0_hasAsh 2 (some .boolean), Cond.methodLink RX0 85 yX0_ashBeds, Cond.instanceMethod yX0_ashBeds, Cond.selects RX0 yX0_ashBeds yX0_ashBeds]
def wsX4_removeAsh_r3 : List Cond := [Cond.code yX0_ashBeds cX0_ashBeds 3 (some .int), Cond.methodLink RX4 53 yX4_closeAct, Cond.instanceMethod yX4_closeAct, Cond.selects RX4 yX4_closeAct yX4_closeAct, Cond.initialized RX4, Cond.code yX4_closeAct cX4_closeAct 2 (some .int), Cond.fieldLink RX4 37 "IceCoreDater" "acts" "I", Cond.methodLink RX4 209 yX4_isError, Cond.static yX4_isError, Cond.code yX4_isError cX4_isError 1 (some .boolean), Cond.constant RX4 139 (-1000000001), Cond.constant RX4 185 (-1000000002), Cond.constant RX4 212 (-1000000003), Cond.constant RX4 213 (-1000000004), Cond.methodLink RX4 105 yX2_keep, Cond.instanceMethod yX2_keep, Cond.selects RX2 yX2_keep yX2_keep, Cond.code yX2_keep cX2_keep 1 none]
def wsX4_removeAsh : List Cond := .code yX4_removeAsh cX4_removeAsh 2 (some .int) :: ((wsX4_removeAsh_r1 ++ (wsX4_removeAsh_r2 ++ wsX4_removeAsh_r3)) ++ wsX40 ++ wsX20 ++ wsX00)
def wsX4_setCount_r1 : List Cond := [Cond.fieldLink RX4 19 "IceCoreDater" "log" "LIceCoreDater$Log;", Cond.fieldLink RX4 10 "IceCoreDater" "core" "LIceCoreDater$Core;", Cond.methodLink RX4 45 yX2_prepare, Cond.instanceMethod yX2_prepare, Cond.selects RX2 yX2_prepare yX2_prepare, Cond.initialized RX2, Cond.code yX2_prepare cX2_prepare 3 none, Cond.fieldLink RX2 13 "IceCoreDater$Log" "slots" "[LIceCoreDater$Core;", Cond.fieldLink RX2 17 "IceCoreDater$Log" "oldest" "I", Cond.fieldLink RX2 21 "IceCoreDater$Log" "size" "I", Cond.methodLink RX2 25 yX0_copyFrom, Cond.instanceMethod yX0_copyFrom, Cond.selects RX0 yX0_copyFrom yX0_copyFrom, Cond.initialized RX0, Cond.code yX0_copyFrom cX0_copyFrom 2 none, Cond.fieldLink RX0 9 "IceCoreDater$Core" "size" "I", Cond.fieldLink RX0 16 "IceCoreDater$Core" "bed" "I", Cond.fieldLink RX0 19 "IceCoreDater$Core" "function" "I", Cond.fieldLink RX0 22 "IceCoreDater$Core" "kink" "I", Cond.fieldLink RX0 25 "IceCoreDater$Core" "closeOff" "I", Cond.fieldLink RX0 28 "IceCoreDater$Core" "thickness" "[I", Cond.methodLink RX0 50 arraycopyName, Cond.native arraycopyName, Cond.static arraycopyName]
def wsX4_setCount_r2 : List Cond := [Cond.initialized "java/lang/System", Cond.fieldLink RX0 32 "IceCoreDater$Core" "accumulation" "[I", Cond.fieldLink RX0 35 "IceCoreDater$Core" "correction" "[I", Cond.fieldLink RX0 38 "IceCoreDater$Core" "told" "[I", Cond.fieldLink RX0 41 "IceCoreDater$Core" "ashAge" "[I", Cond.fieldLink RX0 44 "IceCoreDater$Core" "ashTolerance" "[I", Cond.fieldLink RX0 47 "IceCoreDater$Core" "count" "[I", Cond.methodLink RX4 89 yX0_putCount, Cond.instanceMethod yX0_putCount, Cond.selects RX0 yX0_putCount yX0_putCount, Cond.code yX0_putCount cX0_putCount 3 (some .int), Cond.constant RX0 78 (-1000000001), Cond.constant RX0 88 (1000000), Cond.constant RX0 71 (-1000000002), Cond.methodLink RX0 56 yX0_has, Cond.instanceMethod yX0_has, Cond.selects RX0 yX0_has yX0_has, Cond.code yX0_has cX0_has 2 (some .boolean), Cond.static yX4_isBetween, Cond.initialized RX4, Cond.code yX4_isBetween cX4_isBetween 3 (some .boolean), Cond.methodLink RX0 89 yX0_countErrorOf, Cond.instanceMethod yX0_countErrorOf, Cond.selects RX0 yX0_countErrorOf yX0_countErrorOf]
def wsX4_setCount_r3 : List Cond := [Cond.code yX0_countErrorOf cX0_countErrorOf 2 (some .int), Cond.methodLink RX0 119 yX0_yearsOf, Cond.instanceMethod yX0_yearsOf, Cond.selects RX0 yX0_yearsOf yX0_yearsOf, Cond.code yX0_yearsOf cX0_yearsOf 6 (some .int), Cond.methodLink RX0 109 yX0_thinningOf, Cond.instanceMethod yX0_thinningOf, Cond.selects RX0 yX0_thinningOf yX0_thinningOf, Cond.code yX0_thinningOf cX0_thinningOf 15 (some .int), Cond.constantLong RX0 92 (1000), Cond.constantLong RX0 94 (2), Cond.constantLong RX0 96 (10), Cond.methodLink RX0 102 Lib.MathLoose.max_long.x, Cond.static Lib.MathLoose.max_long.x, Cond.initialized "java/lang/Math", Cond.code Lib.MathLoose.max_long.x Lib.MathLoose.max_long.code 4 (some .long), Cond.methodLink RX0 63 yX0_topOf, Cond.instanceMethod yX0_topOf, Cond.selects RX0 yX0_topOf yX0_topOf, Cond.code yX0_topOf cX0_topOf 4 (some .int), Cond.static yX4_quotient, Cond.code yX4_quotient cX4_quotient 4 (some .long), Cond.methodLink RX0 113 yX0_yearsDividend, Cond.instanceMethod yX0_yearsDividend]
def wsX4_setCount_r4 : List Cond := [Cond.selects RX0 yX0_yearsDividend yX0_yearsDividend, Cond.code yX0_yearsDividend cX0_yearsDividend 2 (some .long), Cond.constantLong RX0 107 (10000000), Cond.methodLink RX4 53 yX4_closeAct, Cond.instanceMethod yX4_closeAct, Cond.selects RX4 yX4_closeAct yX4_closeAct, Cond.code yX4_closeAct cX4_closeAct 2 (some .int), Cond.fieldLink RX4 37 "IceCoreDater" "acts" "I", Cond.methodLink RX4 209 yX4_isError, Cond.static yX4_isError, Cond.code yX4_isError cX4_isError 1 (some .boolean), Cond.constant RX4 139 (-1000000001), Cond.constant RX4 185 (-1000000002), Cond.constant RX4 212 (-1000000003), Cond.constant RX4 213 (-1000000004), Cond.methodLink RX4 105 yX2_keep, Cond.instanceMethod yX2_keep, Cond.selects RX2 yX2_keep yX2_keep, Cond.code yX2_keep cX2_keep 1 none]
def wsX4_setCount : List Cond := .code yX4_setCount cX4_setCount 3 (some .int) :: ((wsX4_setCount_r1 ++ (wsX4_setCount_r2 ++ (wsX4_setCount_r3 ++ wsX4_setCount_r4))) ++ wsX40 ++ wsX20 ++ wsX00)
def wsX4_tune_r1 : List Cond := [Cond.fieldLink RX4 19 "IceCoreDater" "log" "LIceCoreDater$Log;", Cond.fieldLink RX4 10 "IceCoreDater" "core" "LIceCoreDater$Core;", Cond.fieldLink RX4 26 "IceCoreDater" "falling" "LIceCoreDater$Falling;", Cond.methodLink RX4 45 yX2_prepare, Cond.instanceMethod yX2_prepare, Cond.selects RX2 yX2_prepare yX2_prepare, Cond.initialized RX2, Cond.code yX2_prepare cX2_prepare 3 none, Cond.fieldLink RX2 13 "IceCoreDater$Log" "slots" "[LIceCoreDater$Core;", Cond.fieldLink RX2 17 "IceCoreDater$Log" "oldest" "I", Cond.fieldLink RX2 21 "IceCoreDater$Log" "size" "I", Cond.methodLink RX2 25 yX0_copyFrom, Cond.instanceMethod yX0_copyFrom, Cond.selects RX0 yX0_copyFrom yX0_copyFrom, Cond.initialized RX0, Cond.code yX0_copyFrom cX0_copyFrom 2 none, Cond.fieldLink RX0 9 "IceCoreDater$Core" "size" "I", Cond.fieldLink RX0 16 "IceCoreDater$Core" "bed" "I", Cond.fieldLink RX0 19 "IceCoreDater$Core" "function" "I", Cond.fieldLink RX0 22 "IceCoreDater$Core" "kink" "I", Cond.fieldLink RX0 25 "IceCoreDater$Core" "closeOff" "I", Cond.fieldLink RX0 28 "IceCoreDater$Core" "thickness" "[I", Cond.methodLink RX0 50 arraycopyName, Cond.native arraycopyName]
def wsX4_tune_r2 : List Cond := [Cond.static arraycopyName, Cond.initialized "java/lang/System", Cond.fieldLink RX0 32 "IceCoreDater$Core" "accumulation" "[I", Cond.fieldLink RX0 35 "IceCoreDater$Core" "correction" "[I", Cond.fieldLink RX0 38 "IceCoreDater$Core" "told" "[I", Cond.fieldLink RX0 41 "IceCoreDater$Core" "ashAge" "[I", Cond.fieldLink RX0 44 "IceCoreDater$Core" "ashTolerance" "[I", Cond.fieldLink RX0 47 "IceCoreDater$Core" "count" "[I", Cond.methodLink RX4 92 yX0_fitCorrections, Cond.instanceMethod yX0_fitCorrections, Cond.selects RX0 yX0_fitCorrections yX0_fitCorrections, Cond.code yX0_fitCorrections cX0_fitCorrections 5 (some .int), Cond.constant RX0 76 (-1000000003), Cond.methodLink RX0 142 yX0_canBeTuned, Cond.instanceMethod yX0_canBeTuned, Cond.selects RX0 yX0_canBeTuned yX0_canBeTuned, Cond.code yX0_canBeTuned cX0_canBeTuned 3 (some .boolean), Cond.methodLink RX0 60 yX0_hasAsh, Cond.instanceMethod yX0_hasAsh, Cond.selects RX0 yX0_hasAsh yX0_hasAsh, Cond.code yX0_hasAsh cX0_hasAsh 2 (some .boolean), Cond.methodLink RX0 56 yX0_has, Cond.instanceMethod yX0_has, Cond.selects RX0 yX0_has yX0_has]
def wsX4_tune_r3 : List Cond := [Cond.code yX0_has cX0_has 2 (some .boolean), Cond.methodLink RX0 85 yX0_ashBeds, Cond.instanceMethod yX0_ashBeds, Cond.selects RX0 yX0_ashBeds yX0_ashBeds, Cond.code yX0_ashBeds cX0_ashBeds 3 (some .int), Cond.methodLink RX0 146 yX0_fitSegment, Cond.instanceMethod yX0_fitSegment, Cond.selects RX0 yX0_fitSegment yX0_fitSegment, Cond.code yX0_fitSegment cX0_fitSegment 7 none, Cond.methodLink RX0 153 yX1_clear, Cond.instanceMethod yX1_clear, Cond.selects RX1 yX1_clear yX1_clear, Cond.initialized RX1, Cond.code yX1_clear cX1_clear 1 none, Cond.fieldLink RX1 9 "IceCoreDater$Falling" "size" "I", Cond.methodLink RX0 113 yX0_yearsDividend, Cond.instanceMethod yX0_yearsDividend, Cond.selects RX0 yX0_yearsDividend yX0_yearsDividend, Cond.code yX0_yearsDividend cX0_yearsDividend 2 (some .long), Cond.constantLong RX0 107 (10000000), Cond.methodLink RX0 109 yX0_thinningOf, Cond.instanceMethod yX0_thinningOf, Cond.selects RX0 yX0_thinningOf yX0_thinningOf, Cond.code yX0_thinningOf cX0_thinningOf 15 (some .int)]
def wsX4_tune_r4 : List Cond := [Cond.constantLong RX0 92 (1000), Cond.constantLong RX0 94 (2), Cond.constantLong RX0 96 (10), Cond.methodLink RX0 102 Lib.MathLoose.max_long.x, Cond.static Lib.MathLoose.max_long.x, Cond.initialized "java/lang/Math", Cond.code Lib.MathLoose.max_long.x Lib.MathLoose.max_long.code 4 (some .long), Cond.methodLink RX0 63 yX0_topOf, Cond.instanceMethod yX0_topOf, Cond.selects RX0 yX0_topOf yX0_topOf, Cond.code yX0_topOf cX0_topOf 4 (some .int), Cond.static yX4_quotient, Cond.initialized RX4, Cond.code yX4_quotient cX4_quotient 4 (some .long), Cond.methodLink RX0 158 yX1_add, Cond.instanceMethod yX1_add, Cond.selects RX1 yX1_add yX1_add, Cond.code yX1_add cX1_add 5 none, Cond.fieldLink RX1 15 "IceCoreDater$Falling" "dividends" "[J", Cond.fieldLink RX1 19 "IceCoreDater$Falling" "factors" "[J", Cond.methodLink RX0 162 yX1_nearest, Cond.instanceMethod yX1_nearest, Cond.selects RX1 yX1_nearest yX1_nearest, Cond.code yX1_nearest cX1_nearest 8 (some .int)]
def wsX4_tune_r5 : List Cond := [Cond.methodLink RX1 22 yX1_firstAtMost, Cond.instanceMethod yX1_firstAtMost, Cond.selects RX1 yX1_firstAtMost yX1_firstAtMost, Cond.code yX1_firstAtMost cX1_firstAtMost 7 (some .int), Cond.methodLink RX1 26 yX1_sum, Cond.instanceMethod yX1_sum, Cond.selects RX1 yX1_sum yX1_sum, Cond.code yX1_sum cX1_sum 7 (some .long), Cond.methodLink RX0 150 yX0_fittingBeds, Cond.instanceMethod yX0_fittingBeds, Cond.selects RX0 yX0_fittingBeds yX0_fittingBeds, Cond.code yX0_fittingBeds cX0_fittingBeds 4 (some .int), Cond.methodLink RX0 122 Lib.Math.abs.name, Cond.static Lib.Math.abs.name, Cond.code Lib.Math.abs.name Lib.Math.abs.code 1 (some .int), Cond.methodLink RX0 119 yX0_yearsOf, Cond.instanceMethod yX0_yearsOf, Cond.selects RX0 yX0_yearsOf yX0_yearsOf, Cond.code yX0_yearsOf cX0_yearsOf 6 (some .int), Cond.methodLink RX4 53 yX4_closeAct, Cond.instanceMethod yX4_closeAct, Cond.selects RX4 yX4_closeAct yX4_closeAct, Cond.code yX4_closeAct cX4_closeAct 2 (some .int), Cond.fieldLink RX4 37 "IceCoreDater" "acts" "I"]
def wsX4_tune_r6 : List Cond := [Cond.methodLink RX4 209 yX4_isError, Cond.static yX4_isError, Cond.code yX4_isError cX4_isError 1 (some .boolean), Cond.constant RX4 139 (-1000000001), Cond.constant RX4 185 (-1000000002), Cond.constant RX4 212 (-1000000003), Cond.constant RX4 213 (-1000000004), Cond.methodLink RX4 105 yX2_keep, Cond.instanceMethod yX2_keep, Cond.selects RX2 yX2_keep yX2_keep, Cond.code yX2_keep cX2_keep 1 none]
def wsX4_tune : List Cond := .code yX4_tune cX4_tune 1 (some .int) :: ((wsX4_tune_r1 ++ (wsX4_tune_r2 ++ (wsX4_tune_r3 ++ (wsX4_tune_r4 ++ (wsX4_tune_r5 ++ wsX4_tune_r6))))) ++ wsX40 ++ wsX20 ++ wsX00 ++ wsX10)
def wsX4_undo_r1 : List Cond := [Cond.fieldLink RX4 19 "IceCoreDater" "log" "LIceCoreDater$Log;", Cond.fieldLink RX4 10 "IceCoreDater" "core" "LIceCoreDater$Core;", Cond.methodLink RX4 96 yX2_restore, Cond.instanceMethod yX2_restore, Cond.selects RX2 yX2_restore yX2_restore, Cond.initialized RX2, Cond.code yX2_restore cX2_restore 3 (some .int), Cond.fieldLink RX2 21 "IceCoreDater$Log" "size" "I", Cond.constant RX2 29 (-1000000005), Cond.fieldLink RX2 13 "IceCoreDater$Log" "slots" "[LIceCoreDater$Core;", Cond.fieldLink RX2 17 "IceCoreDater$Log" "oldest" "I", Cond.methodLink RX2 25 yX0_copyFrom, Cond.instanceMethod yX0_copyFrom, Cond.selects RX0 yX0_copyFrom yX0_copyFrom, Cond.initialized RX0, Cond.code yX0_copyFrom cX0_copyFrom 2 none, Cond.fieldLink RX0 9 "IceCoreDater$Core" "size" "I", Cond.fieldLink RX0 16 "IceCoreDater$Core" "bed" "I", Cond.fieldLink RX0 19 "IceCoreDater$Core" "function" "I", Cond.fieldLink RX0 22 "IceCoreDater$Core" "kink" "I", Cond.fieldLink RX0 25 "IceCoreDater$Core" "closeOff" "I", Cond.fieldLink RX0 28 "IceCoreDater$Core" "thickness" "[I", Cond.methodLink RX0 50 arraycopyName, Cond.native arraycopyName]
def wsX4_undo_r2 : List Cond := [Cond.static arraycopyName, Cond.initialized "java/lang/System", Cond.fieldLink RX0 32 "IceCoreDater$Core" "accumulation" "[I", Cond.fieldLink RX0 35 "IceCoreDater$Core" "correction" "[I", Cond.fieldLink RX0 38 "IceCoreDater$Core" "told" "[I", Cond.fieldLink RX0 41 "IceCoreDater$Core" "ashAge" "[I", Cond.fieldLink RX0 44 "IceCoreDater$Core" "ashTolerance" "[I", Cond.fieldLink RX0 47 "IceCoreDater$Core" "count" "[I"]
def wsX4_undo : List Cond := .code yX4_undo cX4_undo 1 (some .int) :: ((wsX4_undo_r1 ++ wsX4_undo_r2) ++ wsX40 ++ wsX20 ++ wsX00)
def wsX4_type : List Cond := .code yX4_type cX4_type 2 (some .int) :: ([.fieldLink RX4 33 "IceCoreDater" "text" "LIceCoreDater$Text;", .methodLink RX4 100 yX3_append, .instanceMethod yX3_append, .selects RX3 yX3_append yX3_append, .initialized RX3, .code yX3_append cX3_append 2 (some .int), .constant RX3 33 (-1000000002), .fieldLink RX3 9 "IceCoreDater$Text" "length" "I", .constant RX3 34 (-1000000004), .fieldLink RX3 18 "IceCoreDater$Text" "signs" "[C", .static yX4_isBetween, .initialized RX4, .code yX4_isBetween cX4_isBetween 3 (some .boolean)] ++ wsX40 ++ wsX30)
def wsX4_clearText : List Cond := .code yX4_clearText cX4_clearText 1 (some .int) :: ([.fieldLink RX4 33 "IceCoreDater" "text" "LIceCoreDater$Text;", .methodLink RX4 102 yX3_empty, .instanceMethod yX3_empty, .selects RX3 yX3_empty yX3_empty, .initialized RX3, .code yX3_empty cX3_empty 2 (some .int), .fieldLink RX3 9 "IceCoreDater$Text" "length" "I"] ++ wsX40 ++ wsX30)
def wsX4_executeUse_r1 : List Cond := [Cond.fieldLink RX4 33 "IceCoreDater" "text" "LIceCoreDater$Text;", Cond.fieldLink RX4 240 "IceCoreDater$Text" "words" "I", Cond.constant RX4 214 (-1000000006), Cond.fieldLink RX4 10 "IceCoreDater" "core" "LIceCoreDater$Core;", Cond.methodLink RX4 245 yX3_isWord, Cond.instanceMethod yX3_isWord, Cond.selects RX3 yX3_isWord yX3_isWord, Cond.initialized RX3, Cond.code yX3_isWord cX3_isWord 4 (some .boolean), Cond.fieldLink RX3 26 "IceCoreDater$Text" "ends" "[I", Cond.fieldLink RX3 22 "IceCoreDater$Text" "starts" "[I", Cond.methodLink RX3 54 yX3_hasWord, Cond.instanceMethod yX3_hasWord, Cond.selects RX3 yX3_hasWord yX3_hasWord, Cond.code yX3_hasWord cX3_hasWord 2 (some .boolean), Cond.fieldLink RX3 15 "IceCoreDater$Text" "words" "I", Cond.methodLink RX3 57 yJ0_length_8abf5, Cond.instanceMethod yJ0_length_8abf5, Cond.selects RJ0 yJ0_length_8abf5 yJ0_length_8abf5, Cond.initialized RJ0, Cond.code yJ0_length_8abf5 cJ0_length_8abf5 1 (some .int), Cond.fieldLink RJ0 9 "java/lang/String" "value" "[B", Cond.methodLink RJ0 335 yJ0_coder_7d493, Cond.instanceMethod yJ0_coder_7d493]
def wsX4_executeUse_r2 : List Cond := [Cond.selects RJ0 yJ0_coder_7d493 yJ0_coder_7d493, Cond.code yJ0_coder_7d493 cJ0_coder_7d493 1 (some .byte), Cond.fieldLink RJ0 38 "java/lang/String" "COMPACT_STRINGS" "Z", Cond.fieldLink RJ0 15 "java/lang/String" "coder" "B", Cond.methodLink RX3 35 yX3_at, Cond.instanceMethod yX3_at, Cond.selects RX3 yX3_at yX3_at, Cond.code yX3_at cX3_at 2 (some .char), Cond.fieldLink RX3 9 "IceCoreDater$Text" "length" "I", Cond.fieldLink RX3 18 "IceCoreDater$Text" "signs" "[C", Cond.methodLink RX3 62 yJ0_charAt_5068e, Cond.instanceMethod yJ0_charAt_5068e, Cond.selects RJ0 yJ0_charAt_5068e yJ0_charAt_5068e, Cond.code yJ0_charAt_5068e cJ0_charAt_5068e 2 (some .char), Cond.methodLink RJ0 492 yJ0_isLatin1_aae02, Cond.instanceMethod yJ0_isLatin1_aae02, Cond.selects RJ0 yJ0_isLatin1_aae02 yJ0_isLatin1_aae02, Cond.code yJ0_isLatin1_aae02 cJ0_isLatin1_aae02 1 (some .boolean), Cond.methodLink RJ0 495 yJ1_charAt_3b067, Cond.static yJ1_charAt_3b067, Cond.initialized RJ1, Cond.code yJ1_charAt_3b067 cJ1_charAt_3b067 2 (some .char), Cond.methodLink RJ1 9 yJ0_checkIndex_df160, Cond.static yJ0_checkIndex_df160]
def wsX4_executeUse_r3 : List Cond := [Cond.code yJ0_checkIndex_df160 cJ0_checkIndex_df160 2 none, Cond.fieldLink RJ0 1053 "jdk/internal/util/Preconditions" "SIOOBE_FORMATTER" "Ljava/util/function/BiFunction;", Cond.methodLink RJ0 1059 yJ3_checkIndex_8e157, Cond.static yJ3_checkIndex_8e157, Cond.initialized RJ3, Cond.code yJ3_checkIndex_8e157 cJ3_checkIndex_8e157 3 (some .int), Cond.methodLink RJ0 498 yJ2_charAt_3b067, Cond.static yJ2_charAt_3b067, Cond.initialized RJ2, Cond.code yJ2_charAt_3b067 cJ2_charAt_3b067 2 (some .char), Cond.methodLink RJ2 67 yJ2_checkIndex_2214a, Cond.static yJ2_checkIndex_2214a, Cond.code yJ2_checkIndex_2214a cJ2_checkIndex_2214a 2 none, Cond.methodLink RJ2 48 yJ2_length_9d52b, Cond.static yJ2_length_9d52b, Cond.code yJ2_length_9d52b cJ2_length_9d52b 1 (some .int), Cond.methodLink RJ2 414 yJ0_checkIndex_df160, Cond.methodLink RJ2 71 yJ2_getChar_3b067, Cond.static yJ2_getChar_3b067, Cond.code yJ2_getChar_3b067 cJ2_getChar_3b067 2 (some .char), Cond.fieldLink RJ2 44 "java/lang/StringUTF16" "$assertionsDisabled" "Z", Cond.fieldLink RJ2 59 "java/lang/StringUTF16" "HI_BYTE_SHIFT" "I", Cond.fieldLink RJ2 63 "java/lang/StringUTF16" "LO_BYTE_SHIFT" "I", Cond.methodLink RX4 67 yX0_putFunction]
def wsX4_executeUse_r4 : List Cond := [Cond.instanceMethod yX0_putFunction, Cond.selects RX0 yX0_putFunction yX0_putFunction, Cond.initialized RX0, Cond.code yX0_putFunction cX0_putFunction 3 (some .int), Cond.constant RX0 71 (-1000000002), Cond.fieldLink RX0 19 "IceCoreDater$Core" "function" "I", Cond.static yX4_isBetween, Cond.initialized RX4, Cond.code yX4_isBetween cX4_isBetween 3 (some .boolean)]
def wsX4_executeUse : List Cond := .code yX4_executeUse cX4_executeUse 1 (some .int) :: ((wsX4_executeUse_r1 ++ (wsX4_executeUse_r2 ++ (wsX4_executeUse_r3 ++ wsX4_executeUse_r4))) ++ wsX40 ++ wsX30 ++ wsX00)
def wsX4_execute_r1 : List Cond := [Cond.fieldLink RX4 33 "IceCoreDater" "text" "LIceCoreDater$Text;", Cond.fieldLink RX4 10 "IceCoreDater" "core" "LIceCoreDater$Core;", Cond.fieldLink RX4 26 "IceCoreDater" "falling" "LIceCoreDater$Falling;", Cond.methodLink RX4 217 yX3_isCommand, Cond.instanceMethod yX3_isCommand, Cond.selects RX3 yX3_isCommand yX3_isCommand, Cond.initialized RX3, Cond.code yX3_isCommand cX3_isCommand 4 (some .boolean), Cond.fieldLink RX3 15 "IceCoreDater$Text" "words" "I", Cond.methodLink RX3 46 yX3_isWord, Cond.instanceMethod yX3_isWord, Cond.selects RX3 yX3_isWord yX3_isWord, Cond.code yX3_isWord cX3_isWord 4 (some .boolean), Cond.fieldLink RX3 26 "IceCoreDater$Text" "ends" "[I", Cond.fieldLink RX3 22 "IceCoreDater$Text" "starts" "[I", Cond.methodLink RX3 54 yX3_hasWord, Cond.instanceMethod yX3_hasWord, Cond.selects RX3 yX3_hasWord yX3_hasWord, Cond.code yX3_hasWord cX3_hasWord 2 (some .boolean), Cond.methodLink RX3 57 yJ0_length_8abf5, Cond.instanceMethod yJ0_length_8abf5, Cond.selects RJ0 yJ0_length_8abf5 yJ0_length_8abf5, Cond.initialized RJ0, Cond.code yJ0_length_8abf5 cJ0_length_8abf5 1 (some .int)]
def wsX4_execute_r2 : List Cond := [Cond.fieldLink RJ0 9 "java/lang/String" "value" "[B", Cond.methodLink RJ0 335 yJ0_coder_7d493, Cond.instanceMethod yJ0_coder_7d493, Cond.selects RJ0 yJ0_coder_7d493 yJ0_coder_7d493, Cond.code yJ0_coder_7d493 cJ0_coder_7d493 1 (some .byte), Cond.fieldLink RJ0 38 "java/lang/String" "COMPACT_STRINGS" "Z", Cond.fieldLink RJ0 15 "java/lang/String" "coder" "B", Cond.methodLink RX3 35 yX3_at, Cond.instanceMethod yX3_at, Cond.selects RX3 yX3_at yX3_at, Cond.code yX3_at cX3_at 2 (some .char), Cond.fieldLink RX3 9 "IceCoreDater$Text" "length" "I", Cond.fieldLink RX3 18 "IceCoreDater$Text" "signs" "[C", Cond.methodLink RX3 62 yJ0_charAt_5068e, Cond.instanceMethod yJ0_charAt_5068e, Cond.selects RJ0 yJ0_charAt_5068e yJ0_charAt_5068e, Cond.code yJ0_charAt_5068e cJ0_charAt_5068e 2 (some .char), Cond.methodLink RJ0 492 yJ0_isLatin1_aae02, Cond.instanceMethod yJ0_isLatin1_aae02, Cond.selects RJ0 yJ0_isLatin1_aae02 yJ0_isLatin1_aae02, Cond.code yJ0_isLatin1_aae02 cJ0_isLatin1_aae02 1 (some .boolean), Cond.methodLink RJ0 495 yJ1_charAt_3b067, Cond.static yJ1_charAt_3b067, Cond.initialized RJ1]
def wsX4_execute_r3 : List Cond := [Cond.code yJ1_charAt_3b067 cJ1_charAt_3b067 2 (some .char), Cond.methodLink RJ1 9 yJ0_checkIndex_df160, Cond.static yJ0_checkIndex_df160, Cond.code yJ0_checkIndex_df160 cJ0_checkIndex_df160 2 none, Cond.fieldLink RJ0 1053 "jdk/internal/util/Preconditions" "SIOOBE_FORMATTER" "Ljava/util/function/BiFunction;", Cond.methodLink RJ0 1059 yJ3_checkIndex_8e157, Cond.static yJ3_checkIndex_8e157, Cond.initialized RJ3, Cond.code yJ3_checkIndex_8e157 cJ3_checkIndex_8e157 3 (some .int), Cond.methodLink RJ0 498 yJ2_charAt_3b067, Cond.static yJ2_charAt_3b067, Cond.initialized RJ2, Cond.code yJ2_charAt_3b067 cJ2_charAt_3b067 2 (some .char), Cond.methodLink RJ2 67 yJ2_checkIndex_2214a, Cond.static yJ2_checkIndex_2214a, Cond.code yJ2_checkIndex_2214a cJ2_checkIndex_2214a 2 none, Cond.methodLink RJ2 48 yJ2_length_9d52b, Cond.static yJ2_length_9d52b, Cond.code yJ2_length_9d52b cJ2_length_9d52b 1 (some .int), Cond.methodLink RJ2 414 yJ0_checkIndex_df160, Cond.methodLink RJ2 71 yJ2_getChar_3b067, Cond.static yJ2_getChar_3b067, Cond.code yJ2_getChar_3b067 cJ2_getChar_3b067 2 (some .char), Cond.fieldLink RJ2 44 "java/lang/StringUTF16" "$assertionsDisabled" "Z"]
def wsX4_execute_r4 : List Cond := [Cond.fieldLink RJ2 59 "java/lang/StringUTF16" "HI_BYTE_SHIFT" "I", Cond.fieldLink RJ2 63 "java/lang/StringUTF16" "LO_BYTE_SHIFT" "I", Cond.methodLink RX3 50 yX3_isNumber, Cond.instanceMethod yX3_isNumber, Cond.selects RX3 yX3_isNumber yX3_isNumber, Cond.code yX3_isNumber cX3_isNumber 3 (some .boolean), Cond.methodLink RX4 221 yX3_number, Cond.instanceMethod yX3_number, Cond.selects RX3 yX3_number yX3_number, Cond.code yX3_number cX3_number 4 (some .int), Cond.methodLink RX4 49 yX0_append, Cond.instanceMethod yX0_append, Cond.selects RX0 yX0_append yX0_append, Cond.initialized RX0, Cond.code yX0_append cX0_append 3 (some .int), Cond.constant RX0 71 (-1000000002), Cond.fieldLink RX0 16 "IceCoreDater$Core" "bed" "I", Cond.constant RX0 76 (-1000000003), Cond.fieldLink RX0 9 "IceCoreDater$Core" "size" "I", Cond.constant RX0 77 (-1000000004), Cond.fieldLink RX0 28 "IceCoreDater$Core" "thickness" "[I", Cond.fieldLink RX0 32 "IceCoreDater$Core" "accumulation" "[I", Cond.fieldLink RX0 35 "IceCoreDater$Core" "correction" "[I", Cond.fieldLink RX0 38 "IceCoreDater$Core" "told" "[I"]
def wsX4_execute_r5 : List Cond := [Cond.fieldLink RX0 41 "IceCoreDater$Core" "ashAge" "[I", Cond.fieldLink RX0 44 "IceCoreDater$Core" "ashTolerance" "[I", Cond.fieldLink RX0 47 "IceCoreDater$Core" "count" "[I", Cond.static yX4_isBetween, Cond.initialized RX4, Cond.code yX4_isBetween cX4_isBetween 3 (some .boolean), Cond.methodLink RX0 72 yX0_bottom, Cond.instanceMethod yX0_bottom, Cond.selects RX0 yX0_bottom yX0_bottom, Cond.code yX0_bottom cX0_bottom 1 (some .int), Cond.methodLink RX0 63 yX0_topOf, Cond.instanceMethod yX0_topOf, Cond.selects RX0 yX0_topOf yX0_topOf, Cond.code yX0_topOf cX0_topOf 4 (some .int), Cond.methodLink RX4 82 yX0_putAsh, Cond.instanceMethod yX0_putAsh, Cond.selects RX0 yX0_putAsh yX0_putAsh, Cond.code yX0_putAsh cX0_putAsh 4 (some .int), Cond.constant RX0 78 (-1000000001), Cond.constant RX0 84 (100000000), Cond.methodLink RX0 56 yX0_has, Cond.instanceMethod yX0_has, Cond.selects RX0 yX0_has yX0_has, Cond.code yX0_has cX0_has 2 (some .boolean)]
def wsX4_execute_r6 : List Cond := [Cond.methodLink RX0 85 yX0_ashBeds, Cond.instanceMethod yX0_ashBeds, Cond.selects RX0 yX0_ashBeds yX0_ashBeds, Cond.code yX0_ashBeds cX0_ashBeds 3 (some .int), Cond.methodLink RX0 60 yX0_hasAsh, Cond.instanceMethod yX0_hasAsh, Cond.selects RX0 yX0_hasAsh yX0_hasAsh, Cond.code yX0_hasAsh cX0_hasAsh 2 (some .boolean), Cond.methodLink RX4 89 yX0_putCount, Cond.instanceMethod yX0_putCount, Cond.selects RX0 yX0_putCount yX0_putCount, Cond.code yX0_putCount cX0_putCount 3 (some .int), Cond.constant RX0 88 (1000000), Cond.methodLink RX0 89 yX0_countErrorOf, Cond.instanceMethod yX0_countErrorOf, Cond.selects RX0 yX0_countErrorOf yX0_countErrorOf, Cond.code yX0_countErrorOf cX0_countErrorOf 2 (some .int), Cond.fieldLink RX0 19 "IceCoreDater$Core" "function" "I", Cond.fieldLink RX0 22 "IceCoreDater$Core" "kink" "I", Cond.methodLink RX0 119 yX0_yearsOf, Cond.instanceMethod yX0_yearsOf, Cond.selects RX0 yX0_yearsOf yX0_yearsOf, Cond.code yX0_yearsOf cX0_yearsOf 6 (some .int), Cond.methodLink RX0 109 yX0_thinningOf]
def wsX4_execute_r7 : List Cond := [Cond.instanceMethod yX0_thinningOf, Cond.selects RX0 yX0_thinningOf yX0_thinningOf, Cond.code yX0_thinningOf cX0_thinningOf 15 (some .int), Cond.constantLong RX0 92 (1000), Cond.constantLong RX0 94 (2), Cond.constantLong RX0 96 (10), Cond.methodLink RX0 102 Lib.MathLoose.max_long.x, Cond.static Lib.MathLoose.max_long.x, Cond.initialized "java/lang/Math", Cond.code Lib.MathLoose.max_long.x Lib.MathLoose.max_long.code 4 (some .long), Cond.static yX4_quotient, Cond.code yX4_quotient cX4_quotient 4 (some .long), Cond.methodLink RX0 113 yX0_yearsDividend, Cond.instanceMethod yX0_yearsDividend, Cond.selects RX0 yX0_yearsDividend yX0_yearsDividend, Cond.code yX0_yearsDividend cX0_yearsDividend 2 (some .long), Cond.constantLong RX0 107 (10000000), Cond.methodLink RX4 76 yX0_putCorrection, Cond.instanceMethod yX0_putCorrection, Cond.selects RX0 yX0_putCorrection yX0_putCorrection, Cond.code yX0_putCorrection cX0_putCorrection 4 (some .int), Cond.methodLink RX4 64 yX0_putBed, Cond.instanceMethod yX0_putBed, Cond.selects RX0 yX0_putBed yX0_putBed]
def wsX4_execute_r8 : List Cond := [Cond.code yX0_putBed cX0_putBed 3 (some .int), Cond.constant RX0 83 (200000), Cond.methodLink RX4 70 yX0_putKink, Cond.instanceMethod yX0_putKink, Cond.selects RX0 yX0_putKink yX0_putKink, Cond.code yX0_putKink cX0_putKink 3 (some .int), Cond.methodLink RX4 79 yX0_putCloseOff, Cond.instanceMethod yX0_putCloseOff, Cond.selects RX0 yX0_putCloseOff yX0_putCloseOff, Cond.code yX0_putCloseOff cX0_putCloseOff 3 (some .int), Cond.fieldLink RX0 25 "IceCoreDater$Core" "closeOff" "I", Cond.methodLink RX4 92 yX0_fitCorrections, Cond.instanceMethod yX0_fitCorrections, Cond.selects RX0 yX0_fitCorrections yX0_fitCorrections, Cond.code yX0_fitCorrections cX0_fitCorrections 5 (some .int), Cond.methodLink RX0 142 yX0_canBeTuned, Cond.instanceMethod yX0_canBeTuned, Cond.selects RX0 yX0_canBeTuned yX0_canBeTuned, Cond.code yX0_canBeTuned cX0_canBeTuned 3 (some .boolean), Cond.methodLink RX0 146 yX0_fitSegment, Cond.instanceMethod yX0_fitSegment, Cond.selects RX0 yX0_fitSegment yX0_fitSegment, Cond.code yX0_fitSegment cX0_fitSegment 7 none, Cond.methodLink RX0 153 yX1_clear]
def wsX4_execute_r9 : List Cond := [Cond.instanceMethod yX1_clear, Cond.selects RX1 yX1_clear yX1_clear, Cond.initialized RX1, Cond.code yX1_clear cX1_clear 1 none, Cond.fieldLink RX1 9 "IceCoreDater$Falling" "size" "I", Cond.methodLink RX0 158 yX1_add, Cond.instanceMethod yX1_add, Cond.selects RX1 yX1_add yX1_add, Cond.code yX1_add cX1_add 5 none, Cond.fieldLink RX1 15 "IceCoreDater$Falling" "dividends" "[J", Cond.fieldLink RX1 19 "IceCoreDater$Falling" "factors" "[J", Cond.methodLink RX0 162 yX1_nearest, Cond.instanceMethod yX1_nearest, Cond.selects RX1 yX1_nearest yX1_nearest, Cond.code yX1_nearest cX1_nearest 8 (some .int), Cond.methodLink RX1 22 yX1_firstAtMost, Cond.instanceMethod yX1_firstAtMost, Cond.selects RX1 yX1_firstAtMost yX1_firstAtMost, Cond.code yX1_firstAtMost cX1_firstAtMost 7 (some .int), Cond.methodLink RX1 26 yX1_sum, Cond.instanceMethod yX1_sum, Cond.selects RX1 yX1_sum yX1_sum, Cond.code yX1_sum cX1_sum 7 (some .long), Cond.methodLink RX0 150 yX0_fittingBeds]
def wsX4_execute_r10 : List Cond := [Cond.instanceMethod yX0_fittingBeds, Cond.selects RX0 yX0_fittingBeds yX0_fittingBeds, Cond.code yX0_fittingBeds cX0_fittingBeds 4 (some .int), Cond.methodLink RX0 122 Lib.Math.abs.name, Cond.static Lib.Math.abs.name, Cond.code Lib.Math.abs.name Lib.Math.abs.code 1 (some .int), Cond.methodLink RX4 237 yX4_executeUse, Cond.instanceMethod yX4_executeUse, Cond.selects RX4 yX4_executeUse yX4_executeUse, Cond.code yX4_executeUse cX4_executeUse 1 (some .int), Cond.fieldLink RX4 240 "IceCoreDater$Text" "words" "I", Cond.constant RX4 214 (-1000000006), Cond.methodLink RX4 245 yX3_isWord, Cond.methodLink RX4 67 yX0_putFunction, Cond.instanceMethod yX0_putFunction, Cond.selects RX0 yX0_putFunction yX0_putFunction, Cond.code yX0_putFunction cX0_putFunction 3 (some .int)]
def wsX4_execute : List Cond := .code yX4_execute cX4_execute 1 (some .int) :: ((wsX4_execute_r1 ++ (wsX4_execute_r2 ++ (wsX4_execute_r3 ++ (wsX4_execute_r4 ++ (wsX4_execute_r5 ++ (wsX4_execute_r6 ++ (wsX4_execute_r7 ++ (wsX4_execute_r8 ++ (wsX4_execute_r9 ++ wsX4_execute_r10))))))))) ++ wsX40 ++ wsX30 ++ wsX00 ++ wsX10)
def wsX4_failureOf : List Cond := .code yX4_failureOf cX4_failureOf 1 (some .int) :: ([.constant RX4 214 (-1000000006), .methodLink RX4 209 yX4_isError, .static yX4_isError, .initialized RX4, .code yX4_isError cX4_isError 1 (some .boolean), .constant RX4 139 (-1000000001), .constant RX4 185 (-1000000002), .constant RX4 212 (-1000000003), .constant RX4 213 (-1000000004)])
def wsX4_run_r1 : List Cond := [Cond.fieldLink RX4 19 "IceCoreDater" "log" "LIceCoreDater$Log;", Cond.fieldLink RX4 10 "IceCoreDater" "core" "LIceCoreDater$Core;", Cond.fieldLink RX4 37 "IceCoreDater" "acts" "I", Cond.fieldLink RX4 42 "IceCoreDater" "failure" "I", Cond.fieldLink RX4 33 "IceCoreDater" "text" "LIceCoreDater$Text;", Cond.fieldLink RX4 108 "IceCoreDater$Text" "length" "I", Cond.methodLink RX4 45 yX2_prepare, Cond.instanceMethod yX2_prepare, Cond.selects RX2 yX2_prepare yX2_prepare, Cond.initialized RX2, Cond.code yX2_prepare cX2_prepare 3 none, Cond.fieldLink RX2 13 "IceCoreDater$Log" "slots" "[LIceCoreDater$Core;", Cond.fieldLink RX2 17 "IceCoreDater$Log" "oldest" "I", Cond.fieldLink RX2 21 "IceCoreDater$Log" "size" "I", Cond.methodLink RX2 25 yX0_copyFrom, Cond.instanceMethod yX0_copyFrom, Cond.selects RX0 yX0_copyFrom yX0_copyFrom, Cond.initialized RX0, Cond.code yX0_copyFrom cX0_copyFrom 2 none, Cond.fieldLink RX0 9 "IceCoreDater$Core" "size" "I", Cond.fieldLink RX0 16 "IceCoreDater$Core" "bed" "I", Cond.fieldLink RX0 19 "IceCoreDater$Core" "function" "I", Cond.fieldLink RX0 22 "IceCoreDater$Core" "kink" "I", Cond.fieldLink RX0 25 "IceCoreDater$Core" "closeOff" "I"]
def wsX4_run_r2 : List Cond := [Cond.fieldLink RX0 28 "IceCoreDater$Core" "thickness" "[I", Cond.methodLink RX0 50 arraycopyName, Cond.native arraycopyName, Cond.static arraycopyName, Cond.initialized "java/lang/System", Cond.fieldLink RX0 32 "IceCoreDater$Core" "accumulation" "[I", Cond.fieldLink RX0 35 "IceCoreDater$Core" "correction" "[I", Cond.fieldLink RX0 38 "IceCoreDater$Core" "told" "[I", Cond.fieldLink RX0 41 "IceCoreDater$Core" "ashAge" "[I", Cond.fieldLink RX0 44 "IceCoreDater$Core" "ashTolerance" "[I", Cond.fieldLink RX0 47 "IceCoreDater$Core" "count" "[I", Cond.methodLink RX4 105 yX2_keep, Cond.instanceMethod yX2_keep, Cond.selects RX2 yX2_keep yX2_keep, Cond.code yX2_keep cX2_keep 1 none, Cond.methodLink RX4 111 yX3_at, Cond.instanceMethod yX3_at, Cond.selects RX3 yX3_at yX3_at, Cond.initialized RX3, Cond.code yX3_at cX3_at 2 (some .char), Cond.fieldLink RX3 9 "IceCoreDater$Text" "length" "I", Cond.fieldLink RX3 18 "IceCoreDater$Text" "signs" "[C", Cond.methodLink RX4 115 yX3_readCommand, Cond.instanceMethod yX3_readCommand]
def wsX4_run_r3 : List Cond := [Cond.selects RX3 yX3_readCommand yX3_readCommand, Cond.code yX3_readCommand cX3_readCommand 6 none, Cond.fieldLink RX3 15 "IceCoreDater$Text" "words" "I", Cond.methodLink RX3 35 yX3_at, Cond.methodLink RX3 39 yX3_markStart, Cond.instanceMethod yX3_markStart, Cond.selects RX3 yX3_markStart yX3_markStart, Cond.code yX3_markStart cX3_markStart 2 none, Cond.fieldLink RX3 22 "IceCoreDater$Text" "starts" "[I", Cond.methodLink RX3 43 yX3_markEnd, Cond.instanceMethod yX3_markEnd, Cond.selects RX3 yX3_markEnd yX3_markEnd, Cond.code yX3_markEnd cX3_markEnd 2 none, Cond.fieldLink RX3 26 "IceCoreDater$Text" "ends" "[I", Cond.methodLink RX4 119 yX4_execute, Cond.instanceMethod yX4_execute, Cond.selects RX4 yX4_execute yX4_execute, Cond.initialized RX4, Cond.code yX4_execute cX4_execute 1 (some .int), Cond.fieldLink RX4 26 "IceCoreDater" "falling" "LIceCoreDater$Falling;", Cond.methodLink RX4 217 yX3_isCommand, Cond.instanceMethod yX3_isCommand, Cond.selects RX3 yX3_isCommand yX3_isCommand, Cond.code yX3_isCommand cX3_isCommand 4 (some .boolean)]
def wsX4_run_r4 : List Cond := [Cond.methodLink RX3 46 yX3_isWord, Cond.instanceMethod yX3_isWord, Cond.selects RX3 yX3_isWord yX3_isWord, Cond.code yX3_isWord cX3_isWord 4 (some .boolean), Cond.methodLink RX3 54 yX3_hasWord, Cond.instanceMethod yX3_hasWord, Cond.selects RX3 yX3_hasWord yX3_hasWord, Cond.code yX3_hasWord cX3_hasWord 2 (some .boolean), Cond.methodLink RX3 57 yJ0_length_8abf5, Cond.instanceMethod yJ0_length_8abf5, Cond.selects RJ0 yJ0_length_8abf5 yJ0_length_8abf5, Cond.initialized RJ0, Cond.code yJ0_length_8abf5 cJ0_length_8abf5 1 (some .int), Cond.fieldLink RJ0 9 "java/lang/String" "value" "[B", Cond.methodLink RJ0 335 yJ0_coder_7d493, Cond.instanceMethod yJ0_coder_7d493, Cond.selects RJ0 yJ0_coder_7d493 yJ0_coder_7d493, Cond.code yJ0_coder_7d493 cJ0_coder_7d493 1 (some .byte), Cond.fieldLink RJ0 38 "java/lang/String" "COMPACT_STRINGS" "Z", Cond.fieldLink RJ0 15 "java/lang/String" "coder" "B", Cond.methodLink RX3 62 yJ0_charAt_5068e, Cond.instanceMethod yJ0_charAt_5068e, Cond.selects RJ0 yJ0_charAt_5068e yJ0_charAt_5068e, Cond.code yJ0_charAt_5068e cJ0_charAt_5068e 2 (some .char)]
def wsX4_run_r5 : List Cond := [Cond.methodLink RJ0 492 yJ0_isLatin1_aae02, Cond.instanceMethod yJ0_isLatin1_aae02, Cond.selects RJ0 yJ0_isLatin1_aae02 yJ0_isLatin1_aae02, Cond.code yJ0_isLatin1_aae02 cJ0_isLatin1_aae02 1 (some .boolean), Cond.methodLink RJ0 495 yJ1_charAt_3b067, Cond.static yJ1_charAt_3b067, Cond.initialized RJ1, Cond.code yJ1_charAt_3b067 cJ1_charAt_3b067 2 (some .char), Cond.methodLink RJ1 9 yJ0_checkIndex_df160, Cond.static yJ0_checkIndex_df160, Cond.code yJ0_checkIndex_df160 cJ0_checkIndex_df160 2 none, Cond.fieldLink RJ0 1053 "jdk/internal/util/Preconditions" "SIOOBE_FORMATTER" "Ljava/util/function/BiFunction;", Cond.methodLink RJ0 1059 yJ3_checkIndex_8e157, Cond.static yJ3_checkIndex_8e157, Cond.initialized RJ3, Cond.code yJ3_checkIndex_8e157 cJ3_checkIndex_8e157 3 (some .int), Cond.methodLink RJ0 498 yJ2_charAt_3b067, Cond.static yJ2_charAt_3b067, Cond.initialized RJ2, Cond.code yJ2_charAt_3b067 cJ2_charAt_3b067 2 (some .char), Cond.methodLink RJ2 67 yJ2_checkIndex_2214a, Cond.static yJ2_checkIndex_2214a, Cond.code yJ2_checkIndex_2214a cJ2_checkIndex_2214a 2 none, Cond.methodLink RJ2 48 yJ2_length_9d52b]
def wsX4_run_r6 : List Cond := [Cond.static yJ2_length_9d52b, Cond.code yJ2_length_9d52b cJ2_length_9d52b 1 (some .int), Cond.methodLink RJ2 414 yJ0_checkIndex_df160, Cond.methodLink RJ2 71 yJ2_getChar_3b067, Cond.static yJ2_getChar_3b067, Cond.code yJ2_getChar_3b067 cJ2_getChar_3b067 2 (some .char), Cond.fieldLink RJ2 44 "java/lang/StringUTF16" "$assertionsDisabled" "Z", Cond.fieldLink RJ2 59 "java/lang/StringUTF16" "HI_BYTE_SHIFT" "I", Cond.fieldLink RJ2 63 "java/lang/StringUTF16" "LO_BYTE_SHIFT" "I", Cond.methodLink RX3 50 yX3_isNumber, Cond.instanceMethod yX3_isNumber, Cond.selects RX3 yX3_isNumber yX3_isNumber, Cond.code yX3_isNumber cX3_isNumber 3 (some .boolean), Cond.methodLink RX4 221 yX3_number, Cond.instanceMethod yX3_number, Cond.selects RX3 yX3_number yX3_number, Cond.code yX3_number cX3_number 4 (some .int), Cond.methodLink RX4 49 yX0_append, Cond.instanceMethod yX0_append, Cond.selects RX0 yX0_append yX0_append, Cond.code yX0_append cX0_append 3 (some .int), Cond.constant RX0 71 (-1000000002), Cond.constant RX0 76 (-1000000003), Cond.constant RX0 77 (-1000000004)]
def wsX4_run_r7 : List Cond := [Cond.static yX4_isBetween, Cond.code yX4_isBetween cX4_isBetween 3 (some .boolean), Cond.methodLink RX0 72 yX0_bottom, Cond.instanceMethod yX0_bottom, Cond.selects RX0 yX0_bottom yX0_bottom, Cond.code yX0_bottom cX0_bottom 1 (some .int), Cond.methodLink RX0 63 yX0_topOf, Cond.instanceMethod yX0_topOf, Cond.selects RX0 yX0_topOf yX0_topOf, Cond.code yX0_topOf cX0_topOf 4 (some .int), Cond.methodLink RX4 82 yX0_putAsh, Cond.instanceMethod yX0_putAsh, Cond.selects RX0 yX0_putAsh yX0_putAsh, Cond.code yX0_putAsh cX0_putAsh 4 (some .int), Cond.constant RX0 78 (-1000000001), Cond.constant RX0 84 (100000000), Cond.methodLink RX0 56 yX0_has, Cond.instanceMethod yX0_has, Cond.selects RX0 yX0_has yX0_has, Cond.code yX0_has cX0_has 2 (some .boolean), Cond.methodLink RX0 85 yX0_ashBeds, Cond.instanceMethod yX0_ashBeds, Cond.selects RX0 yX0_ashBeds yX0_ashBeds, Cond.code yX0_ashBeds cX0_ashBeds 3 (some .int)]
def wsX4_run_r8 : List Cond := [Cond.methodLink RX0 60 yX0_hasAsh, Cond.instanceMethod yX0_hasAsh, Cond.selects RX0 yX0_hasAsh yX0_hasAsh, Cond.code yX0_hasAsh cX0_hasAsh 2 (some .boolean), Cond.methodLink RX4 89 yX0_putCount, Cond.instanceMethod yX0_putCount, Cond.selects RX0 yX0_putCount yX0_putCount, Cond.code yX0_putCount cX0_putCount 3 (some .int), Cond.constant RX0 88 (1000000), Cond.methodLink RX0 89 yX0_countErrorOf, Cond.instanceMethod yX0_countErrorOf, Cond.selects RX0 yX0_countErrorOf yX0_countErrorOf, Cond.code yX0_countErrorOf cX0_countErrorOf 2 (some .int), Cond.methodLink RX0 119 yX0_yearsOf, Cond.instanceMethod yX0_yearsOf, Cond.selects RX0 yX0_yearsOf yX0_yearsOf, Cond.code yX0_yearsOf cX0_yearsOf 6 (some .int), Cond.methodLink RX0 109 yX0_thinningOf, Cond.instanceMethod yX0_thinningOf, Cond.selects RX0 yX0_thinningOf yX0_thinningOf, Cond.code yX0_thinningOf cX0_thinningOf 15 (some .int), Cond.constantLong RX0 92 (1000), Cond.constantLong RX0 94 (2), Cond.constantLong RX0 96 (10)]
def wsX4_run_r9 : List Cond := [Cond.methodLink RX0 102 Lib.MathLoose.max_long.x, Cond.static Lib.MathLoose.max_long.x, Cond.initialized "java/lang/Math", Cond.code Lib.MathLoose.max_long.x Lib.MathLoose.max_long.code 4 (some .long), Cond.static yX4_quotient, Cond.code yX4_quotient cX4_quotient 4 (some .long), Cond.methodLink RX0 113 yX0_yearsDividend, Cond.instanceMethod yX0_yearsDividend, Cond.selects RX0 yX0_yearsDividend yX0_yearsDividend, Cond.code yX0_yearsDividend cX0_yearsDividend 2 (some .long), Cond.constantLong RX0 107 (10000000), Cond.methodLink RX4 76 yX0_putCorrection, Cond.instanceMethod yX0_putCorrection, Cond.selects RX0 yX0_putCorrection yX0_putCorrection, Cond.code yX0_putCorrection cX0_putCorrection 4 (some .int), Cond.methodLink RX4 64 yX0_putBed, Cond.instanceMethod yX0_putBed, Cond.selects RX0 yX0_putBed yX0_putBed, Cond.code yX0_putBed cX0_putBed 3 (some .int), Cond.constant RX0 83 (200000), Cond.methodLink RX4 70 yX0_putKink, Cond.instanceMethod yX0_putKink, Cond.selects RX0 yX0_putKink yX0_putKink, Cond.code yX0_putKink cX0_putKink 3 (some .int)]
def wsX4_run_r10 : List Cond := [Cond.methodLink RX4 79 yX0_putCloseOff, Cond.instanceMethod yX0_putCloseOff, Cond.selects RX0 yX0_putCloseOff yX0_putCloseOff, Cond.code yX0_putCloseOff cX0_putCloseOff 3 (some .int), Cond.methodLink RX4 92 yX0_fitCorrections, Cond.instanceMethod yX0_fitCorrections, Cond.selects RX0 yX0_fitCorrections yX0_fitCorrections, Cond.code yX0_fitCorrections cX0_fitCorrections 5 (some .int), Cond.methodLink RX0 142 yX0_canBeTuned, Cond.instanceMethod yX0_canBeTuned, Cond.selects RX0 yX0_canBeTuned yX0_canBeTuned, Cond.code yX0_canBeTuned cX0_canBeTuned 3 (some .boolean), Cond.methodLink RX0 146 yX0_fitSegment, Cond.instanceMethod yX0_fitSegment, Cond.selects RX0 yX0_fitSegment yX0_fitSegment, Cond.code yX0_fitSegment cX0_fitSegment 7 none, Cond.methodLink RX0 153 yX1_clear, Cond.instanceMethod yX1_clear, Cond.selects RX1 yX1_clear yX1_clear, Cond.initialized RX1, Cond.code yX1_clear cX1_clear 1 none, Cond.fieldLink RX1 9 "IceCoreDater$Falling" "size" "I", Cond.methodLink RX0 158 yX1_add, Cond.instanceMethod yX1_add]
def wsX4_run_r11 : List Cond := [Cond.selects RX1 yX1_add yX1_add, Cond.code yX1_add cX1_add 5 none, Cond.fieldLink RX1 15 "IceCoreDater$Falling" "dividends" "[J", Cond.fieldLink RX1 19 "IceCoreDater$Falling" "factors" "[J", Cond.methodLink RX0 162 yX1_nearest, Cond.instanceMethod yX1_nearest, Cond.selects RX1 yX1_nearest yX1_nearest, Cond.code yX1_nearest cX1_nearest 8 (some .int), Cond.methodLink RX1 22 yX1_firstAtMost, Cond.instanceMethod yX1_firstAtMost, Cond.selects RX1 yX1_firstAtMost yX1_firstAtMost, Cond.code yX1_firstAtMost cX1_firstAtMost 7 (some .int), Cond.methodLink RX1 26 yX1_sum, Cond.instanceMethod yX1_sum, Cond.selects RX1 yX1_sum yX1_sum, Cond.code yX1_sum cX1_sum 7 (some .long), Cond.methodLink RX0 150 yX0_fittingBeds, Cond.instanceMethod yX0_fittingBeds, Cond.selects RX0 yX0_fittingBeds yX0_fittingBeds, Cond.code yX0_fittingBeds cX0_fittingBeds 4 (some .int), Cond.methodLink RX0 122 Lib.Math.abs.name, Cond.static Lib.Math.abs.name, Cond.code Lib.Math.abs.name Lib.Math.abs.code 1 (some .int), Cond.methodLink RX4 237 yX4_executeUse]
def wsX4_run_r12 : List Cond := [Cond.instanceMethod yX4_executeUse, Cond.selects RX4 yX4_executeUse yX4_executeUse, Cond.code yX4_executeUse cX4_executeUse 1 (some .int), Cond.fieldLink RX4 240 "IceCoreDater$Text" "words" "I", Cond.constant RX4 214 (-1000000006), Cond.methodLink RX4 245 yX3_isWord, Cond.methodLink RX4 67 yX0_putFunction, Cond.instanceMethod yX0_putFunction, Cond.selects RX0 yX0_putFunction yX0_putFunction, Cond.code yX0_putFunction cX0_putFunction 3 (some .int), Cond.methodLink RX4 122 yX4_failureOf, Cond.static yX4_failureOf, Cond.code yX4_failureOf cX4_failureOf 1 (some .int), Cond.methodLink RX4 209 yX4_isError, Cond.static yX4_isError, Cond.code yX4_isError cX4_isError 1 (some .boolean), Cond.constant RX4 139 (-1000000001), Cond.constant RX4 185 (-1000000002), Cond.constant RX4 212 (-1000000003), Cond.constant RX4 213 (-1000000004), Cond.methodLink RX4 102 yX3_empty, Cond.instanceMethod yX3_empty, Cond.selects RX3 yX3_empty yX3_empty, Cond.code yX3_empty cX3_empty 2 (some .int)]
def wsX4_run : List Cond := .code yX4_run cX4_run 4 (some .int) :: ((wsX4_run_r1 ++ (wsX4_run_r2 ++ (wsX4_run_r3 ++ (wsX4_run_r4 ++ (wsX4_run_r5 ++ (wsX4_run_r6 ++ (wsX4_run_r7 ++ (wsX4_run_r8 ++ (wsX4_run_r9 ++ (wsX4_run_r10 ++ (wsX4_run_r11 ++ wsX4_run_r12))))))))))) ++ wsX40 ++ wsX30 ++ wsX20 ++ wsX00 ++ wsX10)
def wsX4_failure : List Cond := .code yX4_failure cX4_failure 1 (some .int) :: ([.fieldLink RX4 42 "IceCoreDater" "failure" "I"] ++ wsX40)
def wsX4_layers : List Cond := .code yX4_layers cX4_layers 1 (some .int) :: ([.fieldLink RX4 10 "IceCoreDater" "core" "LIceCoreDater$Core;", .fieldLink RX4 125 "IceCoreDater$Core" "size" "I"] ++ wsX40 ++ wsX00)
def wsX4_depth : List Cond := .code yX4_depth cX4_depth 1 (some .int) :: ([.fieldLink RX4 10 "IceCoreDater" "core" "LIceCoreDater$Core;", .methodLink RX4 128 yX0_bottom, .instanceMethod yX0_bottom, .selects RX0 yX0_bottom yX0_bottom, .initialized RX0, .code yX0_bottom cX0_bottom 1 (some .int), .fieldLink RX0 9 "IceCoreDater$Core" "size" "I", .methodLink RX0 63 yX0_topOf, .instanceMethod yX0_topOf, .selects RX0 yX0_topOf yX0_topOf, .code yX0_topOf cX0_topOf 4 (some .int), .fieldLink RX0 28 "IceCoreDater$Core" "thickness" "[I"] ++ wsX40 ++ wsX00)
def wsX4_thickness : List Cond := .code yX4_thickness cX4_thickness 2 (some .int) :: ([.fieldLink RX4 10 "IceCoreDater" "core" "LIceCoreDater$Core;", .fieldLink RX4 135 "IceCoreDater$Core" "thickness" "[I", .constant RX4 139 (-1000000001), .methodLink RX4 131 yX0_has, .instanceMethod yX0_has, .selects RX0 yX0_has yX0_has, .initialized RX0, .code yX0_has cX0_has 2 (some .boolean), .fieldLink RX0 9 "IceCoreDater$Core" "size" "I"] ++ wsX40 ++ wsX00)
def wsX4_accumulation : List Cond := .code yX4_accumulation cX4_accumulation 2 (some .int) :: ([.fieldLink RX4 10 "IceCoreDater" "core" "LIceCoreDater$Core;", .fieldLink RX4 140 "IceCoreDater$Core" "accumulation" "[I", .constant RX4 139 (-1000000001), .methodLink RX4 131 yX0_has, .instanceMethod yX0_has, .selects RX0 yX0_has yX0_has, .initialized RX0, .code yX0_has cX0_has 2 (some .boolean), .fieldLink RX0 9 "IceCoreDater$Core" "size" "I"] ++ wsX40 ++ wsX00)
def wsX4_correction : List Cond := .code yX4_correction cX4_correction 2 (some .int) :: ([.fieldLink RX4 10 "IceCoreDater" "core" "LIceCoreDater$Core;", .fieldLink RX4 143 "IceCoreDater$Core" "correction" "[I", .constant RX4 139 (-1000000001), .methodLink RX4 131 yX0_has, .instanceMethod yX0_has, .selects RX0 yX0_has yX0_has, .initialized RX0, .code yX0_has cX0_has 2 (some .boolean), .fieldLink RX0 9 "IceCoreDater$Core" "size" "I"] ++ wsX40 ++ wsX00)
def wsX4_thinning_r1 : List Cond := [Cond.fieldLink RX4 10 "IceCoreDater" "core" "LIceCoreDater$Core;", Cond.fieldLink RX4 146 "IceCoreDater$Core" "function" "I", Cond.fieldLink RX4 149 "IceCoreDater$Core" "kink" "I", Cond.constant RX4 139 (-1000000001), Cond.methodLink RX4 131 yX0_has, Cond.instanceMethod yX0_has, Cond.selects RX0 yX0_has yX0_has, Cond.initialized RX0, Cond.code yX0_has cX0_has 2 (some .boolean), Cond.fieldLink RX0 9 "IceCoreDater$Core" "size" "I", Cond.methodLink RX4 152 yX0_thinningOf, Cond.instanceMethod yX0_thinningOf, Cond.selects RX0 yX0_thinningOf yX0_thinningOf, Cond.code yX0_thinningOf cX0_thinningOf 15 (some .int), Cond.fieldLink RX0 38 "IceCoreDater$Core" "told" "[I", Cond.fieldLink RX0 16 "IceCoreDater$Core" "bed" "I", Cond.fieldLink RX0 28 "IceCoreDater$Core" "thickness" "[I", Cond.constantLong RX0 92 (1000), Cond.constantLong RX0 94 (2), Cond.constantLong RX0 96 (10), Cond.methodLink RX0 102 Lib.MathLoose.max_long.x, Cond.static Lib.MathLoose.max_long.x, Cond.initialized "java/lang/Math", Cond.code Lib.MathLoose.max_long.x Lib.MathLoose.max_long.code 4 (some .long)]
def wsX4_thinning_r2 : List Cond := [Cond.methodLink RX0 63 yX0_topOf, Cond.instanceMethod yX0_topOf, Cond.selects RX0 yX0_topOf yX0_topOf, Cond.code yX0_topOf cX0_topOf 4 (some .int), Cond.static yX4_quotient, Cond.initialized RX4, Cond.code yX4_quotient cX4_quotient 4 (some .long)]
def wsX4_thinning : List Cond := .code yX4_thinning cX4_thinning 2 (some .int) :: ((wsX4_thinning_r1 ++ wsX4_thinning_r2) ++ wsX40 ++ wsX00)
def wsX4_years_r1 : List Cond := [Cond.fieldLink RX4 10 "IceCoreDater" "core" "LIceCoreDater$Core;", Cond.fieldLink RX4 146 "IceCoreDater$Core" "function" "I", Cond.fieldLink RX4 149 "IceCoreDater$Core" "kink" "I", Cond.constant RX4 139 (-1000000001), Cond.methodLink RX4 131 yX0_has, Cond.instanceMethod yX0_has, Cond.selects RX0 yX0_has yX0_has, Cond.initialized RX0, Cond.code yX0_has cX0_has 2 (some .boolean), Cond.fieldLink RX0 9 "IceCoreDater$Core" "size" "I", Cond.methodLink RX4 155 yX0_yearsOf, Cond.instanceMethod yX0_yearsOf, Cond.selects RX0 yX0_yearsOf yX0_yearsOf, Cond.code yX0_yearsOf cX0_yearsOf 6 (some .int), Cond.fieldLink RX0 32 "IceCoreDater$Core" "accumulation" "[I", Cond.fieldLink RX0 35 "IceCoreDater$Core" "correction" "[I", Cond.methodLink RX0 109 yX0_thinningOf, Cond.instanceMethod yX0_thinningOf, Cond.selects RX0 yX0_thinningOf yX0_thinningOf, Cond.code yX0_thinningOf cX0_thinningOf 15 (some .int), Cond.fieldLink RX0 38 "IceCoreDater$Core" "told" "[I", Cond.fieldLink RX0 16 "IceCoreDater$Core" "bed" "I", Cond.fieldLink RX0 28 "IceCoreDater$Core" "thickness" "[I", Cond.constantLong RX0 92 (1000)]
def wsX4_years_r2 : List Cond := [Cond.constantLong RX0 94 (2), Cond.constantLong RX0 96 (10), Cond.methodLink RX0 102 Lib.MathLoose.max_long.x, Cond.static Lib.MathLoose.max_long.x, Cond.initialized "java/lang/Math", Cond.code Lib.MathLoose.max_long.x Lib.MathLoose.max_long.code 4 (some .long), Cond.methodLink RX0 63 yX0_topOf, Cond.instanceMethod yX0_topOf, Cond.selects RX0 yX0_topOf yX0_topOf, Cond.code yX0_topOf cX0_topOf 4 (some .int), Cond.static yX4_quotient, Cond.initialized RX4, Cond.code yX4_quotient cX4_quotient 4 (some .long), Cond.methodLink RX0 113 yX0_yearsDividend, Cond.instanceMethod yX0_yearsDividend, Cond.selects RX0 yX0_yearsDividend yX0_yearsDividend, Cond.code yX0_yearsDividend cX0_yearsDividend 2 (some .long), Cond.constantLong RX0 107 (10000000)]
def wsX4_years : List Cond := .code yX4_years cX4_years 2 (some .int) :: ((wsX4_years_r1 ++ wsX4_years_r2) ++ wsX40 ++ wsX00)
def wsX4_delay : List Cond := .code yX4_delay cX4_delay 2 (some .int) :: ([.fieldLink RX4 10 "IceCoreDater" "core" "LIceCoreDater$Core;", .constant RX4 139 (-1000000001), .methodLink RX4 131 yX0_has, .instanceMethod yX0_has, .selects RX0 yX0_has yX0_has, .initialized RX0, .code yX0_has cX0_has 2 (some .boolean), .fieldLink RX0 9 "IceCoreDater$Core" "size" "I", .methodLink RX4 158 yX0_delayOf, .instanceMethod yX0_delayOf, .selects RX0 yX0_delayOf yX0_delayOf, .code yX0_delayOf cX0_delayOf 2 (some .int), .constantLong RX0 117 (10000), .fieldLink RX0 25 "IceCoreDater$Core" "closeOff" "I", .fieldLink RX0 32 "IceCoreDater$Core" "accumulation" "[I", .fieldLink RX0 35 "IceCoreDater$Core" "correction" "[I", .static yX4_quotient, .initialized RX4, .code yX4_quotient cX4_quotient 4 (some .long)] ++ wsX40 ++ wsX00)
def wsX4_residual_r1 : List Cond := [Cond.fieldLink RX4 10 "IceCoreDater" "core" "LIceCoreDater$Core;", Cond.constant RX4 139 (-1000000001), Cond.constant RX4 41 (-1000000005), Cond.methodLink RX4 131 yX0_has, Cond.instanceMethod yX0_has, Cond.selects RX0 yX0_has yX0_has, Cond.initialized RX0, Cond.code yX0_has cX0_has 2 (some .boolean), Cond.fieldLink RX0 9 "IceCoreDater$Core" "size" "I", Cond.methodLink RX4 161 yX0_hasAsh, Cond.instanceMethod yX0_hasAsh, Cond.selects RX0 yX0_hasAsh yX0_hasAsh, Cond.code yX0_hasAsh cX0_hasAsh 2 (some .boolean), Cond.fieldLink RX0 41 "IceCoreDater$Core" "ashAge" "[I", Cond.methodLink RX0 56 yX0_has, Cond.methodLink RX4 164 yX0_residualOf, Cond.instanceMethod yX0_residualOf, Cond.selects RX0 yX0_residualOf yX0_residualOf, Cond.code yX0_residualOf cX0_residualOf 4 (some .int), Cond.fieldLink RX0 19 "IceCoreDater$Core" "function" "I", Cond.fieldLink RX0 22 "IceCoreDater$Core" "kink" "I", Cond.methodLink RX0 119 yX0_yearsOf, Cond.instanceMethod yX0_yearsOf, Cond.selects RX0 yX0_yearsOf yX0_yearsOf]
def wsX4_residual_r2 : List Cond := [Cond.code yX0_yearsOf cX0_yearsOf 6 (some .int), Cond.fieldLink RX0 32 "IceCoreDater$Core" "accumulation" "[I", Cond.fieldLink RX0 35 "IceCoreDater$Core" "correction" "[I", Cond.methodLink RX0 109 yX0_thinningOf, Cond.instanceMethod yX0_thinningOf, Cond.selects RX0 yX0_thinningOf yX0_thinningOf, Cond.code yX0_thinningOf cX0_thinningOf 15 (some .int), Cond.fieldLink RX0 38 "IceCoreDater$Core" "told" "[I", Cond.fieldLink RX0 16 "IceCoreDater$Core" "bed" "I", Cond.fieldLink RX0 28 "IceCoreDater$Core" "thickness" "[I", Cond.constantLong RX0 92 (1000), Cond.constantLong RX0 94 (2), Cond.constantLong RX0 96 (10), Cond.methodLink RX0 102 Lib.MathLoose.max_long.x, Cond.static Lib.MathLoose.max_long.x, Cond.initialized "java/lang/Math", Cond.code Lib.MathLoose.max_long.x Lib.MathLoose.max_long.code 4 (some .long), Cond.methodLink RX0 63 yX0_topOf, Cond.instanceMethod yX0_topOf, Cond.selects RX0 yX0_topOf yX0_topOf, Cond.code yX0_topOf cX0_topOf 4 (some .int), Cond.static yX4_quotient, Cond.initialized RX4, Cond.code yX4_quotient cX4_quotient 4 (some .long)]
def wsX4_residual_r3 : List Cond := [Cond.methodLink RX0 113 yX0_yearsDividend, Cond.instanceMethod yX0_yearsDividend, Cond.selects RX0 yX0_yearsDividend yX0_yearsDividend, Cond.code yX0_yearsDividend cX0_yearsDividend 2 (some .long), Cond.constantLong RX0 107 (10000000)]
def wsX4_residual : List Cond := .code yX4_residual cX4_residual 2 (some .int) :: ((wsX4_residual_r1 ++ (wsX4_residual_r2 ++ wsX4_residual_r3)) ++ wsX40 ++ wsX00)
def wsX4_countError_r1 : List Cond := [Cond.fieldLink RX4 10 "IceCoreDater" "core" "LIceCoreDater$Core;", Cond.constant RX4 139 (-1000000001), Cond.constant RX4 41 (-1000000005), Cond.methodLink RX4 131 yX0_has, Cond.instanceMethod yX0_has, Cond.selects RX0 yX0_has yX0_has, Cond.initialized RX0, Cond.code yX0_has cX0_has 2 (some .boolean), Cond.fieldLink RX0 9 "IceCoreDater$Core" "size" "I", Cond.methodLink RX4 167 yX0_hasCount, Cond.instanceMethod yX0_hasCount, Cond.selects RX0 yX0_hasCount yX0_hasCount, Cond.code yX0_hasCount cX0_hasCount 2 (some .boolean), Cond.fieldLink RX0 47 "IceCoreDater$Core" "count" "[I", Cond.methodLink RX0 56 yX0_has, Cond.methodLink RX4 170 yX0_countErrorOf, Cond.instanceMethod yX0_countErrorOf, Cond.selects RX0 yX0_countErrorOf yX0_countErrorOf, Cond.code yX0_countErrorOf cX0_countErrorOf 2 (some .int), Cond.fieldLink RX0 19 "IceCoreDater$Core" "function" "I", Cond.fieldLink RX0 22 "IceCoreDater$Core" "kink" "I", Cond.methodLink RX0 119 yX0_yearsOf, Cond.instanceMethod yX0_yearsOf, Cond.selects RX0 yX0_yearsOf yX0_yearsOf]
def wsX4_countError_r2 : List Cond := [Cond.code yX0_yearsOf cX0_yearsOf 6 (some .int), Cond.fieldLink RX0 32 "IceCoreDater$Core" "accumulation" "[I", Cond.fieldLink RX0 35 "IceCoreDater$Core" "correction" "[I", Cond.methodLink RX0 109 yX0_thinningOf, Cond.instanceMethod yX0_thinningOf, Cond.selects RX0 yX0_thinningOf yX0_thinningOf, Cond.code yX0_thinningOf cX0_thinningOf 15 (some .int), Cond.fieldLink RX0 38 "IceCoreDater$Core" "told" "[I", Cond.fieldLink RX0 16 "IceCoreDater$Core" "bed" "I", Cond.fieldLink RX0 28 "IceCoreDater$Core" "thickness" "[I", Cond.constantLong RX0 92 (1000), Cond.constantLong RX0 94 (2), Cond.constantLong RX0 96 (10), Cond.methodLink RX0 102 Lib.MathLoose.max_long.x, Cond.static Lib.MathLoose.max_long.x, Cond.initialized "java/lang/Math", Cond.code Lib.MathLoose.max_long.x Lib.MathLoose.max_long.code 4 (some .long), Cond.methodLink RX0 63 yX0_topOf, Cond.instanceMethod yX0_topOf, Cond.selects RX0 yX0_topOf yX0_topOf, Cond.code yX0_topOf cX0_topOf 4 (some .int), Cond.static yX4_quotient, Cond.initialized RX4, Cond.code yX4_quotient cX4_quotient 4 (some .long)]
def wsX4_countError_r3 : List Cond := [Cond.methodLink RX0 113 yX0_yearsDividend, Cond.instanceMethod yX0_yearsDividend, Cond.selects RX0 yX0_yearsDividend yX0_yearsDividend, Cond.code yX0_yearsDividend cX0_yearsDividend 2 (some .long), Cond.constantLong RX0 107 (10000000)]
def wsX4_countError : List Cond := .code yX4_countError cX4_countError 2 (some .int) :: ((wsX4_countError_r1 ++ (wsX4_countError_r2 ++ wsX4_countError_r3)) ++ wsX40 ++ wsX00)
def wsX4_fitting_r1 : List Cond := [Cond.fieldLink RX4 10 "IceCoreDater" "core" "LIceCoreDater$Core;", Cond.methodLink RX4 173 yX0_fittingBeds, Cond.instanceMethod yX0_fittingBeds, Cond.selects RX0 yX0_fittingBeds yX0_fittingBeds, Cond.initialized RX0, Cond.code yX0_fittingBeds cX0_fittingBeds 4 (some .int), Cond.fieldLink RX0 9 "IceCoreDater$Core" "size" "I", Cond.fieldLink RX0 19 "IceCoreDater$Core" "function" "I", Cond.fieldLink RX0 22 "IceCoreDater$Core" "kink" "I", Cond.fieldLink RX0 41 "IceCoreDater$Core" "ashAge" "[I", Cond.methodLink RX0 122 Lib.Math.abs.name, Cond.static Lib.Math.abs.name, Cond.initialized "java/lang/Math", Cond.code Lib.Math.abs.name Lib.Math.abs.code 1 (some .int), Cond.fieldLink RX0 44 "IceCoreDater$Core" "ashTolerance" "[I", Cond.methodLink RX0 119 yX0_yearsOf, Cond.instanceMethod yX0_yearsOf, Cond.selects RX0 yX0_yearsOf yX0_yearsOf, Cond.code yX0_yearsOf cX0_yearsOf 6 (some .int), Cond.fieldLink RX0 32 "IceCoreDater$Core" "accumulation" "[I", Cond.fieldLink RX0 35 "IceCoreDater$Core" "correction" "[I", Cond.methodLink RX0 109 yX0_thinningOf, Cond.instanceMethod yX0_thinningOf, Cond.selects RX0 yX0_thinningOf yX0_thinningOf]
def wsX4_fitting_r2 : List Cond := [Cond.code yX0_thinningOf cX0_thinningOf 15 (some .int), Cond.fieldLink RX0 38 "IceCoreDater$Core" "told" "[I", Cond.fieldLink RX0 16 "IceCoreDater$Core" "bed" "I", Cond.fieldLink RX0 28 "IceCoreDater$Core" "thickness" "[I", Cond.constantLong RX0 92 (1000), Cond.constantLong RX0 94 (2), Cond.constantLong RX0 96 (10), Cond.methodLink RX0 102 Lib.MathLoose.max_long.x, Cond.static Lib.MathLoose.max_long.x, Cond.code Lib.MathLoose.max_long.x Lib.MathLoose.max_long.code 4 (some .long), Cond.methodLink RX0 63 yX0_topOf, Cond.instanceMethod yX0_topOf, Cond.selects RX0 yX0_topOf yX0_topOf, Cond.code yX0_topOf cX0_topOf 4 (some .int), Cond.static yX4_quotient, Cond.initialized RX4, Cond.code yX4_quotient cX4_quotient 4 (some .long), Cond.methodLink RX0 113 yX0_yearsDividend, Cond.instanceMethod yX0_yearsDividend, Cond.selects RX0 yX0_yearsDividend yX0_yearsDividend, Cond.code yX0_yearsDividend cX0_yearsDividend 2 (some .long), Cond.constantLong RX0 107 (10000000), Cond.methodLink RX0 60 yX0_hasAsh, Cond.instanceMethod yX0_hasAsh]
def wsX4_fitting_r3 : List Cond := [Cond.selects RX0 yX0_hasAsh yX0_hasAsh, Cond.code yX0_hasAsh cX0_hasAsh 2 (some .boolean), Cond.methodLink RX0 56 yX0_has, Cond.instanceMethod yX0_has, Cond.selects RX0 yX0_has yX0_has, Cond.code yX0_has cX0_has 2 (some .boolean)]
def wsX4_fitting : List Cond := .code yX4_fitting cX4_fitting 1 (some .int) :: ((wsX4_fitting_r1 ++ (wsX4_fitting_r2 ++ wsX4_fitting_r3)) ++ wsX40 ++ wsX00)
def wsX4_depthFault : List Cond := .code yX4_depthFault cX4_depthFault 2 (some .int) :: ([.fieldLink RX4 10 "IceCoreDater" "core" "LIceCoreDater$Core;", .constant RX4 185 (-1000000002), .fieldLink RX4 125 "IceCoreDater$Core" "size" "I", .constant RX4 212 (-1000000003), .methodLink RX4 128 yX0_bottom, .instanceMethod yX0_bottom, .selects RX0 yX0_bottom yX0_bottom, .initialized RX0, .code yX0_bottom cX0_bottom 1 (some .int), .fieldLink RX0 9 "IceCoreDater$Core" "size" "I", .methodLink RX0 63 yX0_topOf, .instanceMethod yX0_topOf, .selects RX0 yX0_topOf yX0_topOf, .code yX0_topOf cX0_topOf 4 (some .int), .fieldLink RX0 28 "IceCoreDater$Core" "thickness" "[I"] ++ wsX40 ++ wsX00)
def wsX4_age_r1 : List Cond := [Cond.fieldLink RX4 10 "IceCoreDater" "core" "LIceCoreDater$Core;", Cond.methodLink RX4 176 yX4_depthFault, Cond.instanceMethod yX4_depthFault, Cond.selects RX4 yX4_depthFault yX4_depthFault, Cond.initialized RX4, Cond.code yX4_depthFault cX4_depthFault 2 (some .int), Cond.constant RX4 185 (-1000000002), Cond.fieldLink RX4 125 "IceCoreDater$Core" "size" "I", Cond.constant RX4 212 (-1000000003), Cond.methodLink RX4 128 yX0_bottom, Cond.instanceMethod yX0_bottom, Cond.selects RX0 yX0_bottom yX0_bottom, Cond.initialized RX0, Cond.code yX0_bottom cX0_bottom 1 (some .int), Cond.fieldLink RX0 9 "IceCoreDater$Core" "size" "I", Cond.methodLink RX0 63 yX0_topOf, Cond.instanceMethod yX0_topOf, Cond.selects RX0 yX0_topOf yX0_topOf, Cond.code yX0_topOf cX0_topOf 4 (some .int), Cond.fieldLink RX0 28 "IceCoreDater$Core" "thickness" "[I", Cond.methodLink RX4 179 yX0_ageAt, Cond.instanceMethod yX0_ageAt, Cond.selects RX0 yX0_ageAt yX0_ageAt, Cond.code yX0_ageAt cX0_ageAt 7 (some .int)]
def wsX4_age_r2 : List Cond := [Cond.fieldLink RX0 19 "IceCoreDater$Core" "function" "I", Cond.fieldLink RX0 22 "IceCoreDater$Core" "kink" "I", Cond.methodLink RX0 119 yX0_yearsOf, Cond.instanceMethod yX0_yearsOf, Cond.selects RX0 yX0_yearsOf yX0_yearsOf, Cond.code yX0_yearsOf cX0_yearsOf 6 (some .int), Cond.fieldLink RX0 32 "IceCoreDater$Core" "accumulation" "[I", Cond.fieldLink RX0 35 "IceCoreDater$Core" "correction" "[I", Cond.methodLink RX0 109 yX0_thinningOf, Cond.instanceMethod yX0_thinningOf, Cond.selects RX0 yX0_thinningOf yX0_thinningOf, Cond.code yX0_thinningOf cX0_thinningOf 15 (some .int), Cond.fieldLink RX0 38 "IceCoreDater$Core" "told" "[I", Cond.fieldLink RX0 16 "IceCoreDater$Core" "bed" "I", Cond.constantLong RX0 92 (1000), Cond.constantLong RX0 94 (2), Cond.constantLong RX0 96 (10), Cond.methodLink RX0 102 Lib.MathLoose.max_long.x, Cond.static Lib.MathLoose.max_long.x, Cond.initialized "java/lang/Math", Cond.code Lib.MathLoose.max_long.x Lib.MathLoose.max_long.code 4 (some .long), Cond.static yX4_quotient, Cond.code yX4_quotient cX4_quotient 4 (some .long), Cond.methodLink RX0 113 yX0_yearsDividend]
def wsX4_age_r3 : List Cond := [Cond.instanceMethod yX0_yearsDividend, Cond.selects RX0 yX0_yearsDividend yX0_yearsDividend, Cond.code yX0_yearsDividend cX0_yearsDividend 2 (some .long), Cond.constantLong RX0 107 (10000000)]
def wsX4_age : List Cond := .code yX4_age cX4_age 3 (some .int) :: ((wsX4_age_r1 ++ (wsX4_age_r2 ++ wsX4_age_r3)) ++ wsX40 ++ wsX00)
def wsX4_gasAge_r1 : List Cond := [Cond.fieldLink RX4 10 "IceCoreDater" "core" "LIceCoreDater$Core;", Cond.methodLink RX4 176 yX4_depthFault, Cond.instanceMethod yX4_depthFault, Cond.selects RX4 yX4_depthFault yX4_depthFault, Cond.initialized RX4, Cond.code yX4_depthFault cX4_depthFault 2 (some .int), Cond.constant RX4 185 (-1000000002), Cond.fieldLink RX4 125 "IceCoreDater$Core" "size" "I", Cond.constant RX4 212 (-1000000003), Cond.methodLink RX4 128 yX0_bottom, Cond.instanceMethod yX0_bottom, Cond.selects RX0 yX0_bottom yX0_bottom, Cond.initialized RX0, Cond.code yX0_bottom cX0_bottom 1 (some .int), Cond.fieldLink RX0 9 "IceCoreDater$Core" "size" "I", Cond.methodLink RX0 63 yX0_topOf, Cond.instanceMethod yX0_topOf, Cond.selects RX0 yX0_topOf yX0_topOf, Cond.code yX0_topOf cX0_topOf 4 (some .int), Cond.fieldLink RX0 28 "IceCoreDater$Core" "thickness" "[I", Cond.methodLink RX4 182 yX0_gasAgeAt, Cond.instanceMethod yX0_gasAgeAt, Cond.selects RX0 yX0_gasAgeAt yX0_gasAgeAt, Cond.code yX0_gasAgeAt cX0_gasAgeAt 4 (some .int)]
def wsX4_gasAge_r2 : List Cond := [Cond.methodLink RX0 131 Lib.Math.max.name, Cond.static Lib.Math.max.name, Cond.initialized "java/lang/Math", Cond.code Lib.Math.max.name Lib.Math.max.code 2 (some .int), Cond.methodLink RX0 125 yX0_ageAt, Cond.instanceMethod yX0_ageAt, Cond.selects RX0 yX0_ageAt yX0_ageAt, Cond.code yX0_ageAt cX0_ageAt 7 (some .int), Cond.fieldLink RX0 19 "IceCoreDater$Core" "function" "I", Cond.fieldLink RX0 22 "IceCoreDater$Core" "kink" "I", Cond.methodLink RX0 119 yX0_yearsOf, Cond.instanceMethod yX0_yearsOf, Cond.selects RX0 yX0_yearsOf yX0_yearsOf, Cond.code yX0_yearsOf cX0_yearsOf 6 (some .int), Cond.fieldLink RX0 32 "IceCoreDater$Core" "accumulation" "[I", Cond.fieldLink RX0 35 "IceCoreDater$Core" "correction" "[I", Cond.methodLink RX0 109 yX0_thinningOf, Cond.instanceMethod yX0_thinningOf, Cond.selects RX0 yX0_thinningOf yX0_thinningOf, Cond.code yX0_thinningOf cX0_thinningOf 15 (some .int), Cond.fieldLink RX0 38 "IceCoreDater$Core" "told" "[I", Cond.fieldLink RX0 16 "IceCoreDater$Core" "bed" "I", Cond.constantLong RX0 92 (1000), Cond.constantLong RX0 94 (2)]
def wsX4_gasAge_r3 : List Cond := [Cond.constantLong RX0 96 (10), Cond.methodLink RX0 102 Lib.MathLoose.max_long.x, Cond.static Lib.MathLoose.max_long.x, Cond.code Lib.MathLoose.max_long.x Lib.MathLoose.max_long.code 4 (some .long), Cond.static yX4_quotient, Cond.code yX4_quotient cX4_quotient 4 (some .long), Cond.methodLink RX0 113 yX0_yearsDividend, Cond.instanceMethod yX0_yearsDividend, Cond.selects RX0 yX0_yearsDividend yX0_yearsDividend, Cond.code yX0_yearsDividend cX0_yearsDividend 2 (some .long), Cond.constantLong RX0 107 (10000000), Cond.methodLink RX0 128 yX0_delayOf, Cond.instanceMethod yX0_delayOf, Cond.selects RX0 yX0_delayOf yX0_delayOf, Cond.code yX0_delayOf cX0_delayOf 2 (some .int), Cond.constantLong RX0 117 (10000), Cond.fieldLink RX0 25 "IceCoreDater$Core" "closeOff" "I"]
def wsX4_gasAge : List Cond := .code yX4_gasAge cX4_gasAge 3 (some .int) :: ((wsX4_gasAge_r1 ++ (wsX4_gasAge_r2 ++ wsX4_gasAge_r3)) ++ wsX40 ++ wsX00)
def wsX4_depthOf_r1 : List Cond := [Cond.constant RX4 185 (-1000000002), Cond.fieldLink RX4 10 "IceCoreDater" "core" "LIceCoreDater$Core;", Cond.methodLink RX4 186 yX0_leastDepthOf, Cond.instanceMethod yX0_leastDepthOf, Cond.selects RX0 yX0_leastDepthOf yX0_leastDepthOf, Cond.initialized RX0, Cond.code yX0_leastDepthOf cX0_leastDepthOf 7 (some .int), Cond.fieldLink RX0 9 "IceCoreDater$Core" "size" "I", Cond.fieldLink RX0 19 "IceCoreDater$Core" "function" "I", Cond.fieldLink RX0 22 "IceCoreDater$Core" "kink" "I", Cond.fieldLink RX0 28 "IceCoreDater$Core" "thickness" "[I", Cond.constant RX0 138 (-1000000005), Cond.methodLink RX0 119 yX0_yearsOf, Cond.instanceMethod yX0_yearsOf, Cond.selects RX0 yX0_yearsOf yX0_yearsOf, Cond.code yX0_yearsOf cX0_yearsOf 6 (some .int), Cond.fieldLink RX0 32 "IceCoreDater$Core" "accumulation" "[I", Cond.fieldLink RX0 35 "IceCoreDater$Core" "correction" "[I", Cond.methodLink RX0 109 yX0_thinningOf, Cond.instanceMethod yX0_thinningOf, Cond.selects RX0 yX0_thinningOf yX0_thinningOf, Cond.code yX0_thinningOf cX0_thinningOf 15 (some .int), Cond.fieldLink RX0 38 "IceCoreDater$Core" "told" "[I", Cond.fieldLink RX0 16 "IceCoreDater$Core" "bed" "I"]
def wsX4_depthOf_r2 : List Cond := [Cond.constantLong RX0 92 (1000), Cond.constantLong RX0 94 (2), Cond.constantLong RX0 96 (10), Cond.methodLink RX0 102 Lib.MathLoose.max_long.x, Cond.static Lib.MathLoose.max_long.x, Cond.initialized "java/lang/Math", Cond.code Lib.MathLoose.max_long.x Lib.MathLoose.max_long.code 4 (some .long), Cond.methodLink RX0 63 yX0_topOf, Cond.instanceMethod yX0_topOf, Cond.selects RX0 yX0_topOf yX0_topOf, Cond.code yX0_topOf cX0_topOf 4 (some .int), Cond.static yX4_quotient, Cond.initialized RX4, Cond.code yX4_quotient cX4_quotient 4 (some .long), Cond.methodLink RX0 113 yX0_yearsDividend, Cond.instanceMethod yX0_yearsDividend, Cond.selects RX0 yX0_yearsDividend yX0_yearsDividend, Cond.code yX0_yearsDividend cX0_yearsDividend 2 (some .long), Cond.constantLong RX0 107 (10000000), Cond.methodLink RX0 134 yX0_stepsFor, Cond.static yX0_stepsFor, Cond.code yX0_stepsFor cX0_stepsFor 4 (some .int)]
def wsX4_depthOf : List Cond := .code yX4_depthOf cX4_depthOf 2 (some .int) :: ((wsX4_depthOf_r1 ++ wsX4_depthOf_r2) ++ wsX40 ++ wsX00)
def wsX4_gasDepthOf_r1 : List Cond := [Cond.constant RX4 185 (-1000000002), Cond.fieldLink RX4 10 "IceCoreDater" "core" "LIceCoreDater$Core;", Cond.methodLink RX4 189 yX0_leastGasDepthOf, Cond.instanceMethod yX0_leastGasDepthOf, Cond.selects RX0 yX0_leastGasDepthOf yX0_leastGasDepthOf, Cond.initialized RX0, Cond.code yX0_leastGasDepthOf cX0_leastGasDepthOf 9 (some .int), Cond.fieldLink RX0 9 "IceCoreDater$Core" "size" "I", Cond.constant RX0 138 (-1000000005), Cond.fieldLink RX0 19 "IceCoreDater$Core" "function" "I", Cond.fieldLink RX0 22 "IceCoreDater$Core" "kink" "I", Cond.fieldLink RX0 28 "IceCoreDater$Core" "thickness" "[I", Cond.methodLink RX0 131 Lib.Math.max.name, Cond.static Lib.Math.max.name, Cond.initialized "java/lang/Math", Cond.code Lib.Math.max.name Lib.Math.max.code 2 (some .int), Cond.methodLink RX0 119 yX0_yearsOf, Cond.instanceMethod yX0_yearsOf, Cond.selects RX0 yX0_yearsOf yX0_yearsOf, Cond.code yX0_yearsOf cX0_yearsOf 6 (some .int), Cond.fieldLink RX0 32 "IceCoreDater$Core" "accumulation" "[I", Cond.fieldLink RX0 35 "IceCoreDater$Core" "correction" "[I", Cond.methodLink RX0 109 yX0_thinningOf, Cond.instanceMethod yX0_thinningOf]
def wsX4_gasDepthOf_r2 : List Cond := [Cond.selects RX0 yX0_thinningOf yX0_thinningOf, Cond.code yX0_thinningOf cX0_thinningOf 15 (some .int), Cond.fieldLink RX0 38 "IceCoreDater$Core" "told" "[I", Cond.fieldLink RX0 16 "IceCoreDater$Core" "bed" "I", Cond.constantLong RX0 92 (1000), Cond.constantLong RX0 94 (2), Cond.constantLong RX0 96 (10), Cond.methodLink RX0 102 Lib.MathLoose.max_long.x, Cond.static Lib.MathLoose.max_long.x, Cond.code Lib.MathLoose.max_long.x Lib.MathLoose.max_long.code 4 (some .long), Cond.methodLink RX0 63 yX0_topOf, Cond.instanceMethod yX0_topOf, Cond.selects RX0 yX0_topOf yX0_topOf, Cond.code yX0_topOf cX0_topOf 4 (some .int), Cond.static yX4_quotient, Cond.initialized RX4, Cond.code yX4_quotient cX4_quotient 4 (some .long), Cond.methodLink RX0 113 yX0_yearsDividend, Cond.instanceMethod yX0_yearsDividend, Cond.selects RX0 yX0_yearsDividend yX0_yearsDividend, Cond.code yX0_yearsDividend cX0_yearsDividend 2 (some .long), Cond.constantLong RX0 107 (10000000), Cond.methodLink RX0 128 yX0_delayOf, Cond.instanceMethod yX0_delayOf]
def wsX4_gasDepthOf_r3 : List Cond := [Cond.selects RX0 yX0_delayOf yX0_delayOf, Cond.code yX0_delayOf cX0_delayOf 2 (some .int), Cond.constantLong RX0 117 (10000), Cond.fieldLink RX0 25 "IceCoreDater$Core" "closeOff" "I", Cond.methodLink RX0 134 yX0_stepsFor, Cond.static yX0_stepsFor, Cond.code yX0_stepsFor cX0_stepsFor 4 (some .int)]
def wsX4_gasDepthOf : List Cond := .code yX4_gasDepthOf cX4_gasDepthOf 2 (some .int) :: ((wsX4_gasDepthOf_r1 ++ (wsX4_gasDepthOf_r2 ++ wsX4_gasDepthOf_r3)) ++ wsX40 ++ wsX00)
def wsX4_lead_r1 : List Cond := [Cond.constant RX4 185 (-1000000002), Cond.fieldLink RX4 10 "IceCoreDater" "core" "LIceCoreDater$Core;", Cond.methodLink RX4 176 yX4_depthFault, Cond.instanceMethod yX4_depthFault, Cond.selects RX4 yX4_depthFault yX4_depthFault, Cond.initialized RX4, Cond.code yX4_depthFault cX4_depthFault 2 (some .int), Cond.fieldLink RX4 125 "IceCoreDater$Core" "size" "I", Cond.constant RX4 212 (-1000000003), Cond.methodLink RX4 128 yX0_bottom, Cond.instanceMethod yX0_bottom, Cond.selects RX0 yX0_bottom yX0_bottom, Cond.initialized RX0, Cond.code yX0_bottom cX0_bottom 1 (some .int), Cond.fieldLink RX0 9 "IceCoreDater$Core" "size" "I", Cond.methodLink RX0 63 yX0_topOf, Cond.instanceMethod yX0_topOf, Cond.selects RX0 yX0_topOf yX0_topOf, Cond.code yX0_topOf cX0_topOf 4 (some .int), Cond.fieldLink RX0 28 "IceCoreDater$Core" "thickness" "[I", Cond.methodLink RX4 179 yX0_ageAt, Cond.instanceMethod yX0_ageAt, Cond.selects RX0 yX0_ageAt yX0_ageAt, Cond.code yX0_ageAt cX0_ageAt 7 (some .int)]
def wsX4_lead_r2 : List Cond := [Cond.fieldLink RX0 19 "IceCoreDater$Core" "function" "I", Cond.fieldLink RX0 22 "IceCoreDater$Core" "kink" "I", Cond.methodLink RX0 119 yX0_yearsOf, Cond.instanceMethod yX0_yearsOf, Cond.selects RX0 yX0_yearsOf yX0_yearsOf, Cond.code yX0_yearsOf cX0_yearsOf 6 (some .int), Cond.fieldLink RX0 32 "IceCoreDater$Core" "accumulation" "[I", Cond.fieldLink RX0 35 "IceCoreDater$Core" "correction" "[I", Cond.methodLink RX0 109 yX0_thinningOf, Cond.instanceMethod yX0_thinningOf, Cond.selects RX0 yX0_thinningOf yX0_thinningOf, Cond.code yX0_thinningOf cX0_thinningOf 15 (some .int), Cond.fieldLink RX0 38 "IceCoreDater$Core" "told" "[I", Cond.fieldLink RX0 16 "IceCoreDater$Core" "bed" "I", Cond.constantLong RX0 92 (1000), Cond.constantLong RX0 94 (2), Cond.constantLong RX0 96 (10), Cond.methodLink RX0 102 Lib.MathLoose.max_long.x, Cond.static Lib.MathLoose.max_long.x, Cond.initialized "java/lang/Math", Cond.code Lib.MathLoose.max_long.x Lib.MathLoose.max_long.code 4 (some .long), Cond.static yX4_quotient, Cond.code yX4_quotient cX4_quotient 4 (some .long), Cond.methodLink RX0 113 yX0_yearsDividend]
def wsX4_lead_r3 : List Cond := [Cond.instanceMethod yX0_yearsDividend, Cond.selects RX0 yX0_yearsDividend yX0_yearsDividend, Cond.code yX0_yearsDividend cX0_yearsDividend 2 (some .long), Cond.constantLong RX0 107 (10000000), Cond.methodLink RX4 182 yX0_gasAgeAt, Cond.instanceMethod yX0_gasAgeAt, Cond.selects RX0 yX0_gasAgeAt yX0_gasAgeAt, Cond.code yX0_gasAgeAt cX0_gasAgeAt 4 (some .int), Cond.methodLink RX0 131 Lib.Math.max.name, Cond.static Lib.Math.max.name, Cond.code Lib.Math.max.name Lib.Math.max.code 2 (some .int), Cond.methodLink RX0 125 yX0_ageAt, Cond.methodLink RX0 128 yX0_delayOf, Cond.instanceMethod yX0_delayOf, Cond.selects RX0 yX0_delayOf yX0_delayOf, Cond.code yX0_delayOf cX0_delayOf 2 (some .int), Cond.constantLong RX0 117 (10000), Cond.fieldLink RX0 25 "IceCoreDater$Core" "closeOff" "I"]
def wsX4_lead : List Cond := .code yX4_lead cX4_lead 4 (some .int) :: ((wsX4_lead_r1 ++ (wsX4_lead_r2 ++ wsX4_lead_r3)) ++ wsX40 ++ wsX00)
def wsX4_inversions_r1 : List Cond := [Cond.fieldLink RX4 10 "IceCoreDater" "core" "LIceCoreDater$Core;", Cond.methodLink RX4 192 yX0_invertedBorders, Cond.instanceMethod yX0_invertedBorders, Cond.selects RX0 yX0_invertedBorders yX0_invertedBorders, Cond.initialized RX0, Cond.code yX0_invertedBorders cX0_invertedBorders 4 (some .int), Cond.fieldLink RX0 9 "IceCoreDater$Core" "size" "I", Cond.fieldLink RX0 28 "IceCoreDater$Core" "thickness" "[I", Cond.methodLink RX0 139 yX0_gasAgeAt, Cond.instanceMethod yX0_gasAgeAt, Cond.selects RX0 yX0_gasAgeAt yX0_gasAgeAt, Cond.code yX0_gasAgeAt cX0_gasAgeAt 4 (some .int), Cond.methodLink RX0 131 Lib.Math.max.name, Cond.static Lib.Math.max.name, Cond.initialized "java/lang/Math", Cond.code Lib.Math.max.name Lib.Math.max.code 2 (some .int), Cond.methodLink RX0 125 yX0_ageAt, Cond.instanceMethod yX0_ageAt, Cond.selects RX0 yX0_ageAt yX0_ageAt, Cond.code yX0_ageAt cX0_ageAt 7 (some .int), Cond.fieldLink RX0 19 "IceCoreDater$Core" "function" "I", Cond.fieldLink RX0 22 "IceCoreDater$Core" "kink" "I", Cond.methodLink RX0 119 yX0_yearsOf, Cond.instanceMethod yX0_yearsOf]
def wsX4_inversions_r2 : List Cond := [Cond.selects RX0 yX0_yearsOf yX0_yearsOf, Cond.code yX0_yearsOf cX0_yearsOf 6 (some .int), Cond.fieldLink RX0 32 "IceCoreDater$Core" "accumulation" "[I", Cond.fieldLink RX0 35 "IceCoreDater$Core" "correction" "[I", Cond.methodLink RX0 109 yX0_thinningOf, Cond.instanceMethod yX0_thinningOf, Cond.selects RX0 yX0_thinningOf yX0_thinningOf, Cond.code yX0_thinningOf cX0_thinningOf 15 (some .int), Cond.fieldLink RX0 38 "IceCoreDater$Core" "told" "[I", Cond.fieldLink RX0 16 "IceCoreDater$Core" "bed" "I", Cond.constantLong RX0 92 (1000), Cond.constantLong RX0 94 (2), Cond.constantLong RX0 96 (10), Cond.methodLink RX0 102 Lib.MathLoose.max_long.x, Cond.static Lib.MathLoose.max_long.x, Cond.code Lib.MathLoose.max_long.x Lib.MathLoose.max_long.code 4 (some .long), Cond.methodLink RX0 63 yX0_topOf, Cond.instanceMethod yX0_topOf, Cond.selects RX0 yX0_topOf yX0_topOf, Cond.code yX0_topOf cX0_topOf 4 (some .int), Cond.static yX4_quotient, Cond.initialized RX4, Cond.code yX4_quotient cX4_quotient 4 (some .long), Cond.methodLink RX0 113 yX0_yearsDividend]
def wsX4_inversions_r3 : List Cond := [Cond.instanceMethod yX0_yearsDividend, Cond.selects RX0 yX0_yearsDividend yX0_yearsDividend, Cond.code yX0_yearsDividend cX0_yearsDividend 2 (some .long), Cond.constantLong RX0 107 (10000000), Cond.methodLink RX0 128 yX0_delayOf, Cond.instanceMethod yX0_delayOf, Cond.selects RX0 yX0_delayOf yX0_delayOf, Cond.code yX0_delayOf cX0_delayOf 2 (some .int), Cond.constantLong RX0 117 (10000), Cond.fieldLink RX0 25 "IceCoreDater$Core" "closeOff" "I"]
def wsX4_inversions : List Cond := .code yX4_inversions cX4_inversions 1 (some .int) :: ((wsX4_inversions_r1 ++ (wsX4_inversions_r2 ++ wsX4_inversions_r3)) ++ wsX40 ++ wsX00)
def wsX4_acts : List Cond := .code yX4_acts cX4_acts 1 (some .int) :: ([.fieldLink RX4 37 "IceCoreDater" "acts" "I"] ++ wsX40)
def wsX4_seal_r1 : List Cond := [Cond.fieldLink RX4 10 "IceCoreDater" "core" "LIceCoreDater$Core;", Cond.methodLink RX4 195 yX0_sealOfAges, Cond.instanceMethod yX0_sealOfAges, Cond.selects RX0 yX0_sealOfAges yX0_sealOfAges, Cond.initialized RX0, Cond.code yX0_sealOfAges cX0_sealOfAges 4 (some .int), Cond.fieldLink RX0 9 "IceCoreDater$Core" "size" "I", Cond.fieldLink RX0 19 "IceCoreDater$Core" "function" "I", Cond.fieldLink RX0 22 "IceCoreDater$Core" "kink" "I", Cond.methodLink RX0 119 yX0_yearsOf, Cond.instanceMethod yX0_yearsOf, Cond.selects RX0 yX0_yearsOf yX0_yearsOf, Cond.code yX0_yearsOf cX0_yearsOf 6 (some .int), Cond.fieldLink RX0 32 "IceCoreDater$Core" "accumulation" "[I", Cond.fieldLink RX0 35 "IceCoreDater$Core" "correction" "[I", Cond.methodLink RX0 109 yX0_thinningOf, Cond.instanceMethod yX0_thinningOf, Cond.selects RX0 yX0_thinningOf yX0_thinningOf, Cond.code yX0_thinningOf cX0_thinningOf 15 (some .int), Cond.fieldLink RX0 38 "IceCoreDater$Core" "told" "[I", Cond.fieldLink RX0 16 "IceCoreDater$Core" "bed" "I", Cond.fieldLink RX0 28 "IceCoreDater$Core" "thickness" "[I", Cond.constantLong RX0 92 (1000), Cond.constantLong RX0 94 (2)]
def wsX4_seal_r2 : List Cond := [Cond.constantLong RX0 96 (10), Cond.methodLink RX0 102 Lib.MathLoose.max_long.x, Cond.static Lib.MathLoose.max_long.x, Cond.initialized "java/lang/Math", Cond.code Lib.MathLoose.max_long.x Lib.MathLoose.max_long.code 4 (some .long), Cond.methodLink RX0 63 yX0_topOf, Cond.instanceMethod yX0_topOf, Cond.selects RX0 yX0_topOf yX0_topOf, Cond.code yX0_topOf cX0_topOf 4 (some .int), Cond.static yX4_quotient, Cond.initialized RX4, Cond.code yX4_quotient cX4_quotient 4 (some .long), Cond.methodLink RX0 113 yX0_yearsDividend, Cond.instanceMethod yX0_yearsDividend, Cond.selects RX0 yX0_yearsDividend yX0_yearsDividend, Cond.code yX0_yearsDividend cX0_yearsDividend 2 (some .long), Cond.constantLong RX0 107 (10000000)]
def wsX4_seal : List Cond := .code yX4_seal cX4_seal 1 (some .int) :: ((wsX4_seal_r1 ++ wsX4_seal_r2) ++ wsX40 ++ wsX00)
def wsX4_bestFunction_r1 : List Cond := [Cond.fieldLink RX4 10 "IceCoreDater" "core" "LIceCoreDater$Core;", Cond.constant RX4 41 (-1000000005), Cond.fieldLink RX4 149 "IceCoreDater$Core" "kink" "I", Cond.methodLink RX4 198 yX0_ashBeds, Cond.instanceMethod yX0_ashBeds, Cond.selects RX0 yX0_ashBeds yX0_ashBeds, Cond.initialized RX0, Cond.code yX0_ashBeds cX0_ashBeds 3 (some .int), Cond.fieldLink RX0 9 "IceCoreDater$Core" "size" "I", Cond.methodLink RX0 60 yX0_hasAsh, Cond.instanceMethod yX0_hasAsh, Cond.selects RX0 yX0_hasAsh yX0_hasAsh, Cond.code yX0_hasAsh cX0_hasAsh 2 (some .boolean), Cond.fieldLink RX0 41 "IceCoreDater$Core" "ashAge" "[I", Cond.methodLink RX0 56 yX0_has, Cond.instanceMethod yX0_has, Cond.selects RX0 yX0_has yX0_has, Cond.code yX0_has cX0_has 2 (some .boolean), Cond.methodLink RX4 201 yX0_misfit, Cond.instanceMethod yX0_misfit, Cond.selects RX0 yX0_misfit yX0_misfit, Cond.code yX0_misfit cX0_misfit 7 (some .long), Cond.methodLink RX0 122 Lib.Math.abs.name, Cond.static Lib.Math.abs.name]
def wsX4_bestFunction_r2 : List Cond := [Cond.initialized "java/lang/Math", Cond.code Lib.Math.abs.name Lib.Math.abs.code 1 (some .int), Cond.methodLink RX0 119 yX0_yearsOf, Cond.instanceMethod yX0_yearsOf, Cond.selects RX0 yX0_yearsOf yX0_yearsOf, Cond.code yX0_yearsOf cX0_yearsOf 6 (some .int), Cond.fieldLink RX0 32 "IceCoreDater$Core" "accumulation" "[I", Cond.fieldLink RX0 35 "IceCoreDater$Core" "correction" "[I", Cond.methodLink RX0 109 yX0_thinningOf, Cond.instanceMethod yX0_thinningOf, Cond.selects RX0 yX0_thinningOf yX0_thinningOf, Cond.code yX0_thinningOf cX0_thinningOf 15 (some .int), Cond.fieldLink RX0 38 "IceCoreDater$Core" "told" "[I", Cond.fieldLink RX0 16 "IceCoreDater$Core" "bed" "I", Cond.fieldLink RX0 28 "IceCoreDater$Core" "thickness" "[I", Cond.constantLong RX0 92 (1000), Cond.constantLong RX0 94 (2), Cond.constantLong RX0 96 (10), Cond.methodLink RX0 102 Lib.MathLoose.max_long.x, Cond.static Lib.MathLoose.max_long.x, Cond.code Lib.MathLoose.max_long.x Lib.MathLoose.max_long.code 4 (some .long), Cond.methodLink RX0 63 yX0_topOf, Cond.instanceMethod yX0_topOf, Cond.selects RX0 yX0_topOf yX0_topOf]
def wsX4_bestFunction_r3 : List Cond := [Cond.code yX0_topOf cX0_topOf 4 (some .int), Cond.static yX4_quotient, Cond.initialized RX4, Cond.code yX4_quotient cX4_quotient 4 (some .long), Cond.methodLink RX0 113 yX0_yearsDividend, Cond.instanceMethod yX0_yearsDividend, Cond.selects RX0 yX0_yearsDividend yX0_yearsDividend, Cond.code yX0_yearsDividend cX0_yearsDividend 2 (some .long), Cond.constantLong RX0 107 (10000000)]
def wsX4_bestFunction : List Cond := .code yX4_bestFunction cX4_bestFunction 7 (some .int) :: ((wsX4_bestFunction_r1 ++ (wsX4_bestFunction_r2 ++ wsX4_bestFunction_r3)) ++ wsX40 ++ wsX00)
def wsX4_bestKink_r1 : List Cond := [Cond.fieldLink RX4 10 "IceCoreDater" "core" "LIceCoreDater$Core;", Cond.constant RX4 41 (-1000000005), Cond.methodLink RX4 198 yX0_ashBeds, Cond.instanceMethod yX0_ashBeds, Cond.selects RX0 yX0_ashBeds yX0_ashBeds, Cond.initialized RX0, Cond.code yX0_ashBeds cX0_ashBeds 3 (some .int), Cond.fieldLink RX0 9 "IceCoreDater$Core" "size" "I", Cond.methodLink RX0 60 yX0_hasAsh, Cond.instanceMethod yX0_hasAsh, Cond.selects RX0 yX0_hasAsh yX0_hasAsh, Cond.code yX0_hasAsh cX0_hasAsh 2 (some .boolean), Cond.fieldLink RX0 41 "IceCoreDater$Core" "ashAge" "[I", Cond.methodLink RX0 56 yX0_has, Cond.instanceMethod yX0_has, Cond.selects RX0 yX0_has yX0_has, Cond.code yX0_has cX0_has 2 (some .boolean), Cond.methodLink RX4 201 yX0_misfit, Cond.instanceMethod yX0_misfit, Cond.selects RX0 yX0_misfit yX0_misfit, Cond.code yX0_misfit cX0_misfit 7 (some .long), Cond.methodLink RX0 122 Lib.Math.abs.name, Cond.static Lib.Math.abs.name, Cond.initialized "java/lang/Math"]
def wsX4_bestKink_r2 : List Cond := [Cond.code Lib.Math.abs.name Lib.Math.abs.code 1 (some .int), Cond.methodLink RX0 119 yX0_yearsOf, Cond.instanceMethod yX0_yearsOf, Cond.selects RX0 yX0_yearsOf yX0_yearsOf, Cond.code yX0_yearsOf cX0_yearsOf 6 (some .int), Cond.fieldLink RX0 32 "IceCoreDater$Core" "accumulation" "[I", Cond.fieldLink RX0 35 "IceCoreDater$Core" "correction" "[I", Cond.methodLink RX0 109 yX0_thinningOf, Cond.instanceMethod yX0_thinningOf, Cond.selects RX0 yX0_thinningOf yX0_thinningOf, Cond.code yX0_thinningOf cX0_thinningOf 15 (some .int), Cond.fieldLink RX0 38 "IceCoreDater$Core" "told" "[I", Cond.fieldLink RX0 16 "IceCoreDater$Core" "bed" "I", Cond.fieldLink RX0 28 "IceCoreDater$Core" "thickness" "[I", Cond.constantLong RX0 92 (1000), Cond.constantLong RX0 94 (2), Cond.constantLong RX0 96 (10), Cond.methodLink RX0 102 Lib.MathLoose.max_long.x, Cond.static Lib.MathLoose.max_long.x, Cond.code Lib.MathLoose.max_long.x Lib.MathLoose.max_long.code 4 (some .long), Cond.methodLink RX0 63 yX0_topOf, Cond.instanceMethod yX0_topOf, Cond.selects RX0 yX0_topOf yX0_topOf, Cond.code yX0_topOf cX0_topOf 4 (some .int)]
def wsX4_bestKink_r3 : List Cond := [Cond.static yX4_quotient, Cond.initialized RX4, Cond.code yX4_quotient cX4_quotient 4 (some .long), Cond.methodLink RX0 113 yX0_yearsDividend, Cond.instanceMethod yX0_yearsDividend, Cond.selects RX0 yX0_yearsDividend yX0_yearsDividend, Cond.code yX0_yearsDividend cX0_yearsDividend 2 (some .long), Cond.constantLong RX0 107 (10000000)]
def wsX4_bestKink : List Cond := .code yX4_bestKink cX4_bestKink 7 (some .int) :: ((wsX4_bestKink_r1 ++ (wsX4_bestKink_r2 ++ wsX4_bestKink_r3)) ++ wsX40 ++ wsX00)
def wsX4_neededAccumulation_r1 : List Cond := [Cond.fieldLink RX4 10 "IceCoreDater" "core" "LIceCoreDater$Core;", Cond.constant RX4 139 (-1000000001), Cond.constant RX4 41 (-1000000005), Cond.fieldLink RX4 26 "IceCoreDater" "falling" "LIceCoreDater$Falling;", Cond.methodLink RX4 131 yX0_has, Cond.instanceMethod yX0_has, Cond.selects RX0 yX0_has yX0_has, Cond.initialized RX0, Cond.code yX0_has cX0_has 2 (some .boolean), Cond.fieldLink RX0 9 "IceCoreDater$Core" "size" "I", Cond.methodLink RX4 167 yX0_hasCount, Cond.instanceMethod yX0_hasCount, Cond.selects RX0 yX0_hasCount yX0_hasCount, Cond.code yX0_hasCount cX0_hasCount 2 (some .boolean), Cond.fieldLink RX0 47 "IceCoreDater$Core" "count" "[I", Cond.methodLink RX0 56 yX0_has, Cond.methodLink RX4 205 yX0_fitAccumulation, Cond.instanceMethod yX0_fitAccumulation, Cond.selects RX0 yX0_fitAccumulation yX0_fitAccumulation, Cond.code yX0_fitAccumulation cX0_fitAccumulation 3 (some .int), Cond.fieldLink RX0 35 "IceCoreDater$Core" "correction" "[I", Cond.fieldLink RX0 19 "IceCoreDater$Core" "function" "I", Cond.fieldLink RX0 22 "IceCoreDater$Core" "kink" "I", Cond.methodLink RX0 153 yX1_clear]
def wsX4_neededAccumulation_r2 : List Cond := [Cond.instanceMethod yX1_clear, Cond.selects RX1 yX1_clear yX1_clear, Cond.initialized RX1, Cond.code yX1_clear cX1_clear 1 none, Cond.fieldLink RX1 9 "IceCoreDater$Falling" "size" "I", Cond.methodLink RX0 113 yX0_yearsDividend, Cond.instanceMethod yX0_yearsDividend, Cond.selects RX0 yX0_yearsDividend yX0_yearsDividend, Cond.code yX0_yearsDividend cX0_yearsDividend 2 (some .long), Cond.constantLong RX0 107 (10000000), Cond.fieldLink RX0 28 "IceCoreDater$Core" "thickness" "[I", Cond.methodLink RX0 109 yX0_thinningOf, Cond.instanceMethod yX0_thinningOf, Cond.selects RX0 yX0_thinningOf yX0_thinningOf, Cond.code yX0_thinningOf cX0_thinningOf 15 (some .int), Cond.fieldLink RX0 38 "IceCoreDater$Core" "told" "[I", Cond.fieldLink RX0 16 "IceCoreDater$Core" "bed" "I", Cond.constantLong RX0 92 (1000), Cond.constantLong RX0 94 (2), Cond.constantLong RX0 96 (10), Cond.methodLink RX0 102 Lib.MathLoose.max_long.x, Cond.static Lib.MathLoose.max_long.x, Cond.initialized "java/lang/Math", Cond.code Lib.MathLoose.max_long.x Lib.MathLoose.max_long.code 4 (some .long)]
def wsX4_neededAccumulation_r3 : List Cond := [Cond.methodLink RX0 63 yX0_topOf, Cond.instanceMethod yX0_topOf, Cond.selects RX0 yX0_topOf yX0_topOf, Cond.code yX0_topOf cX0_topOf 4 (some .int), Cond.static yX4_quotient, Cond.initialized RX4, Cond.code yX4_quotient cX4_quotient 4 (some .long), Cond.methodLink RX0 158 yX1_add, Cond.instanceMethod yX1_add, Cond.selects RX1 yX1_add yX1_add, Cond.code yX1_add cX1_add 5 none, Cond.fieldLink RX1 15 "IceCoreDater$Falling" "dividends" "[J", Cond.fieldLink RX1 19 "IceCoreDater$Falling" "factors" "[J", Cond.methodLink RX0 162 yX1_nearest, Cond.instanceMethod yX1_nearest, Cond.selects RX1 yX1_nearest yX1_nearest, Cond.code yX1_nearest cX1_nearest 8 (some .int), Cond.methodLink RX1 22 yX1_firstAtMost, Cond.instanceMethod yX1_firstAtMost, Cond.selects RX1 yX1_firstAtMost yX1_firstAtMost, Cond.code yX1_firstAtMost cX1_firstAtMost 7 (some .int), Cond.methodLink RX1 26 yX1_sum, Cond.instanceMethod yX1_sum, Cond.selects RX1 yX1_sum yX1_sum]
def wsX4_neededAccumulation_r4 : List Cond := [Cond.code yX1_sum cX1_sum 7 (some .long)]
def wsX4_neededAccumulation : List Cond := .code yX4_neededAccumulation cX4_neededAccumulation 2 (some .int) :: ((wsX4_neededAccumulation_r1 ++ (wsX4_neededAccumulation_r2 ++ (wsX4_neededAccumulation_r3 ++ wsX4_neededAccumulation_r4))) ++ wsX40 ++ wsX00 ++ wsX10)
def wsX5_init : List Cond := .code yX5_init cX5_init 1 none :: ([.methodLink RX5 1 objectInit, .instanceMethod objectInit, .code objectInit ⟨#[0xb1]⟩ 1 none, .arrayClass .int, .fieldLink RX5 7 "IceCoreDaterModel" "now" "[I", .fieldLink RX5 13 "IceCoreDaterModel" "past" "[I", .fieldLink RX5 16 "IceCoreDaterModel" "thinnings" "[I", .fieldLink RX5 19 "IceCoreDaterModel" "text" "[I", .constant RX5 22 (-1000000005), .fieldLink RX5 23 "IceCoreDaterModel" "failed" "I", .arrayClass .long, .fieldLink RX5 27 "IceCoreDaterModel" "spelled" "[J", .fieldLink RX5 31 "IceCoreDaterModel" "numbers" "[I", .constant RX5 34 (100000)] ++ wsX50)
def wsX5_in : List Cond := .code yX5_in cX5_in 3 (some .boolean) :: ([])
def wsX5_isLayer : List Cond := .code yX5_isLayer cX5_isLayer 2 (some .boolean) :: ([.fieldLink RX5 7 "IceCoreDaterModel" "now" "[I", .methodLink RX5 35 yX5_in, .static yX5_in, .initialized RX5, .code yX5_in cX5_in 3 (some .boolean)] ++ wsX50)
def wsX5_of : List Cond := .code yX5_of cX5_of 3 (some .int) :: ([.fieldLink RX5 7 "IceCoreDaterModel" "now" "[I"] ++ wsX50)
def wsX5_size : List Cond := .code yX5_size cX5_size 2 (some .long) :: ([])
def wsX5_record : List Cond := .code yX5_record cX5_record 2 none :: ([.fieldLink RX5 39 "IceCoreDaterModel" "running" "Z", .fieldLink RX5 43 "IceCoreDaterModel" "acts" "I", .fieldLink RX5 46 "IceCoreDaterModel" "recorded" "I", .fieldLink RX5 13 "IceCoreDaterModel" "past" "[I", .fieldLink RX5 7 "IceCoreDaterModel" "now" "[I"] ++ wsX50)
def wsX5_undo : List Cond := .code yX5_undo cX5_undo 2 (some .int) :: ([.fieldLink RX5 46 "IceCoreDaterModel" "recorded" "I", .constant RX5 22 (-1000000005), .fieldLink RX5 7 "IceCoreDaterModel" "now" "[I", .fieldLink RX5 13 "IceCoreDaterModel" "past" "[I"] ++ wsX50)
def wsX5_top : List Cond := .code yX5_top cX5_top 4 (some .int) :: ([.methodLink RX5 49 yX5_of, .instanceMethod yX5_of, .selects RX5 yX5_of yX5_of, .initialized RX5, .code yX5_of cX5_of 3 (some .int), .fieldLink RX5 7 "IceCoreDaterModel" "now" "[I"] ++ wsX50)
def wsX5_thinningOf : List Cond := .code yX5_thinningOf cX5_thinningOf 10 (some .int) :: ([.fieldLink RX5 7 "IceCoreDaterModel" "now" "[I", .constantLong RX5 57 (1000), .constantLong RX5 59 (2), .constantLong RX5 61 (10), .methodLink RX5 49 yX5_of, .instanceMethod yX5_of, .selects RX5 yX5_of yX5_of, .initialized RX5, .code yX5_of cX5_of 3 (some .int), .methodLink RX5 53 yX5_top, .instanceMethod yX5_top, .selects RX5 yX5_top yX5_top, .code yX5_top cX5_top 4 (some .int)] ++ wsX50)
def wsX5_yearsBy : List Cond := .code yX5_yearsBy cX5_yearsBy 8 (some .int) :: ([.constantLong RX5 63 (10000000)])
def wsX5_yearsOf : List Cond := .code yX5_yearsOf cX5_yearsOf 2 (some .int) :: ([.methodLink RX5 49 yX5_of, .instanceMethod yX5_of, .selects RX5 yX5_of yX5_of, .initialized RX5, .code yX5_of cX5_of 3 (some .int), .fieldLink RX5 7 "IceCoreDaterModel" "now" "[I", .methodLink RX5 65 yX5_thinningOf, .instanceMethod yX5_thinningOf, .selects RX5 yX5_thinningOf yX5_thinningOf, .code yX5_thinningOf cX5_thinningOf 10 (some .int), .constantLong RX5 57 (1000), .constantLong RX5 59 (2), .constantLong RX5 61 (10), .methodLink RX5 53 yX5_top, .instanceMethod yX5_top, .selects RX5 yX5_top yX5_top, .code yX5_top cX5_top 4 (some .int), .methodLink RX5 68 yX5_yearsBy, .static yX5_yearsBy, .code yX5_yearsBy cX5_yearsBy 8 (some .int), .constantLong RX5 63 (10000000)] ++ wsX50)
def wsX5_ageAtTop_r1 : List Cond := [Cond.methodLink RX5 72 yX5_yearsOf, Cond.instanceMethod yX5_yearsOf, Cond.selects RX5 yX5_yearsOf yX5_yearsOf, Cond.initialized RX5, Cond.code yX5_yearsOf cX5_yearsOf 2 (some .int), Cond.methodLink RX5 49 yX5_of, Cond.instanceMethod yX5_of, Cond.selects RX5 yX5_of yX5_of, Cond.code yX5_of cX5_of 3 (some .int), Cond.fieldLink RX5 7 "IceCoreDaterModel" "now" "[I", Cond.methodLink RX5 65 yX5_thinningOf, Cond.instanceMethod yX5_thinningOf, Cond.selects RX5 yX5_thinningOf yX5_thinningOf, Cond.code yX5_thinningOf cX5_thinningOf 10 (some .int), Cond.constantLong RX5 57 (1000), Cond.constantLong RX5 59 (2), Cond.constantLong RX5 61 (10), Cond.methodLink RX5 53 yX5_top, Cond.instanceMethod yX5_top, Cond.selects RX5 yX5_top yX5_top, Cond.code yX5_top cX5_top 4 (some .int), Cond.methodLink RX5 68 yX5_yearsBy, Cond.static yX5_yearsBy, Cond.code yX5_yearsBy cX5_yearsBy 8 (some .int)]
def wsX5_ageAtTop_r2 : List Cond := [Cond.constantLong RX5 63 (10000000)]
def wsX5_ageAtTop : List Cond := .code yX5_ageAtTop cX5_ageAtTop 4 (some .int) :: ((wsX5_ageAtTop_r1 ++ wsX5_ageAtTop_r2) ++ wsX50)
def wsX5_delayOf : List Cond := .code yX5_delayOf cX5_delayOf 2 (some .int) :: ([.constantLong RX5 75 (10000), .fieldLink RX5 7 "IceCoreDaterModel" "now" "[I", .methodLink RX5 49 yX5_of, .instanceMethod yX5_of, .selects RX5 yX5_of yX5_of, .initialized RX5, .code yX5_of cX5_of 3 (some .int)] ++ wsX50)
def wsX5_layerAt : List Cond := .code yX5_layerAt cX5_layerAt 3 (some .int) :: ([.methodLink RX5 53 yX5_top, .instanceMethod yX5_top, .selects RX5 yX5_top yX5_top, .initialized RX5, .code yX5_top cX5_top 4 (some .int), .methodLink RX5 49 yX5_of, .instanceMethod yX5_of, .selects RX5 yX5_of yX5_of, .code yX5_of cX5_of 3 (some .int), .fieldLink RX5 7 "IceCoreDaterModel" "now" "[I"] ++ wsX50)
def wsX5_part : List Cond := .code yX5_part cX5_part 3 (some .int) :: ([])
def wsX5_ageAt_r1 : List Cond := [Cond.methodLink RX5 77 yX5_layerAt, Cond.instanceMethod yX5_layerAt, Cond.selects RX5 yX5_layerAt yX5_layerAt, Cond.initialized RX5, Cond.code yX5_layerAt cX5_layerAt 3 (some .int), Cond.methodLink RX5 53 yX5_top, Cond.instanceMethod yX5_top, Cond.selects RX5 yX5_top yX5_top, Cond.code yX5_top cX5_top 4 (some .int), Cond.methodLink RX5 49 yX5_of, Cond.instanceMethod yX5_of, Cond.selects RX5 yX5_of yX5_of, Cond.code yX5_of cX5_of 3 (some .int), Cond.fieldLink RX5 7 "IceCoreDaterModel" "now" "[I", Cond.methodLink RX5 80 yX5_ageAtTop, Cond.instanceMethod yX5_ageAtTop, Cond.selects RX5 yX5_ageAtTop yX5_ageAtTop, Cond.code yX5_ageAtTop cX5_ageAtTop 4 (some .int), Cond.methodLink RX5 72 yX5_yearsOf, Cond.instanceMethod yX5_yearsOf, Cond.selects RX5 yX5_yearsOf yX5_yearsOf, Cond.code yX5_yearsOf cX5_yearsOf 2 (some .int), Cond.methodLink RX5 65 yX5_thinningOf, Cond.instanceMethod yX5_thinningOf]
def wsX5_ageAt_r2 : List Cond := [Cond.selects RX5 yX5_thinningOf yX5_thinningOf, Cond.code yX5_thinningOf cX5_thinningOf 10 (some .int), Cond.constantLong RX5 57 (1000), Cond.constantLong RX5 59 (2), Cond.constantLong RX5 61 (10), Cond.methodLink RX5 68 yX5_yearsBy, Cond.static yX5_yearsBy, Cond.code yX5_yearsBy cX5_yearsBy 8 (some .int), Cond.constantLong RX5 63 (10000000), Cond.methodLink RX5 83 yX5_part, Cond.static yX5_part, Cond.code yX5_part cX5_part 3 (some .int)]
def wsX5_ageAt : List Cond := .code yX5_ageAt cX5_ageAt 3 (some .int) :: ((wsX5_ageAt_r1 ++ wsX5_ageAt_r2) ++ wsX50)
def wsX5_gasAgeAt_r1 : List Cond := [Cond.methodLink RX5 87 yX5_ageAt, Cond.instanceMethod yX5_ageAt, Cond.selects RX5 yX5_ageAt yX5_ageAt, Cond.initialized RX5, Cond.code yX5_ageAt cX5_ageAt 3 (some .int), Cond.methodLink RX5 77 yX5_layerAt, Cond.instanceMethod yX5_layerAt, Cond.selects RX5 yX5_layerAt yX5_layerAt, Cond.code yX5_layerAt cX5_layerAt 3 (some .int), Cond.methodLink RX5 53 yX5_top, Cond.instanceMethod yX5_top, Cond.selects RX5 yX5_top yX5_top, Cond.code yX5_top cX5_top 4 (some .int), Cond.methodLink RX5 49 yX5_of, Cond.instanceMethod yX5_of, Cond.selects RX5 yX5_of yX5_of, Cond.code yX5_of cX5_of 3 (some .int), Cond.fieldLink RX5 7 "IceCoreDaterModel" "now" "[I", Cond.methodLink RX5 80 yX5_ageAtTop, Cond.instanceMethod yX5_ageAtTop, Cond.selects RX5 yX5_ageAtTop yX5_ageAtTop, Cond.code yX5_ageAtTop cX5_ageAtTop 4 (some .int), Cond.methodLink RX5 72 yX5_yearsOf, Cond.instanceMethod yX5_yearsOf]
def wsX5_gasAgeAt_r2 : List Cond := [Cond.selects RX5 yX5_yearsOf yX5_yearsOf, Cond.code yX5_yearsOf cX5_yearsOf 2 (some .int), Cond.methodLink RX5 65 yX5_thinningOf, Cond.instanceMethod yX5_thinningOf, Cond.selects RX5 yX5_thinningOf yX5_thinningOf, Cond.code yX5_thinningOf cX5_thinningOf 10 (some .int), Cond.constantLong RX5 57 (1000), Cond.constantLong RX5 59 (2), Cond.constantLong RX5 61 (10), Cond.methodLink RX5 68 yX5_yearsBy, Cond.static yX5_yearsBy, Cond.code yX5_yearsBy cX5_yearsBy 8 (some .int), Cond.constantLong RX5 63 (10000000), Cond.methodLink RX5 83 yX5_part, Cond.static yX5_part, Cond.code yX5_part cX5_part 3 (some .int), Cond.methodLink RX5 90 yX5_delayOf, Cond.instanceMethod yX5_delayOf, Cond.selects RX5 yX5_delayOf yX5_delayOf, Cond.code yX5_delayOf cX5_delayOf 2 (some .int), Cond.constantLong RX5 75 (10000)]
def wsX5_gasAgeAt : List Cond := .code yX5_gasAgeAt cX5_gasAgeAt 3 (some .int) :: ((wsX5_gasAgeAt_r1 ++ wsX5_gasAgeAt_r2) ++ wsX50)
def wsX5_bottom : List Cond := .code yX5_bottom cX5_bottom 1 (some .int) :: ([.fieldLink RX5 7 "IceCoreDaterModel" "now" "[I", .methodLink RX5 53 yX5_top, .instanceMethod yX5_top, .selects RX5 yX5_top yX5_top, .initialized RX5, .code yX5_top cX5_top 4 (some .int), .methodLink RX5 49 yX5_of, .instanceMethod yX5_of, .selects RX5 yX5_of yX5_of, .code yX5_of cX5_of 3 (some .int)] ++ wsX50)
def wsX5_residualOf_r1 : List Cond := [Cond.methodLink RX5 80 yX5_ageAtTop, Cond.instanceMethod yX5_ageAtTop, Cond.selects RX5 yX5_ageAtTop yX5_ageAtTop, Cond.initialized RX5, Cond.code yX5_ageAtTop cX5_ageAtTop 4 (some .int), Cond.methodLink RX5 72 yX5_yearsOf, Cond.instanceMethod yX5_yearsOf, Cond.selects RX5 yX5_yearsOf yX5_yearsOf, Cond.code yX5_yearsOf cX5_yearsOf 2 (some .int), Cond.methodLink RX5 49 yX5_of, Cond.instanceMethod yX5_of, Cond.selects RX5 yX5_of yX5_of, Cond.code yX5_of cX5_of 3 (some .int), Cond.fieldLink RX5 7 "IceCoreDaterModel" "now" "[I", Cond.methodLink RX5 65 yX5_thinningOf, Cond.instanceMethod yX5_thinningOf, Cond.selects RX5 yX5_thinningOf yX5_thinningOf, Cond.code yX5_thinningOf cX5_thinningOf 10 (some .int), Cond.constantLong RX5 57 (1000), Cond.constantLong RX5 59 (2), Cond.constantLong RX5 61 (10), Cond.methodLink RX5 53 yX5_top, Cond.instanceMethod yX5_top, Cond.selects RX5 yX5_top yX5_top]
def wsX5_residualOf_r2 : List Cond := [Cond.code yX5_top cX5_top 4 (some .int), Cond.methodLink RX5 68 yX5_yearsBy, Cond.static yX5_yearsBy, Cond.code yX5_yearsBy cX5_yearsBy 8 (some .int), Cond.constantLong RX5 63 (10000000)]
def wsX5_residualOf : List Cond := .code yX5_residualOf cX5_residualOf 2 (some .int) :: ((wsX5_residualOf_r1 ++ wsX5_residualOf_r2) ++ wsX50)
def wsX5_ashes : List Cond := .code yX5_ashes cX5_ashes 3 (some .int) :: ([.fieldLink RX5 7 "IceCoreDaterModel" "now" "[I", .methodLink RX5 49 yX5_of, .instanceMethod yX5_of, .selects RX5 yX5_of yX5_of, .initialized RX5, .code yX5_of cX5_of 3 (some .int)] ++ wsX50)
def wsX5_fits_r1 : List Cond := [Cond.fieldLink RX5 7 "IceCoreDaterModel" "now" "[I", Cond.methodLink RX5 49 yX5_of, Cond.instanceMethod yX5_of, Cond.selects RX5 yX5_of yX5_of, Cond.initialized RX5, Cond.code yX5_of cX5_of 3 (some .int), Cond.methodLink RX5 93 yX5_residualOf, Cond.instanceMethod yX5_residualOf, Cond.selects RX5 yX5_residualOf yX5_residualOf, Cond.code yX5_residualOf cX5_residualOf 2 (some .int), Cond.methodLink RX5 80 yX5_ageAtTop, Cond.instanceMethod yX5_ageAtTop, Cond.selects RX5 yX5_ageAtTop yX5_ageAtTop, Cond.code yX5_ageAtTop cX5_ageAtTop 4 (some .int), Cond.methodLink RX5 72 yX5_yearsOf, Cond.instanceMethod yX5_yearsOf, Cond.selects RX5 yX5_yearsOf yX5_yearsOf, Cond.code yX5_yearsOf cX5_yearsOf 2 (some .int), Cond.methodLink RX5 65 yX5_thinningOf, Cond.instanceMethod yX5_thinningOf, Cond.selects RX5 yX5_thinningOf yX5_thinningOf, Cond.code yX5_thinningOf cX5_thinningOf 10 (some .int), Cond.constantLong RX5 57 (1000), Cond.constantLong RX5 59 (2)]
def wsX5_fits_r2 : List Cond := [Cond.constantLong RX5 61 (10), Cond.methodLink RX5 53 yX5_top, Cond.instanceMethod yX5_top, Cond.selects RX5 yX5_top yX5_top, Cond.code yX5_top cX5_top 4 (some .int), Cond.methodLink RX5 68 yX5_yearsBy, Cond.static yX5_yearsBy, Cond.code yX5_yearsBy cX5_yearsBy 8 (some .int), Cond.constantLong RX5 63 (10000000), Cond.methodLink RX5 96 yX5_size, Cond.static yX5_size, Cond.code yX5_size cX5_size 2 (some .long)]
def wsX5_fits : List Cond := .code yX5_fits cX5_fits 3 (some .int) :: ((wsX5_fits_r1 ++ wsX5_fits_r2) ++ wsX50)
def wsX5_addLayer_r1 : List Cond := [Cond.constant RX5 100 (-1000000002), Cond.fieldLink RX5 7 "IceCoreDaterModel" "now" "[I", Cond.constant RX5 105 (-1000000003), Cond.constant RX5 106 (-1000000004), Cond.methodLink RX5 35 yX5_in, Cond.static yX5_in, Cond.initialized RX5, Cond.code yX5_in cX5_in 3 (some .boolean), Cond.methodLink RX5 101 yX5_bottom, Cond.instanceMethod yX5_bottom, Cond.selects RX5 yX5_bottom yX5_bottom, Cond.code yX5_bottom cX5_bottom 1 (some .int), Cond.methodLink RX5 53 yX5_top, Cond.instanceMethod yX5_top, Cond.selects RX5 yX5_top yX5_top, Cond.code yX5_top cX5_top 4 (some .int), Cond.methodLink RX5 49 yX5_of, Cond.instanceMethod yX5_of, Cond.selects RX5 yX5_of yX5_of, Cond.code yX5_of cX5_of 3 (some .int), Cond.methodLink RX5 107 yX5_record, Cond.instanceMethod yX5_record, Cond.selects RX5 yX5_record yX5_record, Cond.code yX5_record cX5_record 2 none]
def wsX5_addLayer_r2 : List Cond := [Cond.fieldLink RX5 39 "IceCoreDaterModel" "running" "Z", Cond.fieldLink RX5 43 "IceCoreDaterModel" "acts" "I", Cond.fieldLink RX5 46 "IceCoreDaterModel" "recorded" "I", Cond.fieldLink RX5 13 "IceCoreDaterModel" "past" "[I"]
def wsX5_addLayer : List Cond := .code yX5_addLayer cX5_addLayer 5 (some .int) :: ((wsX5_addLayer_r1 ++ wsX5_addLayer_r2) ++ wsX50)
def wsX5_removeLowest : List Cond := .code yX5_removeLowest cX5_removeLowest 1 (some .int) :: ([.fieldLink RX5 7 "IceCoreDaterModel" "now" "[I", .constant RX5 105 (-1000000003), .methodLink RX5 107 yX5_record, .instanceMethod yX5_record, .selects RX5 yX5_record yX5_record, .initialized RX5, .code yX5_record cX5_record 2 none, .fieldLink RX5 39 "IceCoreDaterModel" "running" "Z", .fieldLink RX5 43 "IceCoreDaterModel" "acts" "I", .fieldLink RX5 46 "IceCoreDaterModel" "recorded" "I", .fieldLink RX5 13 "IceCoreDaterModel" "past" "[I"] ++ wsX50)
def wsX5_divide : List Cond := .code yX5_divide cX5_divide 4 (some .int) :: ([.constant RX5 114 (-1000000001), .constant RX5 100 (-1000000002), .fieldLink RX5 7 "IceCoreDaterModel" "now" "[I", .constant RX5 106 (-1000000004), .methodLink RX5 110 yX5_isLayer, .instanceMethod yX5_isLayer, .selects RX5 yX5_isLayer yX5_isLayer, .initialized RX5, .code yX5_isLayer cX5_isLayer 2 (some .boolean), .methodLink RX5 35 yX5_in, .static yX5_in, .code yX5_in cX5_in 3 (some .boolean), .methodLink RX5 49 yX5_of, .instanceMethod yX5_of, .selects RX5 yX5_of yX5_of, .code yX5_of cX5_of 3 (some .int), .methodLink RX5 107 yX5_record, .instanceMethod yX5_record, .selects RX5 yX5_record yX5_record, .code yX5_record cX5_record 2 none, .fieldLink RX5 39 "IceCoreDaterModel" "running" "Z", .fieldLink RX5 43 "IceCoreDaterModel" "acts" "I", .fieldLink RX5 46 "IceCoreDaterModel" "recorded" "I", .fieldLink RX5 13 "IceCoreDaterModel" "past" "[I"] ++ wsX50)
def wsX5_change : List Cond := .code yX5_change cX5_change 4 (some .int) :: ([.fieldLink RX5 7 "IceCoreDaterModel" "now" "[I", .methodLink RX5 107 yX5_record, .instanceMethod yX5_record, .selects RX5 yX5_record yX5_record, .initialized RX5, .code yX5_record cX5_record 2 none, .fieldLink RX5 39 "IceCoreDaterModel" "running" "Z", .fieldLink RX5 43 "IceCoreDaterModel" "acts" "I", .fieldLink RX5 46 "IceCoreDaterModel" "recorded" "I", .fieldLink RX5 13 "IceCoreDaterModel" "past" "[I"] ++ wsX50)
def wsX5_setBed_r1 : List Cond := [Cond.constant RX5 115 (200000), Cond.constant RX5 100 (-1000000002), Cond.constant RX5 105 (-1000000003), Cond.methodLink RX5 35 yX5_in, Cond.static yX5_in, Cond.initialized RX5, Cond.code yX5_in cX5_in 3 (some .boolean), Cond.methodLink RX5 101 yX5_bottom, Cond.instanceMethod yX5_bottom, Cond.selects RX5 yX5_bottom yX5_bottom, Cond.code yX5_bottom cX5_bottom 1 (some .int), Cond.fieldLink RX5 7 "IceCoreDaterModel" "now" "[I", Cond.methodLink RX5 53 yX5_top, Cond.instanceMethod yX5_top, Cond.selects RX5 yX5_top yX5_top, Cond.code yX5_top cX5_top 4 (some .int), Cond.methodLink RX5 49 yX5_of, Cond.instanceMethod yX5_of, Cond.selects RX5 yX5_of yX5_of, Cond.code yX5_of cX5_of 3 (some .int), Cond.methodLink RX5 116 yX5_change, Cond.instanceMethod yX5_change, Cond.selects RX5 yX5_change yX5_change, Cond.code yX5_change cX5_change 4 (some .int)]
def wsX5_setBed_r2 : List Cond := [Cond.methodLink RX5 107 yX5_record, Cond.instanceMethod yX5_record, Cond.selects RX5 yX5_record yX5_record, Cond.code yX5_record cX5_record 2 none, Cond.fieldLink RX5 39 "IceCoreDaterModel" "running" "Z", Cond.fieldLink RX5 43 "IceCoreDaterModel" "acts" "I", Cond.fieldLink RX5 46 "IceCoreDaterModel" "recorded" "I", Cond.fieldLink RX5 13 "IceCoreDaterModel" "past" "[I"]
def wsX5_setBed : List Cond := .code yX5_setBed cX5_setBed 2 (some .int) :: ((wsX5_setBed_r1 ++ wsX5_setBed_r2) ++ wsX50)
def wsX5_setFunction : List Cond := .code yX5_setFunction cX5_setFunction 2 (some .int) :: ([.constant RX5 100 (-1000000002), .methodLink RX5 35 yX5_in, .static yX5_in, .initialized RX5, .code yX5_in cX5_in 3 (some .boolean), .methodLink RX5 116 yX5_change, .instanceMethod yX5_change, .selects RX5 yX5_change yX5_change, .code yX5_change cX5_change 4 (some .int), .fieldLink RX5 7 "IceCoreDaterModel" "now" "[I", .methodLink RX5 107 yX5_record, .instanceMethod yX5_record, .selects RX5 yX5_record yX5_record, .code yX5_record cX5_record 2 none, .fieldLink RX5 39 "IceCoreDaterModel" "running" "Z", .fieldLink RX5 43 "IceCoreDaterModel" "acts" "I", .fieldLink RX5 46 "IceCoreDaterModel" "recorded" "I", .fieldLink RX5 13 "IceCoreDaterModel" "past" "[I"] ++ wsX50)
def wsX5_setKink : List Cond := .code yX5_setKink cX5_setKink 2 (some .int) :: ([.constant RX5 100 (-1000000002), .methodLink RX5 35 yX5_in, .static yX5_in, .initialized RX5, .code yX5_in cX5_in 3 (some .boolean), .methodLink RX5 116 yX5_change, .instanceMethod yX5_change, .selects RX5 yX5_change yX5_change, .code yX5_change cX5_change 4 (some .int), .fieldLink RX5 7 "IceCoreDaterModel" "now" "[I", .methodLink RX5 107 yX5_record, .instanceMethod yX5_record, .selects RX5 yX5_record yX5_record, .code yX5_record cX5_record 2 none, .fieldLink RX5 39 "IceCoreDaterModel" "running" "Z", .fieldLink RX5 43 "IceCoreDaterModel" "acts" "I", .fieldLink RX5 46 "IceCoreDaterModel" "recorded" "I", .fieldLink RX5 13 "IceCoreDaterModel" "past" "[I"] ++ wsX50)
def wsX5_tellThinning : List Cond := .code yX5_tellThinning cX5_tellThinning 3 (some .int) :: ([.constant RX5 114 (-1000000001), .constant RX5 100 (-1000000002), .methodLink RX5 110 yX5_isLayer, .instanceMethod yX5_isLayer, .selects RX5 yX5_isLayer yX5_isLayer, .initialized RX5, .code yX5_isLayer cX5_isLayer 2 (some .boolean), .fieldLink RX5 7 "IceCoreDaterModel" "now" "[I", .methodLink RX5 35 yX5_in, .static yX5_in, .code yX5_in cX5_in 3 (some .boolean), .methodLink RX5 116 yX5_change, .instanceMethod yX5_change, .selects RX5 yX5_change yX5_change, .code yX5_change cX5_change 4 (some .int), .methodLink RX5 107 yX5_record, .instanceMethod yX5_record, .selects RX5 yX5_record yX5_record, .code yX5_record cX5_record 2 none, .fieldLink RX5 39 "IceCoreDaterModel" "running" "Z", .fieldLink RX5 43 "IceCoreDaterModel" "acts" "I", .fieldLink RX5 46 "IceCoreDaterModel" "recorded" "I", .fieldLink RX5 13 "IceCoreDaterModel" "past" "[I"] ++ wsX50)
def wsX5_correct : List Cond := .code yX5_correct cX5_correct 3 (some .int) :: ([.constant RX5 114 (-1000000001), .constant RX5 100 (-1000000002), .methodLink RX5 110 yX5_isLayer, .instanceMethod yX5_isLayer, .selects RX5 yX5_isLayer yX5_isLayer, .initialized RX5, .code yX5_isLayer cX5_isLayer 2 (some .boolean), .fieldLink RX5 7 "IceCoreDaterModel" "now" "[I", .methodLink RX5 35 yX5_in, .static yX5_in, .code yX5_in cX5_in 3 (some .boolean), .methodLink RX5 116 yX5_change, .instanceMethod yX5_change, .selects RX5 yX5_change yX5_change, .code yX5_change cX5_change 4 (some .int), .methodLink RX5 107 yX5_record, .instanceMethod yX5_record, .selects RX5 yX5_record yX5_record, .code yX5_record cX5_record 2 none, .fieldLink RX5 39 "IceCoreDaterModel" "running" "Z", .fieldLink RX5 43 "IceCoreDaterModel" "acts" "I", .fieldLink RX5 46 "IceCoreDaterModel" "recorded" "I", .fieldLink RX5 13 "IceCoreDaterModel" "past" "[I"] ++ wsX50)
def wsX5_setCloseOff : List Cond := .code yX5_setCloseOff cX5_setCloseOff 2 (some .int) :: ([.constant RX5 100 (-1000000002), .methodLink RX5 35 yX5_in, .static yX5_in, .initialized RX5, .code yX5_in cX5_in 3 (some .boolean), .methodLink RX5 116 yX5_change, .instanceMethod yX5_change, .selects RX5 yX5_change yX5_change, .code yX5_change cX5_change 4 (some .int), .fieldLink RX5 7 "IceCoreDaterModel" "now" "[I", .methodLink RX5 107 yX5_record, .instanceMethod yX5_record, .selects RX5 yX5_record yX5_record, .code yX5_record cX5_record 2 none, .fieldLink RX5 39 "IceCoreDaterModel" "running" "Z", .fieldLink RX5 43 "IceCoreDaterModel" "acts" "I", .fieldLink RX5 46 "IceCoreDaterModel" "recorded" "I", .fieldLink RX5 13 "IceCoreDaterModel" "past" "[I"] ++ wsX50)
def wsX5_setAsh_r1 : List Cond := [Cond.constant RX5 114 (-1000000001), Cond.constant RX5 119 (100000000), Cond.constant RX5 100 (-1000000002), Cond.fieldLink RX5 7 "IceCoreDaterModel" "now" "[I", Cond.methodLink RX5 110 yX5_isLayer, Cond.instanceMethod yX5_isLayer, Cond.selects RX5 yX5_isLayer yX5_isLayer, Cond.initialized RX5, Cond.code yX5_isLayer cX5_isLayer 2 (some .boolean), Cond.methodLink RX5 35 yX5_in, Cond.static yX5_in, Cond.code yX5_in cX5_in 3 (some .boolean), Cond.methodLink RX5 107 yX5_record, Cond.instanceMethod yX5_record, Cond.selects RX5 yX5_record yX5_record, Cond.code yX5_record cX5_record 2 none, Cond.fieldLink RX5 39 "IceCoreDaterModel" "running" "Z", Cond.fieldLink RX5 43 "IceCoreDaterModel" "acts" "I", Cond.fieldLink RX5 46 "IceCoreDaterModel" "recorded" "I", Cond.fieldLink RX5 13 "IceCoreDaterModel" "past" "[I", Cond.methodLink RX5 120 yX5_ashes, Cond.instanceMethod yX5_ashes, Cond.selects RX5 yX5_ashes yX5_ashes, Cond.code yX5_ashes cX5_ashes 3 (some .int)]
def wsX5_setAsh_r2 : List Cond := [Cond.methodLink RX5 49 yX5_of, Cond.instanceMethod yX5_of, Cond.selects RX5 yX5_of yX5_of, Cond.code yX5_of cX5_of 3 (some .int)]
def wsX5_setAsh : List Cond := .code yX5_setAsh cX5_setAsh 5 (some .int) :: ((wsX5_setAsh_r1 ++ wsX5_setAsh_r2) ++ wsX50)
def wsX5_removeAsh_r1 : List Cond := [Cond.constant RX5 114 (-1000000001), Cond.constant RX5 105 (-1000000003), Cond.fieldLink RX5 7 "IceCoreDaterModel" "now" "[I", Cond.methodLink RX5 110 yX5_isLayer, Cond.instanceMethod yX5_isLayer, Cond.selects RX5 yX5_isLayer yX5_isLayer, Cond.initialized RX5, Cond.code yX5_isLayer cX5_isLayer 2 (some .boolean), Cond.methodLink RX5 35 yX5_in, Cond.static yX5_in, Cond.code yX5_in cX5_in 3 (some .boolean), Cond.methodLink RX5 49 yX5_of, Cond.instanceMethod yX5_of, Cond.selects RX5 yX5_of yX5_of, Cond.code yX5_of cX5_of 3 (some .int), Cond.methodLink RX5 107 yX5_record, Cond.instanceMethod yX5_record, Cond.selects RX5 yX5_record yX5_record, Cond.code yX5_record cX5_record 2 none, Cond.fieldLink RX5 39 "IceCoreDaterModel" "running" "Z", Cond.fieldLink RX5 43 "IceCoreDaterModel" "acts" "I", Cond.fieldLink RX5 46 "IceCoreDaterModel" "recorded" "I", Cond.fieldLink RX5 13 "IceCoreDaterModel" "past" "[I", Cond.methodLink RX5 120 yX5_ashes]
def wsX5_removeAsh_r2 : List Cond := [Cond.instanceMethod yX5_ashes, Cond.selects RX5 yX5_ashes yX5_ashes, Cond.code yX5_ashes cX5_ashes 3 (some .int)]
def wsX5_removeAsh : List Cond := .code yX5_removeAsh cX5_removeAsh 2 (some .int) :: ((wsX5_removeAsh_r1 ++ wsX5_removeAsh_r2) ++ wsX50)
def wsX5_setCount_r1 : List Cond := [Cond.constant RX5 114 (-1000000001), Cond.constant RX5 123 (1000000), Cond.constant RX5 100 (-1000000002), Cond.fieldLink RX5 7 "IceCoreDaterModel" "now" "[I", Cond.methodLink RX5 110 yX5_isLayer, Cond.instanceMethod yX5_isLayer, Cond.selects RX5 yX5_isLayer yX5_isLayer, Cond.initialized RX5, Cond.code yX5_isLayer cX5_isLayer 2 (some .boolean), Cond.methodLink RX5 35 yX5_in, Cond.static yX5_in, Cond.code yX5_in cX5_in 3 (some .boolean), Cond.methodLink RX5 107 yX5_record, Cond.instanceMethod yX5_record, Cond.selects RX5 yX5_record yX5_record, Cond.code yX5_record cX5_record 2 none, Cond.fieldLink RX5 39 "IceCoreDaterModel" "running" "Z", Cond.fieldLink RX5 43 "IceCoreDaterModel" "acts" "I", Cond.fieldLink RX5 46 "IceCoreDaterModel" "recorded" "I", Cond.fieldLink RX5 13 "IceCoreDaterModel" "past" "[I", Cond.methodLink RX5 72 yX5_yearsOf, Cond.instanceMethod yX5_yearsOf, Cond.selects RX5 yX5_yearsOf yX5_yearsOf, Cond.code yX5_yearsOf cX5_yearsOf 2 (some .int)]
def wsX5_setCount_r2 : List Cond := [Cond.methodLink RX5 49 yX5_of, Cond.instanceMethod yX5_of, Cond.selects RX5 yX5_of yX5_of, Cond.code yX5_of cX5_of 3 (some .int), Cond.methodLink RX5 65 yX5_thinningOf, Cond.instanceMethod yX5_thinningOf, Cond.selects RX5 yX5_thinningOf yX5_thinningOf, Cond.code yX5_thinningOf cX5_thinningOf 10 (some .int), Cond.constantLong RX5 57 (1000), Cond.constantLong RX5 59 (2), Cond.constantLong RX5 61 (10), Cond.methodLink RX5 53 yX5_top, Cond.instanceMethod yX5_top, Cond.selects RX5 yX5_top yX5_top, Cond.code yX5_top cX5_top 4 (some .int), Cond.methodLink RX5 68 yX5_yearsBy, Cond.static yX5_yearsBy, Cond.code yX5_yearsBy cX5_yearsBy 8 (some .int), Cond.constantLong RX5 63 (10000000)]
def wsX5_setCount : List Cond := .code yX5_setCount cX5_setCount 3 (some .int) :: ((wsX5_setCount_r1 ++ wsX5_setCount_r2) ++ wsX50)
def wsX5_yearsWith : List Cond := .code yX5_yearsWith cX5_yearsWith 7 (some .long) :: ([.fieldLink RX5 16 "IceCoreDaterModel" "thinnings" "[I", .methodLink RX5 49 yX5_of, .instanceMethod yX5_of, .selects RX5 yX5_of yX5_of, .initialized RX5, .code yX5_of cX5_of 3 (some .int), .fieldLink RX5 7 "IceCoreDaterModel" "now" "[I", .methodLink RX5 68 yX5_yearsBy, .static yX5_yearsBy, .code yX5_yearsBy cX5_yearsBy 8 (some .int), .constantLong RX5 63 (10000000)] ++ wsX50)
def wsX5_tuneSegment : List Cond := .code yX5_tuneSegment cX5_tuneSegment 11 none :: ([.fieldLink RX5 7 "IceCoreDaterModel" "now" "[I", .methodLink RX5 124 yX5_yearsWith, .instanceMethod yX5_yearsWith, .selects RX5 yX5_yearsWith yX5_yearsWith, .initialized RX5, .code yX5_yearsWith cX5_yearsWith 7 (some .long), .fieldLink RX5 16 "IceCoreDaterModel" "thinnings" "[I", .methodLink RX5 49 yX5_of, .instanceMethod yX5_of, .selects RX5 yX5_of yX5_of, .code yX5_of cX5_of 3 (some .int), .methodLink RX5 68 yX5_yearsBy, .static yX5_yearsBy, .code yX5_yearsBy cX5_yearsBy 8 (some .int), .constantLong RX5 63 (10000000), .methodLink RX5 96 yX5_size, .static yX5_size, .code yX5_size cX5_size 2 (some .long)] ++ wsX50)
def wsX5_canTune : List Cond := .code yX5_canTune cX5_canTune 3 (some .boolean) :: ([.fieldLink RX5 7 "IceCoreDaterModel" "now" "[I", .methodLink RX5 49 yX5_of, .instanceMethod yX5_of, .selects RX5 yX5_of yX5_of, .initialized RX5, .code yX5_of cX5_of 3 (some .int), .methodLink RX5 120 yX5_ashes, .instanceMethod yX5_ashes, .selects RX5 yX5_ashes yX5_ashes, .code yX5_ashes cX5_ashes 3 (some .int)] ++ wsX50)
def wsX5_tune_r1 : List Cond := [Cond.constant RX5 105 (-1000000003), Cond.fieldLink RX5 7 "IceCoreDaterModel" "now" "[I", Cond.fieldLink RX5 16 "IceCoreDaterModel" "thinnings" "[I", Cond.methodLink RX5 128 yX5_canTune, Cond.instanceMethod yX5_canTune, Cond.selects RX5 yX5_canTune yX5_canTune, Cond.initialized RX5, Cond.code yX5_canTune cX5_canTune 3 (some .boolean), Cond.methodLink RX5 49 yX5_of, Cond.instanceMethod yX5_of, Cond.selects RX5 yX5_of yX5_of, Cond.code yX5_of cX5_of 3 (some .int), Cond.methodLink RX5 120 yX5_ashes, Cond.instanceMethod yX5_ashes, Cond.selects RX5 yX5_ashes yX5_ashes, Cond.code yX5_ashes cX5_ashes 3 (some .int), Cond.methodLink RX5 107 yX5_record, Cond.instanceMethod yX5_record, Cond.selects RX5 yX5_record yX5_record, Cond.code yX5_record cX5_record 2 none, Cond.fieldLink RX5 39 "IceCoreDaterModel" "running" "Z", Cond.fieldLink RX5 43 "IceCoreDaterModel" "acts" "I", Cond.fieldLink RX5 46 "IceCoreDaterModel" "recorded" "I", Cond.fieldLink RX5 13 "IceCoreDaterModel" "past" "[I"]
def wsX5_tune_r2 : List Cond := [Cond.methodLink RX5 65 yX5_thinningOf, Cond.instanceMethod yX5_thinningOf, Cond.selects RX5 yX5_thinningOf yX5_thinningOf, Cond.code yX5_thinningOf cX5_thinningOf 10 (some .int), Cond.constantLong RX5 57 (1000), Cond.constantLong RX5 59 (2), Cond.constantLong RX5 61 (10), Cond.methodLink RX5 53 yX5_top, Cond.instanceMethod yX5_top, Cond.selects RX5 yX5_top yX5_top, Cond.code yX5_top cX5_top 4 (some .int), Cond.methodLink RX5 132 yX5_tuneSegment, Cond.instanceMethod yX5_tuneSegment, Cond.selects RX5 yX5_tuneSegment yX5_tuneSegment, Cond.code yX5_tuneSegment cX5_tuneSegment 11 none, Cond.methodLink RX5 124 yX5_yearsWith, Cond.instanceMethod yX5_yearsWith, Cond.selects RX5 yX5_yearsWith yX5_yearsWith, Cond.code yX5_yearsWith cX5_yearsWith 7 (some .long), Cond.methodLink RX5 68 yX5_yearsBy, Cond.static yX5_yearsBy, Cond.code yX5_yearsBy cX5_yearsBy 8 (some .int), Cond.constantLong RX5 63 (10000000), Cond.methodLink RX5 96 yX5_size]
def wsX5_tune_r3 : List Cond := [Cond.static yX5_size, Cond.code yX5_size cX5_size 2 (some .long), Cond.methodLink RX5 136 yX5_fits, Cond.instanceMethod yX5_fits, Cond.selects RX5 yX5_fits yX5_fits, Cond.code yX5_fits cX5_fits 3 (some .int), Cond.methodLink RX5 93 yX5_residualOf, Cond.instanceMethod yX5_residualOf, Cond.selects RX5 yX5_residualOf yX5_residualOf, Cond.code yX5_residualOf cX5_residualOf 2 (some .int), Cond.methodLink RX5 80 yX5_ageAtTop, Cond.instanceMethod yX5_ageAtTop, Cond.selects RX5 yX5_ageAtTop yX5_ageAtTop, Cond.code yX5_ageAtTop cX5_ageAtTop 4 (some .int), Cond.methodLink RX5 72 yX5_yearsOf, Cond.instanceMethod yX5_yearsOf, Cond.selects RX5 yX5_yearsOf yX5_yearsOf, Cond.code yX5_yearsOf cX5_yearsOf 2 (some .int)]
def wsX5_tune : List Cond := .code yX5_tune cX5_tune 4 (some .int) :: ((wsX5_tune_r1 ++ (wsX5_tune_r2 ++ wsX5_tune_r3)) ++ wsX50)
def wsX5_type : List Cond := .code yX5_type cX5_type 2 (some .int) :: ([.constant RX5 100 (-1000000002), .fieldLink RX5 139 "IceCoreDaterModel" "texted" "I", .constant RX5 106 (-1000000004), .fieldLink RX5 19 "IceCoreDaterModel" "text" "[I", .methodLink RX5 35 yX5_in, .static yX5_in, .initialized RX5, .code yX5_in cX5_in 3 (some .boolean)] ++ wsX50)
def wsX5_clearText : List Cond := .code yX5_clearText cX5_clearText 2 (some .int) :: ([.fieldLink RX5 139 "IceCoreDaterModel" "texted" "I"] ++ wsX50)
def wsX5_word : List Cond := .code yX5_word cX5_word 8 (some .long) :: ([.constantLong RX5 142 (128)])
def wsX5_readWord : List Cond := .code yX5_readWord cX5_readWord 8 none :: ([.constantLong RX5 142 (128), .fieldLink RX5 19 "IceCoreDaterModel" "text" "[I", .fieldLink RX5 27 "IceCoreDaterModel" "spelled" "[J", .fieldLink RX5 144 "IceCoreDaterModel" "words" "I", .fieldLink RX5 31 "IceCoreDaterModel" "numbers" "[I", .constant RX5 22 (-1000000005), .methodLink RX5 35 yX5_in, .static yX5_in, .initialized RX5, .code yX5_in cX5_in 3 (some .boolean)] ++ wsX50)
def wsX5_readCommand : List Cond := .code yX5_readCommand cX5_readCommand 4 (some .int) :: ([.fieldLink RX5 144 "IceCoreDaterModel" "words" "I", .fieldLink RX5 139 "IceCoreDaterModel" "texted" "I", .fieldLink RX5 19 "IceCoreDaterModel" "text" "[I", .methodLink RX5 147 yX5_readWord, .instanceMethod yX5_readWord, .selects RX5 yX5_readWord yX5_readWord, .initialized RX5, .code yX5_readWord cX5_readWord 8 none, .constantLong RX5 142 (128), .fieldLink RX5 27 "IceCoreDaterModel" "spelled" "[J", .fieldLink RX5 31 "IceCoreDaterModel" "numbers" "[I", .constant RX5 22 (-1000000005), .methodLink RX5 35 yX5_in, .static yX5_in, .code yX5_in cX5_in 3 (some .boolean)] ++ wsX50)
def wsX5_hasNumbers : List Cond := .code yX5_hasNumbers cX5_hasNumbers 4 (some .boolean) :: ([.fieldLink RX5 144 "IceCoreDaterModel" "words" "I", .fieldLink RX5 31 "IceCoreDaterModel" "numbers" "[I", .constant RX5 22 (-1000000005)] ++ wsX50)
def wsX5_outcome : List Cond := .code yX5_outcome cX5_outcome 1 (some .int) :: ([.constant RX5 114 (-1000000001)])
def wsX5_use_r1 : List Cond := [Cond.fieldLink RX5 27 "IceCoreDaterModel" "spelled" "[J", Cond.constant RX5 22 (-1000000005), Cond.fieldLink RX5 144 "IceCoreDaterModel" "words" "I", Cond.methodLink RX5 151 yX5_word, Cond.static yX5_word, Cond.initialized RX5, Cond.code yX5_word cX5_word 8 (some .long), Cond.constantLong RX5 142 (128), Cond.methodLink RX5 155 yX5_setFunction, Cond.instanceMethod yX5_setFunction, Cond.selects RX5 yX5_setFunction yX5_setFunction, Cond.code yX5_setFunction cX5_setFunction 2 (some .int), Cond.constant RX5 100 (-1000000002), Cond.methodLink RX5 35 yX5_in, Cond.static yX5_in, Cond.code yX5_in cX5_in 3 (some .boolean), Cond.methodLink RX5 116 yX5_change, Cond.instanceMethod yX5_change, Cond.selects RX5 yX5_change yX5_change, Cond.code yX5_change cX5_change 4 (some .int), Cond.fieldLink RX5 7 "IceCoreDaterModel" "now" "[I", Cond.methodLink RX5 107 yX5_record, Cond.instanceMethod yX5_record, Cond.selects RX5 yX5_record yX5_record]
def wsX5_use_r2 : List Cond := [Cond.code yX5_record cX5_record 2 none, Cond.fieldLink RX5 39 "IceCoreDaterModel" "running" "Z", Cond.fieldLink RX5 43 "IceCoreDaterModel" "acts" "I", Cond.fieldLink RX5 46 "IceCoreDaterModel" "recorded" "I", Cond.fieldLink RX5 13 "IceCoreDaterModel" "past" "[I", Cond.methodLink RX5 158 yX5_outcome, Cond.static yX5_outcome, Cond.code yX5_outcome cX5_outcome 1 (some .int), Cond.constant RX5 114 (-1000000001)]
def wsX5_use : List Cond := .code yX5_use cX5_use 2 (some .int) :: ((wsX5_use_r1 ++ wsX5_use_r2) ++ wsX50)
def wsX5_perform_r1 : List Cond := [Cond.fieldLink RX5 144 "IceCoreDaterModel" "words" "I", Cond.fieldLink RX5 27 "IceCoreDaterModel" "spelled" "[J", Cond.fieldLink RX5 31 "IceCoreDaterModel" "numbers" "[I", Cond.methodLink RX5 151 yX5_word, Cond.static yX5_word, Cond.initialized RX5, Cond.code yX5_word cX5_word 8 (some .long), Cond.constantLong RX5 142 (128), Cond.methodLink RX5 161 yX5_hasNumbers, Cond.instanceMethod yX5_hasNumbers, Cond.selects RX5 yX5_hasNumbers yX5_hasNumbers, Cond.code yX5_hasNumbers cX5_hasNumbers 4 (some .boolean), Cond.constant RX5 22 (-1000000005), Cond.methodLink RX5 164 yX5_addLayer, Cond.instanceMethod yX5_addLayer, Cond.selects RX5 yX5_addLayer yX5_addLayer, Cond.code yX5_addLayer cX5_addLayer 5 (some .int), Cond.constant RX5 100 (-1000000002), Cond.fieldLink RX5 7 "IceCoreDaterModel" "now" "[I", Cond.constant RX5 105 (-1000000003), Cond.constant RX5 106 (-1000000004), Cond.methodLink RX5 35 yX5_in, Cond.static yX5_in, Cond.code yX5_in cX5_in 3 (some .boolean)]
def wsX5_perform_r2 : List Cond := [Cond.methodLink RX5 101 yX5_bottom, Cond.instanceMethod yX5_bottom, Cond.selects RX5 yX5_bottom yX5_bottom, Cond.code yX5_bottom cX5_bottom 1 (some .int), Cond.methodLink RX5 53 yX5_top, Cond.instanceMethod yX5_top, Cond.selects RX5 yX5_top yX5_top, Cond.code yX5_top cX5_top 4 (some .int), Cond.methodLink RX5 49 yX5_of, Cond.instanceMethod yX5_of, Cond.selects RX5 yX5_of yX5_of, Cond.code yX5_of cX5_of 3 (some .int), Cond.methodLink RX5 107 yX5_record, Cond.instanceMethod yX5_record, Cond.selects RX5 yX5_record yX5_record, Cond.code yX5_record cX5_record 2 none, Cond.fieldLink RX5 39 "IceCoreDaterModel" "running" "Z", Cond.fieldLink RX5 43 "IceCoreDaterModel" "acts" "I", Cond.fieldLink RX5 46 "IceCoreDaterModel" "recorded" "I", Cond.fieldLink RX5 13 "IceCoreDaterModel" "past" "[I", Cond.methodLink RX5 158 yX5_outcome, Cond.static yX5_outcome, Cond.code yX5_outcome cX5_outcome 1 (some .int), Cond.constant RX5 114 (-1000000001)]
def wsX5_perform_r3 : List Cond := [Cond.methodLink RX5 167 yX5_setAsh, Cond.instanceMethod yX5_setAsh, Cond.selects RX5 yX5_setAsh yX5_setAsh, Cond.code yX5_setAsh cX5_setAsh 5 (some .int), Cond.constant RX5 119 (100000000), Cond.methodLink RX5 110 yX5_isLayer, Cond.instanceMethod yX5_isLayer, Cond.selects RX5 yX5_isLayer yX5_isLayer, Cond.code yX5_isLayer cX5_isLayer 2 (some .boolean), Cond.methodLink RX5 120 yX5_ashes, Cond.instanceMethod yX5_ashes, Cond.selects RX5 yX5_ashes yX5_ashes, Cond.code yX5_ashes cX5_ashes 3 (some .int), Cond.methodLink RX5 170 yX5_setCount, Cond.instanceMethod yX5_setCount, Cond.selects RX5 yX5_setCount yX5_setCount, Cond.code yX5_setCount cX5_setCount 3 (some .int), Cond.constant RX5 123 (1000000), Cond.methodLink RX5 72 yX5_yearsOf, Cond.instanceMethod yX5_yearsOf, Cond.selects RX5 yX5_yearsOf yX5_yearsOf, Cond.code yX5_yearsOf cX5_yearsOf 2 (some .int), Cond.methodLink RX5 65 yX5_thinningOf, Cond.instanceMethod yX5_thinningOf]
def wsX5_perform_r4 : List Cond := [Cond.selects RX5 yX5_thinningOf yX5_thinningOf, Cond.code yX5_thinningOf cX5_thinningOf 10 (some .int), Cond.constantLong RX5 57 (1000), Cond.constantLong RX5 59 (2), Cond.constantLong RX5 61 (10), Cond.methodLink RX5 68 yX5_yearsBy, Cond.static yX5_yearsBy, Cond.code yX5_yearsBy cX5_yearsBy 8 (some .int), Cond.constantLong RX5 63 (10000000), Cond.methodLink RX5 173 yX5_correct, Cond.instanceMethod yX5_correct, Cond.selects RX5 yX5_correct yX5_correct, Cond.code yX5_correct cX5_correct 3 (some .int), Cond.methodLink RX5 116 yX5_change, Cond.instanceMethod yX5_change, Cond.selects RX5 yX5_change yX5_change, Cond.code yX5_change cX5_change 4 (some .int), Cond.methodLink RX5 176 yX5_setBed, Cond.instanceMethod yX5_setBed, Cond.selects RX5 yX5_setBed yX5_setBed, Cond.code yX5_setBed cX5_setBed 2 (some .int), Cond.constant RX5 115 (200000), Cond.methodLink RX5 179 yX5_setKink, Cond.instanceMethod yX5_setKink]
def wsX5_perform_r5 : List Cond := [Cond.selects RX5 yX5_setKink yX5_setKink, Cond.code yX5_setKink cX5_setKink 2 (some .int), Cond.methodLink RX5 182 yX5_setCloseOff, Cond.instanceMethod yX5_setCloseOff, Cond.selects RX5 yX5_setCloseOff yX5_setCloseOff, Cond.code yX5_setCloseOff cX5_setCloseOff 2 (some .int), Cond.methodLink RX5 185 yX5_use, Cond.instanceMethod yX5_use, Cond.selects RX5 yX5_use yX5_use, Cond.code yX5_use cX5_use 2 (some .int), Cond.methodLink RX5 155 yX5_setFunction, Cond.instanceMethod yX5_setFunction, Cond.selects RX5 yX5_setFunction yX5_setFunction, Cond.code yX5_setFunction cX5_setFunction 2 (some .int), Cond.methodLink RX5 188 yX5_tune, Cond.instanceMethod yX5_tune, Cond.selects RX5 yX5_tune yX5_tune, Cond.code yX5_tune cX5_tune 4 (some .int), Cond.fieldLink RX5 16 "IceCoreDaterModel" "thinnings" "[I", Cond.methodLink RX5 128 yX5_canTune, Cond.instanceMethod yX5_canTune, Cond.selects RX5 yX5_canTune yX5_canTune, Cond.code yX5_canTune cX5_canTune 3 (some .boolean), Cond.methodLink RX5 132 yX5_tuneSegment]
def wsX5_perform_r6 : List Cond := [Cond.instanceMethod yX5_tuneSegment, Cond.selects RX5 yX5_tuneSegment yX5_tuneSegment, Cond.code yX5_tuneSegment cX5_tuneSegment 11 none, Cond.methodLink RX5 124 yX5_yearsWith, Cond.instanceMethod yX5_yearsWith, Cond.selects RX5 yX5_yearsWith yX5_yearsWith, Cond.code yX5_yearsWith cX5_yearsWith 7 (some .long), Cond.methodLink RX5 96 yX5_size, Cond.static yX5_size, Cond.code yX5_size cX5_size 2 (some .long), Cond.methodLink RX5 136 yX5_fits, Cond.instanceMethod yX5_fits, Cond.selects RX5 yX5_fits yX5_fits, Cond.code yX5_fits cX5_fits 3 (some .int), Cond.methodLink RX5 93 yX5_residualOf, Cond.instanceMethod yX5_residualOf, Cond.selects RX5 yX5_residualOf yX5_residualOf, Cond.code yX5_residualOf cX5_residualOf 2 (some .int), Cond.methodLink RX5 80 yX5_ageAtTop, Cond.instanceMethod yX5_ageAtTop, Cond.selects RX5 yX5_ageAtTop yX5_ageAtTop, Cond.code yX5_ageAtTop cX5_ageAtTop 4 (some .int)]
def wsX5_perform : List Cond := .code yX5_perform cX5_perform 3 (some .int) :: ((wsX5_perform_r1 ++ (wsX5_perform_r2 ++ (wsX5_perform_r3 ++ (wsX5_perform_r4 ++ (wsX5_perform_r5 ++ wsX5_perform_r6))))) ++ wsX50)
def wsX5_run_r1 : List Cond := [Cond.fieldLink RX5 39 "IceCoreDaterModel" "running" "Z", Cond.fieldLink RX5 23 "IceCoreDaterModel" "failed" "I", Cond.fieldLink RX5 139 "IceCoreDaterModel" "texted" "I", Cond.methodLink RX5 107 yX5_record, Cond.instanceMethod yX5_record, Cond.selects RX5 yX5_record yX5_record, Cond.initialized RX5, Cond.code yX5_record cX5_record 2 none, Cond.fieldLink RX5 43 "IceCoreDaterModel" "acts" "I", Cond.fieldLink RX5 46 "IceCoreDaterModel" "recorded" "I", Cond.fieldLink RX5 13 "IceCoreDaterModel" "past" "[I", Cond.fieldLink RX5 7 "IceCoreDaterModel" "now" "[I", Cond.methodLink RX5 191 yX5_readCommand, Cond.instanceMethod yX5_readCommand, Cond.selects RX5 yX5_readCommand yX5_readCommand, Cond.code yX5_readCommand cX5_readCommand 4 (some .int), Cond.fieldLink RX5 144 "IceCoreDaterModel" "words" "I", Cond.fieldLink RX5 19 "IceCoreDaterModel" "text" "[I", Cond.methodLink RX5 147 yX5_readWord, Cond.instanceMethod yX5_readWord, Cond.selects RX5 yX5_readWord yX5_readWord, Cond.code yX5_readWord cX5_readWord 8 none, Cond.constantLong RX5 142 (128), Cond.fieldLink RX5 27 "IceCoreDaterModel" "spelled" "[J"]
def wsX5_run_r2 : List Cond := [Cond.fieldLink RX5 31 "IceCoreDaterModel" "numbers" "[I", Cond.constant RX5 22 (-1000000005), Cond.methodLink RX5 35 yX5_in, Cond.static yX5_in, Cond.code yX5_in cX5_in 3 (some .boolean), Cond.methodLink RX5 194 yX5_perform, Cond.instanceMethod yX5_perform, Cond.selects RX5 yX5_perform yX5_perform, Cond.code yX5_perform cX5_perform 3 (some .int), Cond.methodLink RX5 151 yX5_word, Cond.static yX5_word, Cond.code yX5_word cX5_word 8 (some .long), Cond.methodLink RX5 161 yX5_hasNumbers, Cond.instanceMethod yX5_hasNumbers, Cond.selects RX5 yX5_hasNumbers yX5_hasNumbers, Cond.code yX5_hasNumbers cX5_hasNumbers 4 (some .boolean), Cond.methodLink RX5 164 yX5_addLayer, Cond.instanceMethod yX5_addLayer, Cond.selects RX5 yX5_addLayer yX5_addLayer, Cond.code yX5_addLayer cX5_addLayer 5 (some .int), Cond.constant RX5 100 (-1000000002), Cond.constant RX5 105 (-1000000003), Cond.constant RX5 106 (-1000000004), Cond.methodLink RX5 101 yX5_bottom]
def wsX5_run_r3 : List Cond := [Cond.instanceMethod yX5_bottom, Cond.selects RX5 yX5_bottom yX5_bottom, Cond.code yX5_bottom cX5_bottom 1 (some .int), Cond.methodLink RX5 53 yX5_top, Cond.instanceMethod yX5_top, Cond.selects RX5 yX5_top yX5_top, Cond.code yX5_top cX5_top 4 (some .int), Cond.methodLink RX5 49 yX5_of, Cond.instanceMethod yX5_of, Cond.selects RX5 yX5_of yX5_of, Cond.code yX5_of cX5_of 3 (some .int), Cond.methodLink RX5 158 yX5_outcome, Cond.static yX5_outcome, Cond.code yX5_outcome cX5_outcome 1 (some .int), Cond.constant RX5 114 (-1000000001), Cond.methodLink RX5 167 yX5_setAsh, Cond.instanceMethod yX5_setAsh, Cond.selects RX5 yX5_setAsh yX5_setAsh, Cond.code yX5_setAsh cX5_setAsh 5 (some .int), Cond.constant RX5 119 (100000000), Cond.methodLink RX5 110 yX5_isLayer, Cond.instanceMethod yX5_isLayer, Cond.selects RX5 yX5_isLayer yX5_isLayer, Cond.code yX5_isLayer cX5_isLayer 2 (some .boolean)]
def wsX5_run_r4 : List Cond := [Cond.methodLink RX5 120 yX5_ashes, Cond.instanceMethod yX5_ashes, Cond.selects RX5 yX5_ashes yX5_ashes, Cond.code yX5_ashes cX5_ashes 3 (some .int), Cond.methodLink RX5 170 yX5_setCount, Cond.instanceMethod yX5_setCount, Cond.selects RX5 yX5_setCount yX5_setCount, Cond.code yX5_setCount cX5_setCount 3 (some .int), Cond.constant RX5 123 (1000000), Cond.methodLink RX5 72 yX5_yearsOf, Cond.instanceMethod yX5_yearsOf, Cond.selects RX5 yX5_yearsOf yX5_yearsOf, Cond.code yX5_yearsOf cX5_yearsOf 2 (some .int), Cond.methodLink RX5 65 yX5_thinningOf, Cond.instanceMethod yX5_thinningOf, Cond.selects RX5 yX5_thinningOf yX5_thinningOf, Cond.code yX5_thinningOf cX5_thinningOf 10 (some .int), Cond.constantLong RX5 57 (1000), Cond.constantLong RX5 59 (2), Cond.constantLong RX5 61 (10), Cond.methodLink RX5 68 yX5_yearsBy, Cond.static yX5_yearsBy, Cond.code yX5_yearsBy cX5_yearsBy 8 (some .int), Cond.constantLong RX5 63 (10000000)]
def wsX5_run_r5 : List Cond := [Cond.methodLink RX5 173 yX5_correct, Cond.instanceMethod yX5_correct, Cond.selects RX5 yX5_correct yX5_correct, Cond.code yX5_correct cX5_correct 3 (some .int), Cond.methodLink RX5 116 yX5_change, Cond.instanceMethod yX5_change, Cond.selects RX5 yX5_change yX5_change, Cond.code yX5_change cX5_change 4 (some .int), Cond.methodLink RX5 176 yX5_setBed, Cond.instanceMethod yX5_setBed, Cond.selects RX5 yX5_setBed yX5_setBed, Cond.code yX5_setBed cX5_setBed 2 (some .int), Cond.constant RX5 115 (200000), Cond.methodLink RX5 179 yX5_setKink, Cond.instanceMethod yX5_setKink, Cond.selects RX5 yX5_setKink yX5_setKink, Cond.code yX5_setKink cX5_setKink 2 (some .int), Cond.methodLink RX5 182 yX5_setCloseOff, Cond.instanceMethod yX5_setCloseOff, Cond.selects RX5 yX5_setCloseOff yX5_setCloseOff, Cond.code yX5_setCloseOff cX5_setCloseOff 2 (some .int), Cond.methodLink RX5 185 yX5_use, Cond.instanceMethod yX5_use, Cond.selects RX5 yX5_use yX5_use]
def wsX5_run_r6 : List Cond := [Cond.code yX5_use cX5_use 2 (some .int), Cond.methodLink RX5 155 yX5_setFunction, Cond.instanceMethod yX5_setFunction, Cond.selects RX5 yX5_setFunction yX5_setFunction, Cond.code yX5_setFunction cX5_setFunction 2 (some .int), Cond.methodLink RX5 188 yX5_tune, Cond.instanceMethod yX5_tune, Cond.selects RX5 yX5_tune yX5_tune, Cond.code yX5_tune cX5_tune 4 (some .int), Cond.fieldLink RX5 16 "IceCoreDaterModel" "thinnings" "[I", Cond.methodLink RX5 128 yX5_canTune, Cond.instanceMethod yX5_canTune, Cond.selects RX5 yX5_canTune yX5_canTune, Cond.code yX5_canTune cX5_canTune 3 (some .boolean), Cond.methodLink RX5 132 yX5_tuneSegment, Cond.instanceMethod yX5_tuneSegment, Cond.selects RX5 yX5_tuneSegment yX5_tuneSegment, Cond.code yX5_tuneSegment cX5_tuneSegment 11 none, Cond.methodLink RX5 124 yX5_yearsWith, Cond.instanceMethod yX5_yearsWith, Cond.selects RX5 yX5_yearsWith yX5_yearsWith, Cond.code yX5_yearsWith cX5_yearsWith 7 (some .long), Cond.methodLink RX5 96 yX5_size, Cond.static yX5_size]
def wsX5_run_r7 : List Cond := [Cond.code yX5_size cX5_size 2 (some .long), Cond.methodLink RX5 136 yX5_fits, Cond.instanceMethod yX5_fits, Cond.selects RX5 yX5_fits yX5_fits, Cond.code yX5_fits cX5_fits 3 (some .int), Cond.methodLink RX5 93 yX5_residualOf, Cond.instanceMethod yX5_residualOf, Cond.selects RX5 yX5_residualOf yX5_residualOf, Cond.code yX5_residualOf cX5_residualOf 2 (some .int), Cond.methodLink RX5 80 yX5_ageAtTop, Cond.instanceMethod yX5_ageAtTop, Cond.selects RX5 yX5_ageAtTop yX5_ageAtTop, Cond.code yX5_ageAtTop cX5_ageAtTop 4 (some .int)]
def wsX5_run : List Cond := .code yX5_run cX5_run 4 (some .int) :: ((wsX5_run_r1 ++ (wsX5_run_r2 ++ (wsX5_run_r3 ++ (wsX5_run_r4 ++ (wsX5_run_r5 ++ (wsX5_run_r6 ++ wsX5_run_r7)))))) ++ wsX50)
def wsX5_failure : List Cond := .code yX5_failure cX5_failure 1 (some .int) :: ([.fieldLink RX5 23 "IceCoreDaterModel" "failed" "I"] ++ wsX50)
def wsX5_layers : List Cond := .code yX5_layers cX5_layers 1 (some .int) :: ([.fieldLink RX5 7 "IceCoreDaterModel" "now" "[I"] ++ wsX50)
def wsX5_depth : List Cond := .code yX5_depth cX5_depth 1 (some .int) :: ([.methodLink RX5 101 yX5_bottom, .instanceMethod yX5_bottom, .selects RX5 yX5_bottom yX5_bottom, .initialized RX5, .code yX5_bottom cX5_bottom 1 (some .int), .fieldLink RX5 7 "IceCoreDaterModel" "now" "[I", .methodLink RX5 53 yX5_top, .instanceMethod yX5_top, .selects RX5 yX5_top yX5_top, .code yX5_top cX5_top 4 (some .int), .methodLink RX5 49 yX5_of, .instanceMethod yX5_of, .selects RX5 yX5_of yX5_of, .code yX5_of cX5_of 3 (some .int)] ++ wsX50)
def wsX5_told : List Cond := .code yX5_told cX5_told 3 (some .int) :: ([.constant RX5 114 (-1000000001), .methodLink RX5 110 yX5_isLayer, .instanceMethod yX5_isLayer, .selects RX5 yX5_isLayer yX5_isLayer, .initialized RX5, .code yX5_isLayer cX5_isLayer 2 (some .boolean), .fieldLink RX5 7 "IceCoreDaterModel" "now" "[I", .methodLink RX5 35 yX5_in, .static yX5_in, .code yX5_in cX5_in 3 (some .boolean), .methodLink RX5 49 yX5_of, .instanceMethod yX5_of, .selects RX5 yX5_of yX5_of, .code yX5_of cX5_of 3 (some .int)] ++ wsX50)
def wsX5_thickness : List Cond := .code yX5_thickness cX5_thickness 2 (some .int) :: ([.methodLink RX5 197 yX5_told, .instanceMethod yX5_told, .selects RX5 yX5_told yX5_told, .initialized RX5, .code yX5_told cX5_told 3 (some .int), .constant RX5 114 (-1000000001), .methodLink RX5 110 yX5_isLayer, .instanceMethod yX5_isLayer, .selects RX5 yX5_isLayer yX5_isLayer, .code yX5_isLayer cX5_isLayer 2 (some .boolean), .fieldLink RX5 7 "IceCoreDaterModel" "now" "[I", .methodLink RX5 35 yX5_in, .static yX5_in, .code yX5_in cX5_in 3 (some .boolean), .methodLink RX5 49 yX5_of, .instanceMethod yX5_of, .selects RX5 yX5_of yX5_of, .code yX5_of cX5_of 3 (some .int)] ++ wsX50)
def wsX5_accumulation : List Cond := .code yX5_accumulation cX5_accumulation 2 (some .int) :: ([.methodLink RX5 197 yX5_told, .instanceMethod yX5_told, .selects RX5 yX5_told yX5_told, .initialized RX5, .code yX5_told cX5_told 3 (some .int), .constant RX5 114 (-1000000001), .methodLink RX5 110 yX5_isLayer, .instanceMethod yX5_isLayer, .selects RX5 yX5_isLayer yX5_isLayer, .code yX5_isLayer cX5_isLayer 2 (some .boolean), .fieldLink RX5 7 "IceCoreDaterModel" "now" "[I", .methodLink RX5 35 yX5_in, .static yX5_in, .code yX5_in cX5_in 3 (some .boolean), .methodLink RX5 49 yX5_of, .instanceMethod yX5_of, .selects RX5 yX5_of yX5_of, .code yX5_of cX5_of 3 (some .int)] ++ wsX50)
def wsX5_correction : List Cond := .code yX5_correction cX5_correction 2 (some .int) :: ([.methodLink RX5 197 yX5_told, .instanceMethod yX5_told, .selects RX5 yX5_told yX5_told, .initialized RX5, .code yX5_told cX5_told 3 (some .int), .constant RX5 114 (-1000000001), .methodLink RX5 110 yX5_isLayer, .instanceMethod yX5_isLayer, .selects RX5 yX5_isLayer yX5_isLayer, .code yX5_isLayer cX5_isLayer 2 (some .boolean), .fieldLink RX5 7 "IceCoreDaterModel" "now" "[I", .methodLink RX5 35 yX5_in, .static yX5_in, .code yX5_in cX5_in 3 (some .boolean), .methodLink RX5 49 yX5_of, .instanceMethod yX5_of, .selects RX5 yX5_of yX5_of, .code yX5_of cX5_of 3 (some .int)] ++ wsX50)
def wsX5_thinning_r1 : List Cond := [Cond.constant RX5 114 (-1000000001), Cond.methodLink RX5 110 yX5_isLayer, Cond.instanceMethod yX5_isLayer, Cond.selects RX5 yX5_isLayer yX5_isLayer, Cond.initialized RX5, Cond.code yX5_isLayer cX5_isLayer 2 (some .boolean), Cond.fieldLink RX5 7 "IceCoreDaterModel" "now" "[I", Cond.methodLink RX5 35 yX5_in, Cond.static yX5_in, Cond.code yX5_in cX5_in 3 (some .boolean), Cond.methodLink RX5 65 yX5_thinningOf, Cond.instanceMethod yX5_thinningOf, Cond.selects RX5 yX5_thinningOf yX5_thinningOf, Cond.code yX5_thinningOf cX5_thinningOf 10 (some .int), Cond.constantLong RX5 57 (1000), Cond.constantLong RX5 59 (2), Cond.constantLong RX5 61 (10), Cond.methodLink RX5 49 yX5_of, Cond.instanceMethod yX5_of, Cond.selects RX5 yX5_of yX5_of, Cond.code yX5_of cX5_of 3 (some .int), Cond.methodLink RX5 53 yX5_top, Cond.instanceMethod yX5_top, Cond.selects RX5 yX5_top yX5_top]
def wsX5_thinning_r2 : List Cond := [Cond.code yX5_top cX5_top 4 (some .int)]
def wsX5_thinning : List Cond := .code yX5_thinning cX5_thinning 2 (some .int) :: ((wsX5_thinning_r1 ++ wsX5_thinning_r2) ++ wsX50)
def wsX5_years_r1 : List Cond := [Cond.constant RX5 114 (-1000000001), Cond.methodLink RX5 110 yX5_isLayer, Cond.instanceMethod yX5_isLayer, Cond.selects RX5 yX5_isLayer yX5_isLayer, Cond.initialized RX5, Cond.code yX5_isLayer cX5_isLayer 2 (some .boolean), Cond.fieldLink RX5 7 "IceCoreDaterModel" "now" "[I", Cond.methodLink RX5 35 yX5_in, Cond.static yX5_in, Cond.code yX5_in cX5_in 3 (some .boolean), Cond.methodLink RX5 72 yX5_yearsOf, Cond.instanceMethod yX5_yearsOf, Cond.selects RX5 yX5_yearsOf yX5_yearsOf, Cond.code yX5_yearsOf cX5_yearsOf 2 (some .int), Cond.methodLink RX5 49 yX5_of, Cond.instanceMethod yX5_of, Cond.selects RX5 yX5_of yX5_of, Cond.code yX5_of cX5_of 3 (some .int), Cond.methodLink RX5 65 yX5_thinningOf, Cond.instanceMethod yX5_thinningOf, Cond.selects RX5 yX5_thinningOf yX5_thinningOf, Cond.code yX5_thinningOf cX5_thinningOf 10 (some .int), Cond.constantLong RX5 57 (1000), Cond.constantLong RX5 59 (2)]
def wsX5_years_r2 : List Cond := [Cond.constantLong RX5 61 (10), Cond.methodLink RX5 53 yX5_top, Cond.instanceMethod yX5_top, Cond.selects RX5 yX5_top yX5_top, Cond.code yX5_top cX5_top 4 (some .int), Cond.methodLink RX5 68 yX5_yearsBy, Cond.static yX5_yearsBy, Cond.code yX5_yearsBy cX5_yearsBy 8 (some .int), Cond.constantLong RX5 63 (10000000)]
def wsX5_years : List Cond := .code yX5_years cX5_years 2 (some .int) :: ((wsX5_years_r1 ++ wsX5_years_r2) ++ wsX50)
def wsX5_delay : List Cond := .code yX5_delay cX5_delay 2 (some .int) :: ([.constant RX5 114 (-1000000001), .methodLink RX5 110 yX5_isLayer, .instanceMethod yX5_isLayer, .selects RX5 yX5_isLayer yX5_isLayer, .initialized RX5, .code yX5_isLayer cX5_isLayer 2 (some .boolean), .fieldLink RX5 7 "IceCoreDaterModel" "now" "[I", .methodLink RX5 35 yX5_in, .static yX5_in, .code yX5_in cX5_in 3 (some .boolean), .methodLink RX5 90 yX5_delayOf, .instanceMethod yX5_delayOf, .selects RX5 yX5_delayOf yX5_delayOf, .code yX5_delayOf cX5_delayOf 2 (some .int), .constantLong RX5 75 (10000), .methodLink RX5 49 yX5_of, .instanceMethod yX5_of, .selects RX5 yX5_of yX5_of, .code yX5_of cX5_of 3 (some .int)] ++ wsX50)
def wsX5_residual_r1 : List Cond := [Cond.constant RX5 114 (-1000000001), Cond.constant RX5 22 (-1000000005), Cond.methodLink RX5 110 yX5_isLayer, Cond.instanceMethod yX5_isLayer, Cond.selects RX5 yX5_isLayer yX5_isLayer, Cond.initialized RX5, Cond.code yX5_isLayer cX5_isLayer 2 (some .boolean), Cond.fieldLink RX5 7 "IceCoreDaterModel" "now" "[I", Cond.methodLink RX5 35 yX5_in, Cond.static yX5_in, Cond.code yX5_in cX5_in 3 (some .boolean), Cond.methodLink RX5 49 yX5_of, Cond.instanceMethod yX5_of, Cond.selects RX5 yX5_of yX5_of, Cond.code yX5_of cX5_of 3 (some .int), Cond.methodLink RX5 93 yX5_residualOf, Cond.instanceMethod yX5_residualOf, Cond.selects RX5 yX5_residualOf yX5_residualOf, Cond.code yX5_residualOf cX5_residualOf 2 (some .int), Cond.methodLink RX5 80 yX5_ageAtTop, Cond.instanceMethod yX5_ageAtTop, Cond.selects RX5 yX5_ageAtTop yX5_ageAtTop, Cond.code yX5_ageAtTop cX5_ageAtTop 4 (some .int), Cond.methodLink RX5 72 yX5_yearsOf]
def wsX5_residual_r2 : List Cond := [Cond.instanceMethod yX5_yearsOf, Cond.selects RX5 yX5_yearsOf yX5_yearsOf, Cond.code yX5_yearsOf cX5_yearsOf 2 (some .int), Cond.methodLink RX5 65 yX5_thinningOf, Cond.instanceMethod yX5_thinningOf, Cond.selects RX5 yX5_thinningOf yX5_thinningOf, Cond.code yX5_thinningOf cX5_thinningOf 10 (some .int), Cond.constantLong RX5 57 (1000), Cond.constantLong RX5 59 (2), Cond.constantLong RX5 61 (10), Cond.methodLink RX5 53 yX5_top, Cond.instanceMethod yX5_top, Cond.selects RX5 yX5_top yX5_top, Cond.code yX5_top cX5_top 4 (some .int), Cond.methodLink RX5 68 yX5_yearsBy, Cond.static yX5_yearsBy, Cond.code yX5_yearsBy cX5_yearsBy 8 (some .int), Cond.constantLong RX5 63 (10000000)]
def wsX5_residual : List Cond := .code yX5_residual cX5_residual 2 (some .int) :: ((wsX5_residual_r1 ++ wsX5_residual_r2) ++ wsX50)
def wsX5_countError_r1 : List Cond := [Cond.constant RX5 114 (-1000000001), Cond.constant RX5 22 (-1000000005), Cond.methodLink RX5 110 yX5_isLayer, Cond.instanceMethod yX5_isLayer, Cond.selects RX5 yX5_isLayer yX5_isLayer, Cond.initialized RX5, Cond.code yX5_isLayer cX5_isLayer 2 (some .boolean), Cond.fieldLink RX5 7 "IceCoreDaterModel" "now" "[I", Cond.methodLink RX5 35 yX5_in, Cond.static yX5_in, Cond.code yX5_in cX5_in 3 (some .boolean), Cond.methodLink RX5 49 yX5_of, Cond.instanceMethod yX5_of, Cond.selects RX5 yX5_of yX5_of, Cond.code yX5_of cX5_of 3 (some .int), Cond.methodLink RX5 72 yX5_yearsOf, Cond.instanceMethod yX5_yearsOf, Cond.selects RX5 yX5_yearsOf yX5_yearsOf, Cond.code yX5_yearsOf cX5_yearsOf 2 (some .int), Cond.methodLink RX5 65 yX5_thinningOf, Cond.instanceMethod yX5_thinningOf, Cond.selects RX5 yX5_thinningOf yX5_thinningOf, Cond.code yX5_thinningOf cX5_thinningOf 10 (some .int), Cond.constantLong RX5 57 (1000)]
def wsX5_countError_r2 : List Cond := [Cond.constantLong RX5 59 (2), Cond.constantLong RX5 61 (10), Cond.methodLink RX5 53 yX5_top, Cond.instanceMethod yX5_top, Cond.selects RX5 yX5_top yX5_top, Cond.code yX5_top cX5_top 4 (some .int), Cond.methodLink RX5 68 yX5_yearsBy, Cond.static yX5_yearsBy, Cond.code yX5_yearsBy cX5_yearsBy 8 (some .int), Cond.constantLong RX5 63 (10000000)]
def wsX5_countError : List Cond := .code yX5_countError cX5_countError 2 (some .int) :: ((wsX5_countError_r1 ++ wsX5_countError_r2) ++ wsX50)
def wsX5_fitting_r1 : List Cond := [Cond.methodLink RX5 136 yX5_fits, Cond.instanceMethod yX5_fits, Cond.selects RX5 yX5_fits yX5_fits, Cond.initialized RX5, Cond.code yX5_fits cX5_fits 3 (some .int), Cond.fieldLink RX5 7 "IceCoreDaterModel" "now" "[I", Cond.methodLink RX5 49 yX5_of, Cond.instanceMethod yX5_of, Cond.selects RX5 yX5_of yX5_of, Cond.code yX5_of cX5_of 3 (some .int), Cond.methodLink RX5 93 yX5_residualOf, Cond.instanceMethod yX5_residualOf, Cond.selects RX5 yX5_residualOf yX5_residualOf, Cond.code yX5_residualOf cX5_residualOf 2 (some .int), Cond.methodLink RX5 80 yX5_ageAtTop, Cond.instanceMethod yX5_ageAtTop, Cond.selects RX5 yX5_ageAtTop yX5_ageAtTop, Cond.code yX5_ageAtTop cX5_ageAtTop 4 (some .int), Cond.methodLink RX5 72 yX5_yearsOf, Cond.instanceMethod yX5_yearsOf, Cond.selects RX5 yX5_yearsOf yX5_yearsOf, Cond.code yX5_yearsOf cX5_yearsOf 2 (some .int), Cond.methodLink RX5 65 yX5_thinningOf, Cond.instanceMethod yX5_thinningOf]
def wsX5_fitting_r2 : List Cond := [Cond.selects RX5 yX5_thinningOf yX5_thinningOf, Cond.code yX5_thinningOf cX5_thinningOf 10 (some .int), Cond.constantLong RX5 57 (1000), Cond.constantLong RX5 59 (2), Cond.constantLong RX5 61 (10), Cond.methodLink RX5 53 yX5_top, Cond.instanceMethod yX5_top, Cond.selects RX5 yX5_top yX5_top, Cond.code yX5_top cX5_top 4 (some .int), Cond.methodLink RX5 68 yX5_yearsBy, Cond.static yX5_yearsBy, Cond.code yX5_yearsBy cX5_yearsBy 8 (some .int), Cond.constantLong RX5 63 (10000000), Cond.methodLink RX5 96 yX5_size, Cond.static yX5_size, Cond.code yX5_size cX5_size 2 (some .long)]
def wsX5_fitting : List Cond := .code yX5_fitting cX5_fitting 1 (some .int) :: ((wsX5_fitting_r1 ++ wsX5_fitting_r2) ++ wsX50)
def wsX5_depthRefused : List Cond := .code yX5_depthRefused cX5_depthRefused 2 (some .int) :: ([.constant RX5 100 (-1000000002), .fieldLink RX5 7 "IceCoreDaterModel" "now" "[I", .constant RX5 105 (-1000000003), .methodLink RX5 101 yX5_bottom, .instanceMethod yX5_bottom, .selects RX5 yX5_bottom yX5_bottom, .initialized RX5, .code yX5_bottom cX5_bottom 1 (some .int), .methodLink RX5 53 yX5_top, .instanceMethod yX5_top, .selects RX5 yX5_top yX5_top, .code yX5_top cX5_top 4 (some .int), .methodLink RX5 49 yX5_of, .instanceMethod yX5_of, .selects RX5 yX5_of yX5_of, .code yX5_of cX5_of 3 (some .int), .methodLink RX5 35 yX5_in, .static yX5_in, .code yX5_in cX5_in 3 (some .boolean)] ++ wsX50)
def wsX5_age_r1 : List Cond := [Cond.methodLink RX5 200 yX5_depthRefused, Cond.instanceMethod yX5_depthRefused, Cond.selects RX5 yX5_depthRefused yX5_depthRefused, Cond.initialized RX5, Cond.code yX5_depthRefused cX5_depthRefused 2 (some .int), Cond.constant RX5 100 (-1000000002), Cond.fieldLink RX5 7 "IceCoreDaterModel" "now" "[I", Cond.constant RX5 105 (-1000000003), Cond.methodLink RX5 101 yX5_bottom, Cond.instanceMethod yX5_bottom, Cond.selects RX5 yX5_bottom yX5_bottom, Cond.code yX5_bottom cX5_bottom 1 (some .int), Cond.methodLink RX5 53 yX5_top, Cond.instanceMethod yX5_top, Cond.selects RX5 yX5_top yX5_top, Cond.code yX5_top cX5_top 4 (some .int), Cond.methodLink RX5 49 yX5_of, Cond.instanceMethod yX5_of, Cond.selects RX5 yX5_of yX5_of, Cond.code yX5_of cX5_of 3 (some .int), Cond.methodLink RX5 35 yX5_in, Cond.static yX5_in, Cond.code yX5_in cX5_in 3 (some .boolean), Cond.methodLink RX5 87 yX5_ageAt]
def wsX5_age_r2 : List Cond := [Cond.instanceMethod yX5_ageAt, Cond.selects RX5 yX5_ageAt yX5_ageAt, Cond.code yX5_ageAt cX5_ageAt 3 (some .int), Cond.methodLink RX5 77 yX5_layerAt, Cond.instanceMethod yX5_layerAt, Cond.selects RX5 yX5_layerAt yX5_layerAt, Cond.code yX5_layerAt cX5_layerAt 3 (some .int), Cond.methodLink RX5 80 yX5_ageAtTop, Cond.instanceMethod yX5_ageAtTop, Cond.selects RX5 yX5_ageAtTop yX5_ageAtTop, Cond.code yX5_ageAtTop cX5_ageAtTop 4 (some .int), Cond.methodLink RX5 72 yX5_yearsOf, Cond.instanceMethod yX5_yearsOf, Cond.selects RX5 yX5_yearsOf yX5_yearsOf, Cond.code yX5_yearsOf cX5_yearsOf 2 (some .int), Cond.methodLink RX5 65 yX5_thinningOf, Cond.instanceMethod yX5_thinningOf, Cond.selects RX5 yX5_thinningOf yX5_thinningOf, Cond.code yX5_thinningOf cX5_thinningOf 10 (some .int), Cond.constantLong RX5 57 (1000), Cond.constantLong RX5 59 (2), Cond.constantLong RX5 61 (10), Cond.methodLink RX5 68 yX5_yearsBy, Cond.static yX5_yearsBy]
def wsX5_age_r3 : List Cond := [Cond.code yX5_yearsBy cX5_yearsBy 8 (some .int), Cond.constantLong RX5 63 (10000000), Cond.methodLink RX5 83 yX5_part, Cond.static yX5_part, Cond.code yX5_part cX5_part 3 (some .int)]
def wsX5_age : List Cond := .code yX5_age cX5_age 3 (some .int) :: ((wsX5_age_r1 ++ (wsX5_age_r2 ++ wsX5_age_r3)) ++ wsX50)
def wsX5_gasAge_r1 : List Cond := [Cond.methodLink RX5 200 yX5_depthRefused, Cond.instanceMethod yX5_depthRefused, Cond.selects RX5 yX5_depthRefused yX5_depthRefused, Cond.initialized RX5, Cond.code yX5_depthRefused cX5_depthRefused 2 (some .int), Cond.constant RX5 100 (-1000000002), Cond.fieldLink RX5 7 "IceCoreDaterModel" "now" "[I", Cond.constant RX5 105 (-1000000003), Cond.methodLink RX5 101 yX5_bottom, Cond.instanceMethod yX5_bottom, Cond.selects RX5 yX5_bottom yX5_bottom, Cond.code yX5_bottom cX5_bottom 1 (some .int), Cond.methodLink RX5 53 yX5_top, Cond.instanceMethod yX5_top, Cond.selects RX5 yX5_top yX5_top, Cond.code yX5_top cX5_top 4 (some .int), Cond.methodLink RX5 49 yX5_of, Cond.instanceMethod yX5_of, Cond.selects RX5 yX5_of yX5_of, Cond.code yX5_of cX5_of 3 (some .int), Cond.methodLink RX5 35 yX5_in, Cond.static yX5_in, Cond.code yX5_in cX5_in 3 (some .boolean), Cond.methodLink RX5 203 yX5_gasAgeAt]
def wsX5_gasAge_r2 : List Cond := [Cond.instanceMethod yX5_gasAgeAt, Cond.selects RX5 yX5_gasAgeAt yX5_gasAgeAt, Cond.code yX5_gasAgeAt cX5_gasAgeAt 3 (some .int), Cond.methodLink RX5 87 yX5_ageAt, Cond.instanceMethod yX5_ageAt, Cond.selects RX5 yX5_ageAt yX5_ageAt, Cond.code yX5_ageAt cX5_ageAt 3 (some .int), Cond.methodLink RX5 77 yX5_layerAt, Cond.instanceMethod yX5_layerAt, Cond.selects RX5 yX5_layerAt yX5_layerAt, Cond.code yX5_layerAt cX5_layerAt 3 (some .int), Cond.methodLink RX5 80 yX5_ageAtTop, Cond.instanceMethod yX5_ageAtTop, Cond.selects RX5 yX5_ageAtTop yX5_ageAtTop, Cond.code yX5_ageAtTop cX5_ageAtTop 4 (some .int), Cond.methodLink RX5 72 yX5_yearsOf, Cond.instanceMethod yX5_yearsOf, Cond.selects RX5 yX5_yearsOf yX5_yearsOf, Cond.code yX5_yearsOf cX5_yearsOf 2 (some .int), Cond.methodLink RX5 65 yX5_thinningOf, Cond.instanceMethod yX5_thinningOf, Cond.selects RX5 yX5_thinningOf yX5_thinningOf, Cond.code yX5_thinningOf cX5_thinningOf 10 (some .int), Cond.constantLong RX5 57 (1000)]
def wsX5_gasAge_r3 : List Cond := [Cond.constantLong RX5 59 (2), Cond.constantLong RX5 61 (10), Cond.methodLink RX5 68 yX5_yearsBy, Cond.static yX5_yearsBy, Cond.code yX5_yearsBy cX5_yearsBy 8 (some .int), Cond.constantLong RX5 63 (10000000), Cond.methodLink RX5 83 yX5_part, Cond.static yX5_part, Cond.code yX5_part cX5_part 3 (some .int), Cond.methodLink RX5 90 yX5_delayOf, Cond.instanceMethod yX5_delayOf, Cond.selects RX5 yX5_delayOf yX5_delayOf, Cond.code yX5_delayOf cX5_delayOf 2 (some .int), Cond.constantLong RX5 75 (10000)]
def wsX5_gasAge : List Cond := .code yX5_gasAge cX5_gasAge 3 (some .int) :: ((wsX5_gasAge_r1 ++ (wsX5_gasAge_r2 ++ wsX5_gasAge_r3)) ++ wsX50)
def wsX5_leastDepth_r1 : List Cond := [Cond.fieldLink RX5 7 "IceCoreDaterModel" "now" "[I", Cond.constant RX5 22 (-1000000005), Cond.methodLink RX5 72 yX5_yearsOf, Cond.instanceMethod yX5_yearsOf, Cond.selects RX5 yX5_yearsOf yX5_yearsOf, Cond.initialized RX5, Cond.code yX5_yearsOf cX5_yearsOf 2 (some .int), Cond.methodLink RX5 49 yX5_of, Cond.instanceMethod yX5_of, Cond.selects RX5 yX5_of yX5_of, Cond.code yX5_of cX5_of 3 (some .int), Cond.methodLink RX5 65 yX5_thinningOf, Cond.instanceMethod yX5_thinningOf, Cond.selects RX5 yX5_thinningOf yX5_thinningOf, Cond.code yX5_thinningOf cX5_thinningOf 10 (some .int), Cond.constantLong RX5 57 (1000), Cond.constantLong RX5 59 (2), Cond.constantLong RX5 61 (10), Cond.methodLink RX5 53 yX5_top, Cond.instanceMethod yX5_top, Cond.selects RX5 yX5_top yX5_top, Cond.code yX5_top cX5_top 4 (some .int), Cond.methodLink RX5 68 yX5_yearsBy, Cond.static yX5_yearsBy]
def wsX5_leastDepth_r2 : List Cond := [Cond.code yX5_yearsBy cX5_yearsBy 8 (some .int), Cond.constantLong RX5 63 (10000000), Cond.methodLink RX5 90 yX5_delayOf, Cond.instanceMethod yX5_delayOf, Cond.selects RX5 yX5_delayOf yX5_delayOf, Cond.code yX5_delayOf cX5_delayOf 2 (some .int), Cond.constantLong RX5 75 (10000), Cond.methodLink RX5 83 yX5_part, Cond.static yX5_part, Cond.code yX5_part cX5_part 3 (some .int)]
def wsX5_leastDepth : List Cond := .code yX5_leastDepth cX5_leastDepth 11 (some .int) :: ((wsX5_leastDepth_r1 ++ wsX5_leastDepth_r2) ++ wsX50)
def wsX5_depthOf_r1 : List Cond := [Cond.constant RX5 100 (-1000000002), Cond.methodLink RX5 206 yX5_leastDepth, Cond.instanceMethod yX5_leastDepth, Cond.selects RX5 yX5_leastDepth yX5_leastDepth, Cond.initialized RX5, Cond.code yX5_leastDepth cX5_leastDepth 11 (some .int), Cond.fieldLink RX5 7 "IceCoreDaterModel" "now" "[I", Cond.constant RX5 22 (-1000000005), Cond.methodLink RX5 72 yX5_yearsOf, Cond.instanceMethod yX5_yearsOf, Cond.selects RX5 yX5_yearsOf yX5_yearsOf, Cond.code yX5_yearsOf cX5_yearsOf 2 (some .int), Cond.methodLink RX5 49 yX5_of, Cond.instanceMethod yX5_of, Cond.selects RX5 yX5_of yX5_of, Cond.code yX5_of cX5_of 3 (some .int), Cond.methodLink RX5 65 yX5_thinningOf, Cond.instanceMethod yX5_thinningOf, Cond.selects RX5 yX5_thinningOf yX5_thinningOf, Cond.code yX5_thinningOf cX5_thinningOf 10 (some .int), Cond.constantLong RX5 57 (1000), Cond.constantLong RX5 59 (2), Cond.constantLong RX5 61 (10), Cond.methodLink RX5 53 yX5_top]
def wsX5_depthOf_r2 : List Cond := [Cond.instanceMethod yX5_top, Cond.selects RX5 yX5_top yX5_top, Cond.code yX5_top cX5_top 4 (some .int), Cond.methodLink RX5 68 yX5_yearsBy, Cond.static yX5_yearsBy, Cond.code yX5_yearsBy cX5_yearsBy 8 (some .int), Cond.constantLong RX5 63 (10000000), Cond.methodLink RX5 90 yX5_delayOf, Cond.instanceMethod yX5_delayOf, Cond.selects RX5 yX5_delayOf yX5_delayOf, Cond.code yX5_delayOf cX5_delayOf 2 (some .int), Cond.constantLong RX5 75 (10000), Cond.methodLink RX5 83 yX5_part, Cond.static yX5_part, Cond.code yX5_part cX5_part 3 (some .int)]
def wsX5_depthOf : List Cond := .code yX5_depthOf cX5_depthOf 2 (some .int) :: ((wsX5_depthOf_r1 ++ wsX5_depthOf_r2) ++ wsX50)
def wsX5_gasDepthOf_r1 : List Cond := [Cond.constant RX5 100 (-1000000002), Cond.methodLink RX5 206 yX5_leastDepth, Cond.instanceMethod yX5_leastDepth, Cond.selects RX5 yX5_leastDepth yX5_leastDepth, Cond.initialized RX5, Cond.code yX5_leastDepth cX5_leastDepth 11 (some .int), Cond.fieldLink RX5 7 "IceCoreDaterModel" "now" "[I", Cond.constant RX5 22 (-1000000005), Cond.methodLink RX5 72 yX5_yearsOf, Cond.instanceMethod yX5_yearsOf, Cond.selects RX5 yX5_yearsOf yX5_yearsOf, Cond.code yX5_yearsOf cX5_yearsOf 2 (some .int), Cond.methodLink RX5 49 yX5_of, Cond.instanceMethod yX5_of, Cond.selects RX5 yX5_of yX5_of, Cond.code yX5_of cX5_of 3 (some .int), Cond.methodLink RX5 65 yX5_thinningOf, Cond.instanceMethod yX5_thinningOf, Cond.selects RX5 yX5_thinningOf yX5_thinningOf, Cond.code yX5_thinningOf cX5_thinningOf 10 (some .int), Cond.constantLong RX5 57 (1000), Cond.constantLong RX5 59 (2), Cond.constantLong RX5 61 (10), Cond.methodLink RX5 53 yX5_top]
def wsX5_gasDepthOf_r2 : List Cond := [Cond.instanceMethod yX5_top, Cond.selects RX5 yX5_top yX5_top, Cond.code yX5_top cX5_top 4 (some .int), Cond.methodLink RX5 68 yX5_yearsBy, Cond.static yX5_yearsBy, Cond.code yX5_yearsBy cX5_yearsBy 8 (some .int), Cond.constantLong RX5 63 (10000000), Cond.methodLink RX5 90 yX5_delayOf, Cond.instanceMethod yX5_delayOf, Cond.selects RX5 yX5_delayOf yX5_delayOf, Cond.code yX5_delayOf cX5_delayOf 2 (some .int), Cond.constantLong RX5 75 (10000), Cond.methodLink RX5 83 yX5_part, Cond.static yX5_part, Cond.code yX5_part cX5_part 3 (some .int)]
def wsX5_gasDepthOf : List Cond := .code yX5_gasDepthOf cX5_gasDepthOf 2 (some .int) :: ((wsX5_gasDepthOf_r1 ++ wsX5_gasDepthOf_r2) ++ wsX50)
def wsX5_lead_r1 : List Cond := [Cond.constant RX5 100 (-1000000002), Cond.methodLink RX5 101 yX5_bottom, Cond.instanceMethod yX5_bottom, Cond.selects RX5 yX5_bottom yX5_bottom, Cond.initialized RX5, Cond.code yX5_bottom cX5_bottom 1 (some .int), Cond.fieldLink RX5 7 "IceCoreDaterModel" "now" "[I", Cond.methodLink RX5 53 yX5_top, Cond.instanceMethod yX5_top, Cond.selects RX5 yX5_top yX5_top, Cond.code yX5_top cX5_top 4 (some .int), Cond.methodLink RX5 49 yX5_of, Cond.instanceMethod yX5_of, Cond.selects RX5 yX5_of yX5_of, Cond.code yX5_of cX5_of 3 (some .int), Cond.methodLink RX5 35 yX5_in, Cond.static yX5_in, Cond.code yX5_in cX5_in 3 (some .boolean), Cond.methodLink RX5 200 yX5_depthRefused, Cond.instanceMethod yX5_depthRefused, Cond.selects RX5 yX5_depthRefused yX5_depthRefused, Cond.code yX5_depthRefused cX5_depthRefused 2 (some .int), Cond.constant RX5 105 (-1000000003), Cond.methodLink RX5 87 yX5_ageAt]
def wsX5_lead_r2 : List Cond := [Cond.instanceMethod yX5_ageAt, Cond.selects RX5 yX5_ageAt yX5_ageAt, Cond.code yX5_ageAt cX5_ageAt 3 (some .int), Cond.methodLink RX5 77 yX5_layerAt, Cond.instanceMethod yX5_layerAt, Cond.selects RX5 yX5_layerAt yX5_layerAt, Cond.code yX5_layerAt cX5_layerAt 3 (some .int), Cond.methodLink RX5 80 yX5_ageAtTop, Cond.instanceMethod yX5_ageAtTop, Cond.selects RX5 yX5_ageAtTop yX5_ageAtTop, Cond.code yX5_ageAtTop cX5_ageAtTop 4 (some .int), Cond.methodLink RX5 72 yX5_yearsOf, Cond.instanceMethod yX5_yearsOf, Cond.selects RX5 yX5_yearsOf yX5_yearsOf, Cond.code yX5_yearsOf cX5_yearsOf 2 (some .int), Cond.methodLink RX5 65 yX5_thinningOf, Cond.instanceMethod yX5_thinningOf, Cond.selects RX5 yX5_thinningOf yX5_thinningOf, Cond.code yX5_thinningOf cX5_thinningOf 10 (some .int), Cond.constantLong RX5 57 (1000), Cond.constantLong RX5 59 (2), Cond.constantLong RX5 61 (10), Cond.methodLink RX5 68 yX5_yearsBy, Cond.static yX5_yearsBy]
def wsX5_lead_r3 : List Cond := [Cond.code yX5_yearsBy cX5_yearsBy 8 (some .int), Cond.constantLong RX5 63 (10000000), Cond.methodLink RX5 83 yX5_part, Cond.static yX5_part, Cond.code yX5_part cX5_part 3 (some .int), Cond.methodLink RX5 203 yX5_gasAgeAt, Cond.instanceMethod yX5_gasAgeAt, Cond.selects RX5 yX5_gasAgeAt yX5_gasAgeAt, Cond.code yX5_gasAgeAt cX5_gasAgeAt 3 (some .int), Cond.methodLink RX5 90 yX5_delayOf, Cond.instanceMethod yX5_delayOf, Cond.selects RX5 yX5_delayOf yX5_delayOf, Cond.code yX5_delayOf cX5_delayOf 2 (some .int), Cond.constantLong RX5 75 (10000)]
def wsX5_lead : List Cond := .code yX5_lead cX5_lead 4 (some .int) :: ((wsX5_lead_r1 ++ (wsX5_lead_r2 ++ wsX5_lead_r3)) ++ wsX50)
def wsX5_inversions_r1 : List Cond := [Cond.fieldLink RX5 7 "IceCoreDaterModel" "now" "[I", Cond.methodLink RX5 53 yX5_top, Cond.instanceMethod yX5_top, Cond.selects RX5 yX5_top yX5_top, Cond.initialized RX5, Cond.code yX5_top cX5_top 4 (some .int), Cond.methodLink RX5 49 yX5_of, Cond.instanceMethod yX5_of, Cond.selects RX5 yX5_of yX5_of, Cond.code yX5_of cX5_of 3 (some .int), Cond.methodLink RX5 203 yX5_gasAgeAt, Cond.instanceMethod yX5_gasAgeAt, Cond.selects RX5 yX5_gasAgeAt yX5_gasAgeAt, Cond.code yX5_gasAgeAt cX5_gasAgeAt 3 (some .int), Cond.methodLink RX5 87 yX5_ageAt, Cond.instanceMethod yX5_ageAt, Cond.selects RX5 yX5_ageAt yX5_ageAt, Cond.code yX5_ageAt cX5_ageAt 3 (some .int), Cond.methodLink RX5 77 yX5_layerAt, Cond.instanceMethod yX5_layerAt, Cond.selects RX5 yX5_layerAt yX5_layerAt, Cond.code yX5_layerAt cX5_layerAt 3 (some .int), Cond.methodLink RX5 80 yX5_ageAtTop, Cond.instanceMethod yX5_ageAtTop]
def wsX5_inversions_r2 : List Cond := [Cond.selects RX5 yX5_ageAtTop yX5_ageAtTop, Cond.code yX5_ageAtTop cX5_ageAtTop 4 (some .int), Cond.methodLink RX5 72 yX5_yearsOf, Cond.instanceMethod yX5_yearsOf, Cond.selects RX5 yX5_yearsOf yX5_yearsOf, Cond.code yX5_yearsOf cX5_yearsOf 2 (some .int), Cond.methodLink RX5 65 yX5_thinningOf, Cond.instanceMethod yX5_thinningOf, Cond.selects RX5 yX5_thinningOf yX5_thinningOf, Cond.code yX5_thinningOf cX5_thinningOf 10 (some .int), Cond.constantLong RX5 57 (1000), Cond.constantLong RX5 59 (2), Cond.constantLong RX5 61 (10), Cond.methodLink RX5 68 yX5_yearsBy, Cond.static yX5_yearsBy, Cond.code yX5_yearsBy cX5_yearsBy 8 (some .int), Cond.constantLong RX5 63 (10000000), Cond.methodLink RX5 83 yX5_part, Cond.static yX5_part, Cond.code yX5_part cX5_part 3 (some .int), Cond.methodLink RX5 90 yX5_delayOf, Cond.instanceMethod yX5_delayOf, Cond.selects RX5 yX5_delayOf yX5_delayOf, Cond.code yX5_delayOf cX5_delayOf 2 (some .int)]
def wsX5_inversions_r3 : List Cond := [Cond.constantLong RX5 75 (10000)]
def wsX5_inversions : List Cond := .code yX5_inversions cX5_inversions 4 (some .int) :: ((wsX5_inversions_r1 ++ (wsX5_inversions_r2 ++ wsX5_inversions_r3)) ++ wsX50)
def wsX5_acts : List Cond := .code yX5_acts cX5_acts 1 (some .int) :: ([.fieldLink RX5 43 "IceCoreDaterModel" "acts" "I"] ++ wsX50)
def wsX5_seal_r1 : List Cond := [Cond.fieldLink RX5 7 "IceCoreDaterModel" "now" "[I", Cond.constant RX5 210 (65535), Cond.constant RX5 211 (65536), Cond.methodLink RX5 80 yX5_ageAtTop, Cond.instanceMethod yX5_ageAtTop, Cond.selects RX5 yX5_ageAtTop yX5_ageAtTop, Cond.initialized RX5, Cond.code yX5_ageAtTop cX5_ageAtTop 4 (some .int), Cond.methodLink RX5 72 yX5_yearsOf, Cond.instanceMethod yX5_yearsOf, Cond.selects RX5 yX5_yearsOf yX5_yearsOf, Cond.code yX5_yearsOf cX5_yearsOf 2 (some .int), Cond.methodLink RX5 49 yX5_of, Cond.instanceMethod yX5_of, Cond.selects RX5 yX5_of yX5_of, Cond.code yX5_of cX5_of 3 (some .int), Cond.methodLink RX5 65 yX5_thinningOf, Cond.instanceMethod yX5_thinningOf, Cond.selects RX5 yX5_thinningOf yX5_thinningOf, Cond.code yX5_thinningOf cX5_thinningOf 10 (some .int), Cond.constantLong RX5 57 (1000), Cond.constantLong RX5 59 (2), Cond.constantLong RX5 61 (10), Cond.methodLink RX5 53 yX5_top]
def wsX5_seal_r2 : List Cond := [Cond.instanceMethod yX5_top, Cond.selects RX5 yX5_top yX5_top, Cond.code yX5_top cX5_top 4 (some .int), Cond.methodLink RX5 68 yX5_yearsBy, Cond.static yX5_yearsBy, Cond.code yX5_yearsBy cX5_yearsBy 8 (some .int), Cond.constantLong RX5 63 (10000000)]
def wsX5_seal : List Cond := .code yX5_seal cX5_seal 3 (some .int) :: ((wsX5_seal_r1 ++ wsX5_seal_r2) ++ wsX50)
def wsX5_residuals_r1 : List Cond := [Cond.fieldLink RX5 7 "IceCoreDaterModel" "now" "[I", Cond.methodLink RX5 49 yX5_of, Cond.instanceMethod yX5_of, Cond.selects RX5 yX5_of yX5_of, Cond.initialized RX5, Cond.code yX5_of cX5_of 3 (some .int), Cond.methodLink RX5 93 yX5_residualOf, Cond.instanceMethod yX5_residualOf, Cond.selects RX5 yX5_residualOf yX5_residualOf, Cond.code yX5_residualOf cX5_residualOf 2 (some .int), Cond.methodLink RX5 80 yX5_ageAtTop, Cond.instanceMethod yX5_ageAtTop, Cond.selects RX5 yX5_ageAtTop yX5_ageAtTop, Cond.code yX5_ageAtTop cX5_ageAtTop 4 (some .int), Cond.methodLink RX5 72 yX5_yearsOf, Cond.instanceMethod yX5_yearsOf, Cond.selects RX5 yX5_yearsOf yX5_yearsOf, Cond.code yX5_yearsOf cX5_yearsOf 2 (some .int), Cond.methodLink RX5 65 yX5_thinningOf, Cond.instanceMethod yX5_thinningOf, Cond.selects RX5 yX5_thinningOf yX5_thinningOf, Cond.code yX5_thinningOf cX5_thinningOf 10 (some .int), Cond.constantLong RX5 57 (1000), Cond.constantLong RX5 59 (2)]
def wsX5_residuals_r2 : List Cond := [Cond.constantLong RX5 61 (10), Cond.methodLink RX5 53 yX5_top, Cond.instanceMethod yX5_top, Cond.selects RX5 yX5_top yX5_top, Cond.code yX5_top cX5_top 4 (some .int), Cond.methodLink RX5 68 yX5_yearsBy, Cond.static yX5_yearsBy, Cond.code yX5_yearsBy cX5_yearsBy 8 (some .int), Cond.constantLong RX5 63 (10000000), Cond.methodLink RX5 96 yX5_size, Cond.static yX5_size, Cond.code yX5_size cX5_size 2 (some .long)]
def wsX5_residuals : List Cond := .code yX5_residuals cX5_residuals 4 (some .long) :: ((wsX5_residuals_r1 ++ wsX5_residuals_r2) ++ wsX50)
def wsX5_bestFunction_r1 : List Cond := [Cond.constant RX5 22 (-1000000005), Cond.fieldLink RX5 7 "IceCoreDaterModel" "now" "[I", Cond.methodLink RX5 120 yX5_ashes, Cond.instanceMethod yX5_ashes, Cond.selects RX5 yX5_ashes yX5_ashes, Cond.initialized RX5, Cond.code yX5_ashes cX5_ashes 3 (some .int), Cond.methodLink RX5 49 yX5_of, Cond.instanceMethod yX5_of, Cond.selects RX5 yX5_of yX5_of, Cond.code yX5_of cX5_of 3 (some .int), Cond.methodLink RX5 212 yX5_residuals, Cond.instanceMethod yX5_residuals, Cond.selects RX5 yX5_residuals yX5_residuals, Cond.code yX5_residuals cX5_residuals 4 (some .long), Cond.methodLink RX5 93 yX5_residualOf, Cond.instanceMethod yX5_residualOf, Cond.selects RX5 yX5_residualOf yX5_residualOf, Cond.code yX5_residualOf cX5_residualOf 2 (some .int), Cond.methodLink RX5 80 yX5_ageAtTop, Cond.instanceMethod yX5_ageAtTop, Cond.selects RX5 yX5_ageAtTop yX5_ageAtTop, Cond.code yX5_ageAtTop cX5_ageAtTop 4 (some .int), Cond.methodLink RX5 72 yX5_yearsOf]
def wsX5_bestFunction_r2 : List Cond := [Cond.instanceMethod yX5_yearsOf, Cond.selects RX5 yX5_yearsOf yX5_yearsOf, Cond.code yX5_yearsOf cX5_yearsOf 2 (some .int), Cond.methodLink RX5 65 yX5_thinningOf, Cond.instanceMethod yX5_thinningOf, Cond.selects RX5 yX5_thinningOf yX5_thinningOf, Cond.code yX5_thinningOf cX5_thinningOf 10 (some .int), Cond.constantLong RX5 57 (1000), Cond.constantLong RX5 59 (2), Cond.constantLong RX5 61 (10), Cond.methodLink RX5 53 yX5_top, Cond.instanceMethod yX5_top, Cond.selects RX5 yX5_top yX5_top, Cond.code yX5_top cX5_top 4 (some .int), Cond.methodLink RX5 68 yX5_yearsBy, Cond.static yX5_yearsBy, Cond.code yX5_yearsBy cX5_yearsBy 8 (some .int), Cond.constantLong RX5 63 (10000000), Cond.methodLink RX5 96 yX5_size, Cond.static yX5_size, Cond.code yX5_size cX5_size 2 (some .long)]
def wsX5_bestFunction : List Cond := .code yX5_bestFunction cX5_bestFunction 8 (some .int) :: ((wsX5_bestFunction_r1 ++ wsX5_bestFunction_r2) ++ wsX50)
def wsX5_bestKink_r1 : List Cond := [Cond.constant RX5 22 (-1000000005), Cond.fieldLink RX5 7 "IceCoreDaterModel" "now" "[I", Cond.methodLink RX5 120 yX5_ashes, Cond.instanceMethod yX5_ashes, Cond.selects RX5 yX5_ashes yX5_ashes, Cond.initialized RX5, Cond.code yX5_ashes cX5_ashes 3 (some .int), Cond.methodLink RX5 49 yX5_of, Cond.instanceMethod yX5_of, Cond.selects RX5 yX5_of yX5_of, Cond.code yX5_of cX5_of 3 (some .int), Cond.methodLink RX5 212 yX5_residuals, Cond.instanceMethod yX5_residuals, Cond.selects RX5 yX5_residuals yX5_residuals, Cond.code yX5_residuals cX5_residuals 4 (some .long), Cond.methodLink RX5 93 yX5_residualOf, Cond.instanceMethod yX5_residualOf, Cond.selects RX5 yX5_residualOf yX5_residualOf, Cond.code yX5_residualOf cX5_residualOf 2 (some .int), Cond.methodLink RX5 80 yX5_ageAtTop, Cond.instanceMethod yX5_ageAtTop, Cond.selects RX5 yX5_ageAtTop yX5_ageAtTop, Cond.code yX5_ageAtTop cX5_ageAtTop 4 (some .int), Cond.methodLink RX5 72 yX5_yearsOf]
def wsX5_bestKink_r2 : List Cond := [Cond.instanceMethod yX5_yearsOf, Cond.selects RX5 yX5_yearsOf yX5_yearsOf, Cond.code yX5_yearsOf cX5_yearsOf 2 (some .int), Cond.methodLink RX5 65 yX5_thinningOf, Cond.instanceMethod yX5_thinningOf, Cond.selects RX5 yX5_thinningOf yX5_thinningOf, Cond.code yX5_thinningOf cX5_thinningOf 10 (some .int), Cond.constantLong RX5 57 (1000), Cond.constantLong RX5 59 (2), Cond.constantLong RX5 61 (10), Cond.methodLink RX5 53 yX5_top, Cond.instanceMethod yX5_top, Cond.selects RX5 yX5_top yX5_top, Cond.code yX5_top cX5_top 4 (some .int), Cond.methodLink RX5 68 yX5_yearsBy, Cond.static yX5_yearsBy, Cond.code yX5_yearsBy cX5_yearsBy 8 (some .int), Cond.constantLong RX5 63 (10000000), Cond.methodLink RX5 96 yX5_size, Cond.static yX5_size, Cond.code yX5_size cX5_size 2 (some .long)]
def wsX5_bestKink : List Cond := .code yX5_bestKink cX5_bestKink 9 (some .int) :: ((wsX5_bestKink_r1 ++ wsX5_bestKink_r2) ++ wsX50)
def wsX5_neededAccumulation_r1 : List Cond := [Cond.constant RX5 114 (-1000000001), Cond.constant RX5 22 (-1000000005), Cond.methodLink RX5 110 yX5_isLayer, Cond.instanceMethod yX5_isLayer, Cond.selects RX5 yX5_isLayer yX5_isLayer, Cond.initialized RX5, Cond.code yX5_isLayer cX5_isLayer 2 (some .boolean), Cond.fieldLink RX5 7 "IceCoreDaterModel" "now" "[I", Cond.methodLink RX5 35 yX5_in, Cond.static yX5_in, Cond.code yX5_in cX5_in 3 (some .boolean), Cond.methodLink RX5 49 yX5_of, Cond.instanceMethod yX5_of, Cond.selects RX5 yX5_of yX5_of, Cond.code yX5_of cX5_of 3 (some .int), Cond.methodLink RX5 65 yX5_thinningOf, Cond.instanceMethod yX5_thinningOf, Cond.selects RX5 yX5_thinningOf yX5_thinningOf, Cond.code yX5_thinningOf cX5_thinningOf 10 (some .int), Cond.constantLong RX5 57 (1000), Cond.constantLong RX5 59 (2), Cond.constantLong RX5 61 (10), Cond.methodLink RX5 53 yX5_top, Cond.instanceMethod yX5_top]
def wsX5_neededAccumulation_r2 : List Cond := [Cond.selects RX5 yX5_top yX5_top, Cond.code yX5_top cX5_top 4 (some .int), Cond.methodLink RX5 68 yX5_yearsBy, Cond.static yX5_yearsBy, Cond.code yX5_yearsBy cX5_yearsBy 8 (some .int), Cond.constantLong RX5 63 (10000000), Cond.methodLink RX5 96 yX5_size, Cond.static yX5_size, Cond.code yX5_size cX5_size 2 (some .long)]
def wsX5_neededAccumulation : List Cond := .code yX5_neededAccumulation cX5_neededAccumulation 10 (some .int) :: ((wsX5_neededAccumulation_r1 ++ wsX5_neededAccumulation_r2) ++ wsX50)
def wsJ9_abs_0f7a4 : List Cond := .code yJ9_abs_0f7a4 cJ9_abs_0f7a4 1 (some .int) :: ([])
def wsJ9_max_7cf53 : List Cond := .code yJ9_max_7cf53 cJ9_max_7cf53 2 (some .int) :: ([])
def wsJ9_max_f86c9 : List Cond := .code yJ9_max_f86c9 cJ9_max_f86c9 4 (some .long) :: ([])
def wsL_law_r1 : List Cond := [Cond.classLink RL 7 RX4, Cond.instantiable RX4 6, Cond.initialized RX4, Cond.classLink RL 10 RX5, Cond.instantiable RX5 12, Cond.initialized RX5, Cond.methodLink RL 9 yX4_init, Cond.instanceMethod yX4_init, Cond.code yX4_init cX4_init 1 none, Cond.methodLink RX4 1 objectInit, Cond.instanceMethod objectInit, Cond.code objectInit ⟨#[0xb1]⟩ 1 none, Cond.classLink RX4 7 RX0, Cond.instantiable RX0 12, Cond.initialized RX0, Cond.fieldLink RX4 10 "IceCoreDater" "core" "LIceCoreDater$Core;", Cond.classLink RX4 16 RX2, Cond.instantiable RX2 3, Cond.initialized RX2, Cond.fieldLink RX4 19 "IceCoreDater" "log" "LIceCoreDater$Log;", Cond.classLink RX4 23 RX1, Cond.instantiable RX1 3, Cond.initialized RX1, Cond.fieldLink RX4 26 "IceCoreDater" "falling" "LIceCoreDater$Falling;"]
def wsL_law_r2 : List Cond := [Cond.classLink RX4 30 RX3, Cond.instantiable RX3 5, Cond.initialized RX3, Cond.fieldLink RX4 33 "IceCoreDater" "text" "LIceCoreDater$Text;", Cond.fieldLink RX4 37 "IceCoreDater" "acts" "I", Cond.constant RX4 41 (-1000000005), Cond.fieldLink RX4 42 "IceCoreDater" "failure" "I", Cond.instanceMethod yX0_init, Cond.code yX0_init cX0_init 1 none, Cond.methodLink RX0 3 objectInit, Cond.fieldLink RX0 9 "IceCoreDater$Core" "size" "I", Cond.constant RX0 15 (100000), Cond.fieldLink RX0 16 "IceCoreDater$Core" "bed" "I", Cond.fieldLink RX0 19 "IceCoreDater$Core" "function" "I", Cond.fieldLink RX0 22 "IceCoreDater$Core" "kink" "I", Cond.fieldLink RX0 25 "IceCoreDater$Core" "closeOff" "I", Cond.arrayClass .int, Cond.fieldLink RX0 28 "IceCoreDater$Core" "thickness" "[I", Cond.fieldLink RX0 32 "IceCoreDater$Core" "accumulation" "[I", Cond.fieldLink RX0 35 "IceCoreDater$Core" "correction" "[I", Cond.fieldLink RX0 38 "IceCoreDater$Core" "told" "[I", Cond.fieldLink RX0 41 "IceCoreDater$Core" "ashAge" "[I", Cond.fieldLink RX0 44 "IceCoreDater$Core" "ashTolerance" "[I", Cond.fieldLink RX0 47 "IceCoreDater$Core" "count" "[I"]
def wsL_law_r3 : List Cond := [Cond.methodLink RX4 18 yX2_init, Cond.instanceMethod yX2_init, Cond.code yX2_init cX2_init 2 none, Cond.methodLink RX2 3 objectInit, Cond.classLink RX2 11 RX0, Cond.fieldLink RX2 13 "IceCoreDater$Log" "slots" "[LIceCoreDater$Core;", Cond.fieldLink RX2 17 "IceCoreDater$Log" "oldest" "I", Cond.fieldLink RX2 21 "IceCoreDater$Log" "size" "I", Cond.instanceMethod yX1_init, Cond.code yX1_init cX1_init 1 none, Cond.methodLink RX1 3 objectInit, Cond.fieldLink RX1 9 "IceCoreDater$Falling" "size" "I", Cond.arrayClass .long, Cond.fieldLink RX1 15 "IceCoreDater$Falling" "dividends" "[J", Cond.fieldLink RX1 19 "IceCoreDater$Falling" "factors" "[J", Cond.instanceMethod yX3_init, Cond.code yX3_init cX3_init 1 none, Cond.methodLink RX3 3 objectInit, Cond.fieldLink RX3 9 "IceCoreDater$Text" "length" "I", Cond.fieldLink RX3 15 "IceCoreDater$Text" "words" "I", Cond.arrayClass .char, Cond.fieldLink RX3 18 "IceCoreDater$Text" "signs" "[C", Cond.fieldLink RX3 22 "IceCoreDater$Text" "starts" "[I", Cond.fieldLink RX3 26 "IceCoreDater$Text" "ends" "[I"]
def wsL_law_r4 : List Cond := [Cond.methodLink RL 12 yX5_init, Cond.instanceMethod yX5_init, Cond.code yX5_init cX5_init 1 none, Cond.methodLink RX5 1 objectInit, Cond.fieldLink RX5 7 "IceCoreDaterModel" "now" "[I", Cond.fieldLink RX5 13 "IceCoreDaterModel" "past" "[I", Cond.fieldLink RX5 16 "IceCoreDaterModel" "thinnings" "[I", Cond.fieldLink RX5 19 "IceCoreDaterModel" "text" "[I", Cond.constant RX5 22 (-1000000005), Cond.fieldLink RX5 23 "IceCoreDaterModel" "failed" "I", Cond.fieldLink RX5 27 "IceCoreDaterModel" "spelled" "[J", Cond.fieldLink RX5 31 "IceCoreDaterModel" "numbers" "[I", Cond.constant RX5 34 (100000), Cond.methodLink RL 13 yX4_addLayer, Cond.instanceMethod yX4_addLayer, Cond.selects RX4 yX4_addLayer yX4_addLayer, Cond.code yX4_addLayer cX4_addLayer 3 (some .int), Cond.methodLink RX4 45 yX2_prepare, Cond.instanceMethod yX2_prepare, Cond.selects RX2 yX2_prepare yX2_prepare, Cond.code yX2_prepare cX2_prepare 3 none, Cond.methodLink RX2 25 yX0_copyFrom, Cond.instanceMethod yX0_copyFrom, Cond.selects RX0 yX0_copyFrom yX0_copyFrom]
def wsL_law_r5 : List Cond := [Cond.code yX0_copyFrom cX0_copyFrom 2 none, Cond.methodLink RX0 50 arraycopyName, Cond.native arraycopyName, Cond.static arraycopyName, Cond.initialized "java/lang/System", Cond.methodLink RX4 49 yX0_append, Cond.instanceMethod yX0_append, Cond.selects RX0 yX0_append yX0_append, Cond.code yX0_append cX0_append 3 (some .int), Cond.constant RX0 71 (-1000000002), Cond.constant RX0 76 (-1000000003), Cond.constant RX0 77 (-1000000004), Cond.static yX4_isBetween, Cond.code yX4_isBetween cX4_isBetween 3 (some .boolean), Cond.methodLink RX0 72 yX0_bottom, Cond.instanceMethod yX0_bottom, Cond.selects RX0 yX0_bottom yX0_bottom, Cond.code yX0_bottom cX0_bottom 1 (some .int), Cond.methodLink RX0 63 yX0_topOf, Cond.instanceMethod yX0_topOf, Cond.selects RX0 yX0_topOf yX0_topOf, Cond.code yX0_topOf cX0_topOf 4 (some .int), Cond.methodLink RX4 53 yX4_closeAct, Cond.instanceMethod yX4_closeAct]
def wsL_law_r6 : List Cond := [Cond.selects RX4 yX4_closeAct yX4_closeAct, Cond.code yX4_closeAct cX4_closeAct 2 (some .int), Cond.methodLink RX4 209 yX4_isError, Cond.static yX4_isError, Cond.code yX4_isError cX4_isError 1 (some .boolean), Cond.constant RX4 139 (-1000000001), Cond.constant RX4 185 (-1000000002), Cond.constant RX4 212 (-1000000003), Cond.constant RX4 213 (-1000000004), Cond.methodLink RX4 105 yX2_keep, Cond.instanceMethod yX2_keep, Cond.selects RX2 yX2_keep yX2_keep, Cond.code yX2_keep cX2_keep 1 none, Cond.methodLink RL 17 yX5_addLayer, Cond.instanceMethod yX5_addLayer, Cond.selects RX5 yX5_addLayer yX5_addLayer, Cond.code yX5_addLayer cX5_addLayer 5 (some .int), Cond.constant RX5 100 (-1000000002), Cond.constant RX5 105 (-1000000003), Cond.constant RX5 106 (-1000000004), Cond.methodLink RX5 35 yX5_in, Cond.static yX5_in, Cond.code yX5_in cX5_in 3 (some .boolean), Cond.methodLink RX5 101 yX5_bottom]
def wsL_law_r7 : List Cond := [Cond.instanceMethod yX5_bottom, Cond.selects RX5 yX5_bottom yX5_bottom, Cond.code yX5_bottom cX5_bottom 1 (some .int), Cond.methodLink RX5 53 yX5_top, Cond.instanceMethod yX5_top, Cond.selects RX5 yX5_top yX5_top, Cond.code yX5_top cX5_top 4 (some .int), Cond.methodLink RX5 49 yX5_of, Cond.instanceMethod yX5_of, Cond.selects RX5 yX5_of yX5_of, Cond.code yX5_of cX5_of 3 (some .int), Cond.methodLink RX5 107 yX5_record, Cond.instanceMethod yX5_record, Cond.selects RX5 yX5_record yX5_record, Cond.code yX5_record cX5_record 2 none, Cond.fieldLink RX5 39 "IceCoreDaterModel" "running" "Z", Cond.fieldLink RX5 43 "IceCoreDaterModel" "acts" "I", Cond.fieldLink RX5 46 "IceCoreDaterModel" "recorded" "I", Cond.methodLink RL 18 yX4_removeLowest, Cond.instanceMethod yX4_removeLowest, Cond.selects RX4 yX4_removeLowest yX4_removeLowest, Cond.code yX4_removeLowest cX4_removeLowest 1 (some .int), Cond.methodLink RX4 57 yX0_dropLowest, Cond.instanceMethod yX0_dropLowest]
def wsL_law_r8 : List Cond := [Cond.selects RX0 yX0_dropLowest yX0_dropLowest, Cond.code yX0_dropLowest cX0_dropLowest 1 (some .int), Cond.methodLink RL 22 yX5_removeLowest, Cond.instanceMethod yX5_removeLowest, Cond.selects RX5 yX5_removeLowest yX5_removeLowest, Cond.code yX5_removeLowest cX5_removeLowest 1 (some .int), Cond.methodLink RL 23 yX4_divide, Cond.instanceMethod yX4_divide, Cond.selects RX4 yX4_divide yX4_divide, Cond.code yX4_divide cX4_divide 3 (some .int), Cond.methodLink RX4 61 yX0_split, Cond.instanceMethod yX0_split, Cond.selects RX0 yX0_split yX0_split, Cond.code yX0_split cX0_split 4 (some .int), Cond.constant RX0 78 (-1000000001), Cond.methodLink RX0 56 yX0_has, Cond.instanceMethod yX0_has, Cond.selects RX0 yX0_has yX0_has, Cond.code yX0_has cX0_has 2 (some .boolean), Cond.methodLink RX0 79 yX0_copyLayer, Cond.instanceMethod yX0_copyLayer, Cond.selects RX0 yX0_copyLayer yX0_copyLayer, Cond.code yX0_copyLayer cX0_copyLayer 3 none, Cond.methodLink RL 26 yX5_divide]
def wsL_law_r9 : List Cond := [Cond.instanceMethod yX5_divide, Cond.selects RX5 yX5_divide yX5_divide, Cond.code yX5_divide cX5_divide 4 (some .int), Cond.constant RX5 114 (-1000000001), Cond.methodLink RX5 110 yX5_isLayer, Cond.instanceMethod yX5_isLayer, Cond.selects RX5 yX5_isLayer yX5_isLayer, Cond.code yX5_isLayer cX5_isLayer 2 (some .boolean), Cond.methodLink RL 27 yX4_setBed, Cond.instanceMethod yX4_setBed, Cond.selects RX4 yX4_setBed yX4_setBed, Cond.code yX4_setBed cX4_setBed 2 (some .int), Cond.methodLink RX4 64 yX0_putBed, Cond.instanceMethod yX0_putBed, Cond.selects RX0 yX0_putBed yX0_putBed, Cond.code yX0_putBed cX0_putBed 3 (some .int), Cond.constant RX0 83 (200000), Cond.methodLink RL 31 yX5_setBed, Cond.instanceMethod yX5_setBed, Cond.selects RX5 yX5_setBed yX5_setBed, Cond.code yX5_setBed cX5_setBed 2 (some .int), Cond.constant RX5 115 (200000), Cond.methodLink RX5 116 yX5_change, Cond.instanceMethod yX5_change]
def wsL_law_r10 : List Cond := [Cond.selects RX5 yX5_change yX5_change, Cond.code yX5_change cX5_change 4 (some .int), Cond.methodLink RL 32 yX4_setFunction, Cond.instanceMethod yX4_setFunction, Cond.selects RX4 yX4_setFunction yX4_setFunction, Cond.code yX4_setFunction cX4_setFunction 2 (some .int), Cond.methodLink RX4 67 yX0_putFunction, Cond.instanceMethod yX0_putFunction, Cond.selects RX0 yX0_putFunction yX0_putFunction, Cond.code yX0_putFunction cX0_putFunction 3 (some .int), Cond.methodLink RL 35 yX5_setFunction, Cond.instanceMethod yX5_setFunction, Cond.selects RX5 yX5_setFunction yX5_setFunction, Cond.code yX5_setFunction cX5_setFunction 2 (some .int), Cond.methodLink RL 36 yX4_setKink, Cond.instanceMethod yX4_setKink, Cond.selects RX4 yX4_setKink yX4_setKink, Cond.code yX4_setKink cX4_setKink 2 (some .int), Cond.methodLink RX4 70 yX0_putKink, Cond.instanceMethod yX0_putKink, Cond.selects RX0 yX0_putKink yX0_putKink, Cond.code yX0_putKink cX0_putKink 3 (some .int), Cond.methodLink RL 39 yX5_setKink, Cond.instanceMethod yX5_setKink]
def wsL_law_r11 : List Cond := [Cond.selects RX5 yX5_setKink yX5_setKink, Cond.code yX5_setKink cX5_setKink 2 (some .int), Cond.methodLink RL 40 yX4_tellThinning, Cond.instanceMethod yX4_tellThinning, Cond.selects RX4 yX4_tellThinning yX4_tellThinning, Cond.code yX4_tellThinning cX4_tellThinning 3 (some .int), Cond.methodLink RX4 73 yX0_putTold, Cond.instanceMethod yX0_putTold, Cond.selects RX0 yX0_putTold yX0_putTold, Cond.code yX0_putTold cX0_putTold 4 (some .int), Cond.methodLink RL 43 yX5_tellThinning, Cond.instanceMethod yX5_tellThinning, Cond.selects RX5 yX5_tellThinning yX5_tellThinning, Cond.code yX5_tellThinning cX5_tellThinning 3 (some .int), Cond.methodLink RL 44 yX4_correct, Cond.instanceMethod yX4_correct, Cond.selects RX4 yX4_correct yX4_correct, Cond.code yX4_correct cX4_correct 3 (some .int), Cond.methodLink RX4 76 yX0_putCorrection, Cond.instanceMethod yX0_putCorrection, Cond.selects RX0 yX0_putCorrection yX0_putCorrection, Cond.code yX0_putCorrection cX0_putCorrection 4 (some .int), Cond.methodLink RL 47 yX5_correct, Cond.instanceMethod yX5_correct]
def wsL_law_r12 : List Cond := [Cond.selects RX5 yX5_correct yX5_correct, Cond.code yX5_correct cX5_correct 3 (some .int), Cond.methodLink RL 48 yX4_setCloseOff, Cond.instanceMethod yX4_setCloseOff, Cond.selects RX4 yX4_setCloseOff yX4_setCloseOff, Cond.code yX4_setCloseOff cX4_setCloseOff 2 (some .int), Cond.methodLink RX4 79 yX0_putCloseOff, Cond.instanceMethod yX0_putCloseOff, Cond.selects RX0 yX0_putCloseOff yX0_putCloseOff, Cond.code yX0_putCloseOff cX0_putCloseOff 3 (some .int), Cond.methodLink RL 51 yX5_setCloseOff, Cond.instanceMethod yX5_setCloseOff, Cond.selects RX5 yX5_setCloseOff yX5_setCloseOff, Cond.code yX5_setCloseOff cX5_setCloseOff 2 (some .int), Cond.methodLink RL 52 yX4_setAsh, Cond.instanceMethod yX4_setAsh, Cond.selects RX4 yX4_setAsh yX4_setAsh, Cond.code yX4_setAsh cX4_setAsh 4 (some .int), Cond.methodLink RX4 82 yX0_putAsh, Cond.instanceMethod yX0_putAsh, Cond.selects RX0 yX0_putAsh yX0_putAsh, Cond.code yX0_putAsh cX0_putAsh 4 (some .int), Cond.constant RX0 84 (100000000), Cond.methodLink RX0 85 yX0_ashBeds]
def wsL_law_r13 : List Cond := [Cond.instanceMethod yX0_ashBeds, Cond.selects RX0 yX0_ashBeds yX0_ashBeds, Cond.code yX0_ashBeds cX0_ashBeds 3 (some .int), Cond.methodLink RX0 60 yX0_hasAsh, Cond.instanceMethod yX0_hasAsh, Cond.selects RX0 yX0_hasAsh yX0_hasAsh, Cond.code yX0_hasAsh cX0_hasAsh 2 (some .boolean), Cond.methodLink RL 56 yX5_setAsh, Cond.instanceMethod yX5_setAsh, Cond.selects RX5 yX5_setAsh yX5_setAsh, Cond.code yX5_setAsh cX5_setAsh 5 (some .int), Cond.constant RX5 119 (100000000), Cond.methodLink RX5 120 yX5_ashes, Cond.instanceMethod yX5_ashes, Cond.selects RX5 yX5_ashes yX5_ashes, Cond.code yX5_ashes cX5_ashes 3 (some .int), Cond.methodLink RL 57 yX4_removeAsh, Cond.instanceMethod yX4_removeAsh, Cond.selects RX4 yX4_removeAsh yX4_removeAsh, Cond.code yX4_removeAsh cX4_removeAsh 2 (some .int), Cond.methodLink RX4 86 yX0_dropAsh, Cond.instanceMethod yX0_dropAsh, Cond.selects RX0 yX0_dropAsh yX0_dropAsh, Cond.code yX0_dropAsh cX0_dropAsh 2 (some .int)]
def wsL_law_r14 : List Cond := [Cond.methodLink RL 60 yX5_removeAsh, Cond.instanceMethod yX5_removeAsh, Cond.selects RX5 yX5_removeAsh yX5_removeAsh, Cond.code yX5_removeAsh cX5_removeAsh 2 (some .int), Cond.methodLink RL 61 yX4_setCount, Cond.instanceMethod yX4_setCount, Cond.selects RX4 yX4_setCount yX4_setCount, Cond.code yX4_setCount cX4_setCount 3 (some .int), Cond.methodLink RX4 89 yX0_putCount, Cond.instanceMethod yX0_putCount, Cond.selects RX0 yX0_putCount yX0_putCount, Cond.code yX0_putCount cX0_putCount 3 (some .int), Cond.constant RX0 88 (1000000), Cond.methodLink RX0 89 yX0_countErrorOf, Cond.instanceMethod yX0_countErrorOf, Cond.selects RX0 yX0_countErrorOf yX0_countErrorOf, Cond.code yX0_countErrorOf cX0_countErrorOf 2 (some .int), Cond.methodLink RX0 119 yX0_yearsOf, Cond.instanceMethod yX0_yearsOf, Cond.selects RX0 yX0_yearsOf yX0_yearsOf, Cond.code yX0_yearsOf cX0_yearsOf 6 (some .int), Cond.methodLink RX0 109 yX0_thinningOf, Cond.instanceMethod yX0_thinningOf, Cond.selects RX0 yX0_thinningOf yX0_thinningOf]
def wsL_law_r15 : List Cond := [Cond.code yX0_thinningOf cX0_thinningOf 15 (some .int), Cond.constantLong RX0 92 (1000), Cond.constantLong RX0 94 (2), Cond.constantLong RX0 96 (10), Cond.methodLink RX0 102 Lib.MathLoose.max_long.x, Cond.static Lib.MathLoose.max_long.x, Cond.initialized "java/lang/Math", Cond.code Lib.MathLoose.max_long.x Lib.MathLoose.max_long.code 4 (some .long), Cond.static yX4_quotient, Cond.code yX4_quotient cX4_quotient 4 (some .long), Cond.methodLink RX0 113 yX0_yearsDividend, Cond.instanceMethod yX0_yearsDividend, Cond.selects RX0 yX0_yearsDividend yX0_yearsDividend, Cond.code yX0_yearsDividend cX0_yearsDividend 2 (some .long), Cond.constantLong RX0 107 (10000000), Cond.methodLink RL 64 yX5_setCount, Cond.instanceMethod yX5_setCount, Cond.selects RX5 yX5_setCount yX5_setCount, Cond.code yX5_setCount cX5_setCount 3 (some .int), Cond.constant RX5 123 (1000000), Cond.methodLink RX5 72 yX5_yearsOf, Cond.instanceMethod yX5_yearsOf, Cond.selects RX5 yX5_yearsOf yX5_yearsOf, Cond.code yX5_yearsOf cX5_yearsOf 2 (some .int)]
def wsL_law_r16 : List Cond := [Cond.methodLink RX5 65 yX5_thinningOf, Cond.instanceMethod yX5_thinningOf, Cond.selects RX5 yX5_thinningOf yX5_thinningOf, Cond.code yX5_thinningOf cX5_thinningOf 10 (some .int), Cond.constantLong RX5 57 (1000), Cond.constantLong RX5 59 (2), Cond.constantLong RX5 61 (10), Cond.methodLink RX5 68 yX5_yearsBy, Cond.static yX5_yearsBy, Cond.code yX5_yearsBy cX5_yearsBy 8 (some .int), Cond.constantLong RX5 63 (10000000), Cond.methodLink RL 65 yX4_tune, Cond.instanceMethod yX4_tune, Cond.selects RX4 yX4_tune yX4_tune, Cond.code yX4_tune cX4_tune 1 (some .int), Cond.methodLink RX4 92 yX0_fitCorrections, Cond.instanceMethod yX0_fitCorrections, Cond.selects RX0 yX0_fitCorrections yX0_fitCorrections, Cond.code yX0_fitCorrections cX0_fitCorrections 5 (some .int), Cond.methodLink RX0 142 yX0_canBeTuned, Cond.instanceMethod yX0_canBeTuned, Cond.selects RX0 yX0_canBeTuned yX0_canBeTuned, Cond.code yX0_canBeTuned cX0_canBeTuned 3 (some .boolean), Cond.methodLink RX0 146 yX0_fitSegment]
def wsL_law_r17 : List Cond := [Cond.instanceMethod yX0_fitSegment, Cond.selects RX0 yX0_fitSegment yX0_fitSegment, Cond.code yX0_fitSegment cX0_fitSegment 7 none, Cond.methodLink RX0 153 yX1_clear, Cond.instanceMethod yX1_clear, Cond.selects RX1 yX1_clear yX1_clear, Cond.code yX1_clear cX1_clear 1 none, Cond.methodLink RX0 158 yX1_add, Cond.instanceMethod yX1_add, Cond.selects RX1 yX1_add yX1_add, Cond.code yX1_add cX1_add 5 none, Cond.methodLink RX0 162 yX1_nearest, Cond.instanceMethod yX1_nearest, Cond.selects RX1 yX1_nearest yX1_nearest, Cond.code yX1_nearest cX1_nearest 8 (some .int), Cond.methodLink RX1 22 yX1_firstAtMost, Cond.instanceMethod yX1_firstAtMost, Cond.selects RX1 yX1_firstAtMost yX1_firstAtMost, Cond.code yX1_firstAtMost cX1_firstAtMost 7 (some .int), Cond.methodLink RX1 26 yX1_sum, Cond.instanceMethod yX1_sum, Cond.selects RX1 yX1_sum yX1_sum, Cond.code yX1_sum cX1_sum 7 (some .long), Cond.methodLink RX0 150 yX0_fittingBeds]
def wsL_law_r18 : List Cond := [Cond.instanceMethod yX0_fittingBeds, Cond.selects RX0 yX0_fittingBeds yX0_fittingBeds, Cond.code yX0_fittingBeds cX0_fittingBeds 4 (some .int), Cond.methodLink RX0 122 Lib.Math.abs.name, Cond.static Lib.Math.abs.name, Cond.code Lib.Math.abs.name Lib.Math.abs.code 1 (some .int), Cond.methodLink RL 68 yX5_tune, Cond.instanceMethod yX5_tune, Cond.selects RX5 yX5_tune yX5_tune, Cond.code yX5_tune cX5_tune 4 (some .int), Cond.methodLink RX5 128 yX5_canTune, Cond.instanceMethod yX5_canTune, Cond.selects RX5 yX5_canTune yX5_canTune, Cond.code yX5_canTune cX5_canTune 3 (some .boolean), Cond.methodLink RX5 132 yX5_tuneSegment, Cond.instanceMethod yX5_tuneSegment, Cond.selects RX5 yX5_tuneSegment yX5_tuneSegment, Cond.code yX5_tuneSegment cX5_tuneSegment 11 none, Cond.methodLink RX5 124 yX5_yearsWith, Cond.instanceMethod yX5_yearsWith, Cond.selects RX5 yX5_yearsWith yX5_yearsWith, Cond.code yX5_yearsWith cX5_yearsWith 7 (some .long), Cond.methodLink RX5 96 yX5_size, Cond.static yX5_size]
def wsL_law_r19 : List Cond := [Cond.code yX5_size cX5_size 2 (some .long), Cond.methodLink RX5 136 yX5_fits, Cond.instanceMethod yX5_fits, Cond.selects RX5 yX5_fits yX5_fits, Cond.code yX5_fits cX5_fits 3 (some .int), Cond.methodLink RX5 93 yX5_residualOf, Cond.instanceMethod yX5_residualOf, Cond.selects RX5 yX5_residualOf yX5_residualOf, Cond.code yX5_residualOf cX5_residualOf 2 (some .int), Cond.methodLink RX5 80 yX5_ageAtTop, Cond.instanceMethod yX5_ageAtTop, Cond.selects RX5 yX5_ageAtTop yX5_ageAtTop, Cond.code yX5_ageAtTop cX5_ageAtTop 4 (some .int), Cond.methodLink RL 69 yX4_undo, Cond.instanceMethod yX4_undo, Cond.selects RX4 yX4_undo yX4_undo, Cond.code yX4_undo cX4_undo 1 (some .int), Cond.methodLink RX4 96 yX2_restore, Cond.instanceMethod yX2_restore, Cond.selects RX2 yX2_restore yX2_restore, Cond.code yX2_restore cX2_restore 3 (some .int), Cond.constant RX2 29 (-1000000005), Cond.methodLink RL 72 yX5_undo, Cond.instanceMethod yX5_undo]
def wsL_law_r20 : List Cond := [Cond.selects RX5 yX5_undo yX5_undo, Cond.code yX5_undo cX5_undo 2 (some .int), Cond.methodLink RL 73 yX4_type, Cond.instanceMethod yX4_type, Cond.selects RX4 yX4_type yX4_type, Cond.code yX4_type cX4_type 2 (some .int), Cond.methodLink RX4 100 yX3_append, Cond.instanceMethod yX3_append, Cond.selects RX3 yX3_append yX3_append, Cond.code yX3_append cX3_append 2 (some .int), Cond.constant RX3 33 (-1000000002), Cond.constant RX3 34 (-1000000004), Cond.methodLink RL 76 yX5_type, Cond.instanceMethod yX5_type, Cond.selects RX5 yX5_type yX5_type, Cond.code yX5_type cX5_type 2 (some .int), Cond.fieldLink RX5 139 "IceCoreDaterModel" "texted" "I", Cond.methodLink RL 77 yX4_clearText, Cond.instanceMethod yX4_clearText, Cond.selects RX4 yX4_clearText yX4_clearText, Cond.code yX4_clearText cX4_clearText 1 (some .int), Cond.methodLink RX4 102 yX3_empty, Cond.instanceMethod yX3_empty, Cond.selects RX3 yX3_empty yX3_empty]
def wsL_law_r21 : List Cond := [Cond.code yX3_empty cX3_empty 2 (some .int), Cond.methodLink RL 80 yX5_clearText, Cond.instanceMethod yX5_clearText, Cond.selects RX5 yX5_clearText yX5_clearText, Cond.code yX5_clearText cX5_clearText 2 (some .int), Cond.methodLink RL 81 yX4_run, Cond.instanceMethod yX4_run, Cond.selects RX4 yX4_run yX4_run, Cond.code yX4_run cX4_run 4 (some .int), Cond.fieldLink RX4 108 "IceCoreDater$Text" "length" "I", Cond.methodLink RX4 111 yX3_at, Cond.instanceMethod yX3_at, Cond.selects RX3 yX3_at yX3_at, Cond.code yX3_at cX3_at 2 (some .char), Cond.methodLink RX4 115 yX3_readCommand, Cond.instanceMethod yX3_readCommand, Cond.selects RX3 yX3_readCommand yX3_readCommand, Cond.code yX3_readCommand cX3_readCommand 6 none, Cond.methodLink RX3 35 yX3_at, Cond.methodLink RX3 39 yX3_markStart, Cond.instanceMethod yX3_markStart, Cond.selects RX3 yX3_markStart yX3_markStart, Cond.code yX3_markStart cX3_markStart 2 none, Cond.methodLink RX3 43 yX3_markEnd]
def wsL_law_r22 : List Cond := [Cond.instanceMethod yX3_markEnd, Cond.selects RX3 yX3_markEnd yX3_markEnd, Cond.code yX3_markEnd cX3_markEnd 2 none, Cond.methodLink RX4 119 yX4_execute, Cond.instanceMethod yX4_execute, Cond.selects RX4 yX4_execute yX4_execute, Cond.code yX4_execute cX4_execute 1 (some .int), Cond.methodLink RX4 217 yX3_isCommand, Cond.instanceMethod yX3_isCommand, Cond.selects RX3 yX3_isCommand yX3_isCommand, Cond.code yX3_isCommand cX3_isCommand 4 (some .boolean), Cond.methodLink RX3 46 yX3_isWord, Cond.instanceMethod yX3_isWord, Cond.selects RX3 yX3_isWord yX3_isWord, Cond.code yX3_isWord cX3_isWord 4 (some .boolean), Cond.methodLink RX3 54 yX3_hasWord, Cond.instanceMethod yX3_hasWord, Cond.selects RX3 yX3_hasWord yX3_hasWord, Cond.code yX3_hasWord cX3_hasWord 2 (some .boolean), Cond.methodLink RX3 57 yJ0_length_8abf5, Cond.instanceMethod yJ0_length_8abf5, Cond.selects RJ0 yJ0_length_8abf5 yJ0_length_8abf5, Cond.initialized RJ0, Cond.code yJ0_length_8abf5 cJ0_length_8abf5 1 (some .int)]
def wsL_law_r23 : List Cond := [Cond.fieldLink RJ0 9 "java/lang/String" "value" "[B", Cond.methodLink RJ0 335 yJ0_coder_7d493, Cond.instanceMethod yJ0_coder_7d493, Cond.selects RJ0 yJ0_coder_7d493 yJ0_coder_7d493, Cond.code yJ0_coder_7d493 cJ0_coder_7d493 1 (some .byte), Cond.fieldLink RJ0 38 "java/lang/String" "COMPACT_STRINGS" "Z", Cond.fieldLink RJ0 15 "java/lang/String" "coder" "B", Cond.methodLink RX3 62 yJ0_charAt_5068e, Cond.instanceMethod yJ0_charAt_5068e, Cond.selects RJ0 yJ0_charAt_5068e yJ0_charAt_5068e, Cond.code yJ0_charAt_5068e cJ0_charAt_5068e 2 (some .char), Cond.methodLink RJ0 492 yJ0_isLatin1_aae02, Cond.instanceMethod yJ0_isLatin1_aae02, Cond.selects RJ0 yJ0_isLatin1_aae02 yJ0_isLatin1_aae02, Cond.code yJ0_isLatin1_aae02 cJ0_isLatin1_aae02 1 (some .boolean), Cond.methodLink RJ0 495 yJ1_charAt_3b067, Cond.static yJ1_charAt_3b067, Cond.initialized RJ1, Cond.code yJ1_charAt_3b067 cJ1_charAt_3b067 2 (some .char), Cond.methodLink RJ1 9 yJ0_checkIndex_df160, Cond.static yJ0_checkIndex_df160, Cond.code yJ0_checkIndex_df160 cJ0_checkIndex_df160 2 none, Cond.fieldLink RJ0 1053 "jdk/internal/util/Preconditions" "SIOOBE_FORMATTER" "Ljava/util/function/BiFunction;", Cond.methodLink RJ0 1059 yJ3_checkIndex_8e157]
def wsL_law_r24 : List Cond := [Cond.static yJ3_checkIndex_8e157, Cond.initialized RJ3, Cond.code yJ3_checkIndex_8e157 cJ3_checkIndex_8e157 3 (some .int), Cond.methodLink RJ0 498 yJ2_charAt_3b067, Cond.static yJ2_charAt_3b067, Cond.initialized RJ2, Cond.code yJ2_charAt_3b067 cJ2_charAt_3b067 2 (some .char), Cond.methodLink RJ2 67 yJ2_checkIndex_2214a, Cond.static yJ2_checkIndex_2214a, Cond.code yJ2_checkIndex_2214a cJ2_checkIndex_2214a 2 none, Cond.methodLink RJ2 48 yJ2_length_9d52b, Cond.static yJ2_length_9d52b, Cond.code yJ2_length_9d52b cJ2_length_9d52b 1 (some .int), Cond.methodLink RJ2 414 yJ0_checkIndex_df160, Cond.methodLink RJ2 71 yJ2_getChar_3b067, Cond.static yJ2_getChar_3b067, Cond.code yJ2_getChar_3b067 cJ2_getChar_3b067 2 (some .char), Cond.fieldLink RJ2 44 "java/lang/StringUTF16" "$assertionsDisabled" "Z", Cond.fieldLink RJ2 59 "java/lang/StringUTF16" "HI_BYTE_SHIFT" "I", Cond.fieldLink RJ2 63 "java/lang/StringUTF16" "LO_BYTE_SHIFT" "I", Cond.methodLink RX3 50 yX3_isNumber, Cond.instanceMethod yX3_isNumber, Cond.selects RX3 yX3_isNumber yX3_isNumber, Cond.code yX3_isNumber cX3_isNumber 3 (some .boolean)]
def wsL_law_r25 : List Cond := [Cond.methodLink RX4 221 yX3_number, Cond.instanceMethod yX3_number, Cond.selects RX3 yX3_number yX3_number, Cond.code yX3_number cX3_number 4 (some .int), Cond.methodLink RX4 237 yX4_executeUse, Cond.instanceMethod yX4_executeUse, Cond.selects RX4 yX4_executeUse yX4_executeUse, Cond.code yX4_executeUse cX4_executeUse 1 (some .int), Cond.fieldLink RX4 240 "IceCoreDater$Text" "words" "I", Cond.constant RX4 214 (-1000000006), Cond.methodLink RX4 245 yX3_isWord, Cond.methodLink RX4 122 yX4_failureOf, Cond.static yX4_failureOf, Cond.code yX4_failureOf cX4_failureOf 1 (some .int), Cond.methodLink RL 84 yX5_run, Cond.instanceMethod yX5_run, Cond.selects RX5 yX5_run yX5_run, Cond.code yX5_run cX5_run 4 (some .int), Cond.methodLink RX5 191 yX5_readCommand, Cond.instanceMethod yX5_readCommand, Cond.selects RX5 yX5_readCommand yX5_readCommand, Cond.code yX5_readCommand cX5_readCommand 4 (some .int), Cond.fieldLink RX5 144 "IceCoreDaterModel" "words" "I", Cond.methodLink RX5 147 yX5_readWord]
def wsL_law_r26 : List Cond := [Cond.instanceMethod yX5_readWord, Cond.selects RX5 yX5_readWord yX5_readWord, Cond.code yX5_readWord cX5_readWord 8 none, Cond.constantLong RX5 142 (128), Cond.methodLink RX5 194 yX5_perform, Cond.instanceMethod yX5_perform, Cond.selects RX5 yX5_perform yX5_perform, Cond.code yX5_perform cX5_perform 3 (some .int), Cond.methodLink RX5 151 yX5_word, Cond.static yX5_word, Cond.code yX5_word cX5_word 8 (some .long), Cond.methodLink RX5 161 yX5_hasNumbers, Cond.instanceMethod yX5_hasNumbers, Cond.selects RX5 yX5_hasNumbers yX5_hasNumbers, Cond.code yX5_hasNumbers cX5_hasNumbers 4 (some .boolean), Cond.methodLink RX5 164 yX5_addLayer, Cond.methodLink RX5 158 yX5_outcome, Cond.static yX5_outcome, Cond.code yX5_outcome cX5_outcome 1 (some .int), Cond.methodLink RX5 167 yX5_setAsh, Cond.methodLink RX5 170 yX5_setCount, Cond.methodLink RX5 173 yX5_correct, Cond.methodLink RX5 176 yX5_setBed, Cond.methodLink RX5 179 yX5_setKink]
def wsL_law_r27 : List Cond := [Cond.methodLink RX5 182 yX5_setCloseOff, Cond.methodLink RX5 185 yX5_use, Cond.instanceMethod yX5_use, Cond.selects RX5 yX5_use yX5_use, Cond.code yX5_use cX5_use 2 (some .int), Cond.methodLink RX5 155 yX5_setFunction, Cond.methodLink RX5 188 yX5_tune, Cond.methodLink RL 85 yX4_failure, Cond.instanceMethod yX4_failure, Cond.selects RX4 yX4_failure yX4_failure, Cond.code yX4_failure cX4_failure 1 (some .int), Cond.methodLink RL 88 yX5_failure, Cond.instanceMethod yX5_failure, Cond.selects RX5 yX5_failure yX5_failure, Cond.code yX5_failure cX5_failure 1 (some .int), Cond.methodLink RL 89 yX4_layers, Cond.instanceMethod yX4_layers, Cond.selects RX4 yX4_layers yX4_layers, Cond.code yX4_layers cX4_layers 1 (some .int), Cond.fieldLink RX4 125 "IceCoreDater$Core" "size" "I", Cond.methodLink RL 92 yX5_layers, Cond.instanceMethod yX5_layers, Cond.selects RX5 yX5_layers yX5_layers, Cond.code yX5_layers cX5_layers 1 (some .int)]
def wsL_law_r28 : List Cond := [Cond.methodLink RL 93 yX4_depth, Cond.instanceMethod yX4_depth, Cond.selects RX4 yX4_depth yX4_depth, Cond.code yX4_depth cX4_depth 1 (some .int), Cond.methodLink RX4 128 yX0_bottom, Cond.methodLink RL 96 yX5_depth, Cond.instanceMethod yX5_depth, Cond.selects RX5 yX5_depth yX5_depth, Cond.code yX5_depth cX5_depth 1 (some .int), Cond.methodLink RL 97 yX4_thickness, Cond.instanceMethod yX4_thickness, Cond.selects RX4 yX4_thickness yX4_thickness, Cond.code yX4_thickness cX4_thickness 2 (some .int), Cond.fieldLink RX4 135 "IceCoreDater$Core" "thickness" "[I", Cond.methodLink RX4 131 yX0_has, Cond.methodLink RL 100 yX5_thickness, Cond.instanceMethod yX5_thickness, Cond.selects RX5 yX5_thickness yX5_thickness, Cond.code yX5_thickness cX5_thickness 2 (some .int), Cond.methodLink RX5 197 yX5_told, Cond.instanceMethod yX5_told, Cond.selects RX5 yX5_told yX5_told, Cond.code yX5_told cX5_told 3 (some .int), Cond.methodLink RL 101 yX4_accumulation]
def wsL_law_r29 : List Cond := [Cond.instanceMethod yX4_accumulation, Cond.selects RX4 yX4_accumulation yX4_accumulation, Cond.code yX4_accumulation cX4_accumulation 2 (some .int), Cond.fieldLink RX4 140 "IceCoreDater$Core" "accumulation" "[I", Cond.methodLink RL 104 yX5_accumulation, Cond.instanceMethod yX5_accumulation, Cond.selects RX5 yX5_accumulation yX5_accumulation, Cond.code yX5_accumulation cX5_accumulation 2 (some .int), Cond.methodLink RL 105 yX4_correction, Cond.instanceMethod yX4_correction, Cond.selects RX4 yX4_correction yX4_correction, Cond.code yX4_correction cX4_correction 2 (some .int), Cond.fieldLink RX4 143 "IceCoreDater$Core" "correction" "[I", Cond.methodLink RL 108 yX5_correction, Cond.instanceMethod yX5_correction, Cond.selects RX5 yX5_correction yX5_correction, Cond.code yX5_correction cX5_correction 2 (some .int), Cond.methodLink RL 109 yX4_thinning, Cond.instanceMethod yX4_thinning, Cond.selects RX4 yX4_thinning yX4_thinning, Cond.code yX4_thinning cX4_thinning 2 (some .int), Cond.fieldLink RX4 146 "IceCoreDater$Core" "function" "I", Cond.fieldLink RX4 149 "IceCoreDater$Core" "kink" "I", Cond.methodLink RX4 152 yX0_thinningOf]
def wsL_law_r30 : List Cond := [Cond.methodLink RL 112 yX5_thinning, Cond.instanceMethod yX5_thinning, Cond.selects RX5 yX5_thinning yX5_thinning, Cond.code yX5_thinning cX5_thinning 2 (some .int), Cond.methodLink RL 113 yX4_years, Cond.instanceMethod yX4_years, Cond.selects RX4 yX4_years yX4_years, Cond.code yX4_years cX4_years 2 (some .int), Cond.methodLink RX4 155 yX0_yearsOf, Cond.methodLink RL 116 yX5_years, Cond.instanceMethod yX5_years, Cond.selects RX5 yX5_years yX5_years, Cond.code yX5_years cX5_years 2 (some .int), Cond.methodLink RL 117 yX4_delay, Cond.instanceMethod yX4_delay, Cond.selects RX4 yX4_delay yX4_delay, Cond.code yX4_delay cX4_delay 2 (some .int), Cond.methodLink RX4 158 yX0_delayOf, Cond.instanceMethod yX0_delayOf, Cond.selects RX0 yX0_delayOf yX0_delayOf, Cond.code yX0_delayOf cX0_delayOf 2 (some .int), Cond.constantLong RX0 117 (10000), Cond.methodLink RL 120 yX5_delay, Cond.instanceMethod yX5_delay]
def wsL_law_r31 : List Cond := [Cond.selects RX5 yX5_delay yX5_delay, Cond.code yX5_delay cX5_delay 2 (some .int), Cond.methodLink RX5 90 yX5_delayOf, Cond.instanceMethod yX5_delayOf, Cond.selects RX5 yX5_delayOf yX5_delayOf, Cond.code yX5_delayOf cX5_delayOf 2 (some .int), Cond.constantLong RX5 75 (10000), Cond.methodLink RL 121 yX4_residual, Cond.instanceMethod yX4_residual, Cond.selects RX4 yX4_residual yX4_residual, Cond.code yX4_residual cX4_residual 2 (some .int), Cond.methodLink RX4 161 yX0_hasAsh, Cond.methodLink RX4 164 yX0_residualOf, Cond.instanceMethod yX0_residualOf, Cond.selects RX0 yX0_residualOf yX0_residualOf, Cond.code yX0_residualOf cX0_residualOf 4 (some .int), Cond.methodLink RL 124 yX5_residual, Cond.instanceMethod yX5_residual, Cond.selects RX5 yX5_residual yX5_residual, Cond.code yX5_residual cX5_residual 2 (some .int), Cond.methodLink RL 125 yX4_countError, Cond.instanceMethod yX4_countError, Cond.selects RX4 yX4_countError yX4_countError, Cond.code yX4_countError cX4_countError 2 (some .int)]
def wsL_law_r32 : List Cond := [Cond.methodLink RX4 167 yX0_hasCount, Cond.instanceMethod yX0_hasCount, Cond.selects RX0 yX0_hasCount yX0_hasCount, Cond.code yX0_hasCount cX0_hasCount 2 (some .boolean), Cond.methodLink RX4 170 yX0_countErrorOf, Cond.methodLink RL 128 yX5_countError, Cond.instanceMethod yX5_countError, Cond.selects RX5 yX5_countError yX5_countError, Cond.code yX5_countError cX5_countError 2 (some .int), Cond.methodLink RL 129 yX4_fitting, Cond.instanceMethod yX4_fitting, Cond.selects RX4 yX4_fitting yX4_fitting, Cond.code yX4_fitting cX4_fitting 1 (some .int), Cond.methodLink RX4 173 yX0_fittingBeds, Cond.methodLink RL 132 yX5_fitting, Cond.instanceMethod yX5_fitting, Cond.selects RX5 yX5_fitting yX5_fitting, Cond.code yX5_fitting cX5_fitting 1 (some .int), Cond.methodLink RL 133 yX4_age, Cond.instanceMethod yX4_age, Cond.selects RX4 yX4_age yX4_age, Cond.code yX4_age cX4_age 3 (some .int), Cond.methodLink RX4 176 yX4_depthFault, Cond.instanceMethod yX4_depthFault]
def wsL_law_r33 : List Cond := [Cond.selects RX4 yX4_depthFault yX4_depthFault, Cond.code yX4_depthFault cX4_depthFault 2 (some .int), Cond.methodLink RX4 179 yX0_ageAt, Cond.instanceMethod yX0_ageAt, Cond.selects RX0 yX0_ageAt yX0_ageAt, Cond.code yX0_ageAt cX0_ageAt 7 (some .int), Cond.methodLink RL 136 yX5_age, Cond.instanceMethod yX5_age, Cond.selects RX5 yX5_age yX5_age, Cond.code yX5_age cX5_age 3 (some .int), Cond.methodLink RX5 200 yX5_depthRefused, Cond.instanceMethod yX5_depthRefused, Cond.selects RX5 yX5_depthRefused yX5_depthRefused, Cond.code yX5_depthRefused cX5_depthRefused 2 (some .int), Cond.methodLink RX5 87 yX5_ageAt, Cond.instanceMethod yX5_ageAt, Cond.selects RX5 yX5_ageAt yX5_ageAt, Cond.code yX5_ageAt cX5_ageAt 3 (some .int), Cond.methodLink RX5 77 yX5_layerAt, Cond.instanceMethod yX5_layerAt, Cond.selects RX5 yX5_layerAt yX5_layerAt, Cond.code yX5_layerAt cX5_layerAt 3 (some .int), Cond.methodLink RX5 83 yX5_part, Cond.static yX5_part]
def wsL_law_r34 : List Cond := [Cond.code yX5_part cX5_part 3 (some .int), Cond.methodLink RL 137 yX4_gasAge, Cond.instanceMethod yX4_gasAge, Cond.selects RX4 yX4_gasAge yX4_gasAge, Cond.code yX4_gasAge cX4_gasAge 3 (some .int), Cond.methodLink RX4 182 yX0_gasAgeAt, Cond.instanceMethod yX0_gasAgeAt, Cond.selects RX0 yX0_gasAgeAt yX0_gasAgeAt, Cond.code yX0_gasAgeAt cX0_gasAgeAt 4 (some .int), Cond.methodLink RX0 131 Lib.Math.max.name, Cond.static Lib.Math.max.name, Cond.code Lib.Math.max.name Lib.Math.max.code 2 (some .int), Cond.methodLink RX0 125 yX0_ageAt, Cond.methodLink RX0 128 yX0_delayOf, Cond.methodLink RL 140 yX5_gasAge, Cond.instanceMethod yX5_gasAge, Cond.selects RX5 yX5_gasAge yX5_gasAge, Cond.code yX5_gasAge cX5_gasAge 3 (some .int), Cond.methodLink RX5 203 yX5_gasAgeAt, Cond.instanceMethod yX5_gasAgeAt, Cond.selects RX5 yX5_gasAgeAt yX5_gasAgeAt, Cond.code yX5_gasAgeAt cX5_gasAgeAt 3 (some .int), Cond.methodLink RL 141 yX4_depthOf, Cond.instanceMethod yX4_depthOf]
def wsL_law_r35 : List Cond := [Cond.selects RX4 yX4_depthOf yX4_depthOf, Cond.code yX4_depthOf cX4_depthOf 2 (some .int), Cond.methodLink RX4 186 yX0_leastDepthOf, Cond.instanceMethod yX0_leastDepthOf, Cond.selects RX0 yX0_leastDepthOf yX0_leastDepthOf, Cond.code yX0_leastDepthOf cX0_leastDepthOf 7 (some .int), Cond.constant RX0 138 (-1000000005), Cond.methodLink RX0 134 yX0_stepsFor, Cond.static yX0_stepsFor, Cond.code yX0_stepsFor cX0_stepsFor 4 (some .int), Cond.methodLink RL 144 yX5_depthOf, Cond.instanceMethod yX5_depthOf, Cond.selects RX5 yX5_depthOf yX5_depthOf, Cond.code yX5_depthOf cX5_depthOf 2 (some .int), Cond.methodLink RX5 206 yX5_leastDepth, Cond.instanceMethod yX5_leastDepth, Cond.selects RX5 yX5_leastDepth yX5_leastDepth, Cond.code yX5_leastDepth cX5_leastDepth 11 (some .int), Cond.methodLink RL 145 yX4_gasDepthOf, Cond.instanceMethod yX4_gasDepthOf, Cond.selects RX4 yX4_gasDepthOf yX4_gasDepthOf, Cond.code yX4_gasDepthOf cX4_gasDepthOf 2 (some .int), Cond.methodLink RX4 189 yX0_leastGasDepthOf, Cond.instanceMethod yX0_leastGasDepthOf]
def wsL_law_r36 : List Cond := [Cond.selects RX0 yX0_leastGasDepthOf yX0_leastGasDepthOf, Cond.code yX0_leastGasDepthOf cX0_leastGasDepthOf 9 (some .int), Cond.methodLink RL 148 yX5_gasDepthOf, Cond.instanceMethod yX5_gasDepthOf, Cond.selects RX5 yX5_gasDepthOf yX5_gasDepthOf, Cond.code yX5_gasDepthOf cX5_gasDepthOf 2 (some .int), Cond.methodLink RL 149 yX4_lead, Cond.instanceMethod yX4_lead, Cond.selects RX4 yX4_lead yX4_lead, Cond.code yX4_lead cX4_lead 4 (some .int), Cond.methodLink RL 152 yX5_lead, Cond.instanceMethod yX5_lead, Cond.selects RX5 yX5_lead yX5_lead, Cond.code yX5_lead cX5_lead 4 (some .int), Cond.methodLink RL 153 yX4_inversions, Cond.instanceMethod yX4_inversions, Cond.selects RX4 yX4_inversions yX4_inversions, Cond.code yX4_inversions cX4_inversions 1 (some .int), Cond.methodLink RX4 192 yX0_invertedBorders, Cond.instanceMethod yX0_invertedBorders, Cond.selects RX0 yX0_invertedBorders yX0_invertedBorders, Cond.code yX0_invertedBorders cX0_invertedBorders 4 (some .int), Cond.methodLink RX0 139 yX0_gasAgeAt, Cond.methodLink RL 156 yX5_inversions]
def wsL_law_r37 : List Cond := [Cond.instanceMethod yX5_inversions, Cond.selects RX5 yX5_inversions yX5_inversions, Cond.code yX5_inversions cX5_inversions 4 (some .int), Cond.methodLink RL 157 yX4_acts, Cond.instanceMethod yX4_acts, Cond.selects RX4 yX4_acts yX4_acts, Cond.code yX4_acts cX4_acts 1 (some .int), Cond.methodLink RL 160 yX5_acts, Cond.instanceMethod yX5_acts, Cond.selects RX5 yX5_acts yX5_acts, Cond.code yX5_acts cX5_acts 1 (some .int), Cond.methodLink RL 161 yX4_seal, Cond.instanceMethod yX4_seal, Cond.selects RX4 yX4_seal yX4_seal, Cond.code yX4_seal cX4_seal 1 (some .int), Cond.methodLink RX4 195 yX0_sealOfAges, Cond.instanceMethod yX0_sealOfAges, Cond.selects RX0 yX0_sealOfAges yX0_sealOfAges, Cond.code yX0_sealOfAges cX0_sealOfAges 4 (some .int), Cond.methodLink RL 164 yX5_seal, Cond.instanceMethod yX5_seal, Cond.selects RX5 yX5_seal yX5_seal, Cond.code yX5_seal cX5_seal 3 (some .int), Cond.constant RX5 210 (65535)]
def wsL_law_r38 : List Cond := [Cond.constant RX5 211 (65536), Cond.methodLink RL 165 yX4_bestFunction, Cond.instanceMethod yX4_bestFunction, Cond.selects RX4 yX4_bestFunction yX4_bestFunction, Cond.code yX4_bestFunction cX4_bestFunction 7 (some .int), Cond.methodLink RX4 198 yX0_ashBeds, Cond.methodLink RX4 201 yX0_misfit, Cond.instanceMethod yX0_misfit, Cond.selects RX0 yX0_misfit yX0_misfit, Cond.code yX0_misfit cX0_misfit 7 (some .long), Cond.methodLink RL 168 yX5_bestFunction, Cond.instanceMethod yX5_bestFunction, Cond.selects RX5 yX5_bestFunction yX5_bestFunction, Cond.code yX5_bestFunction cX5_bestFunction 8 (some .int), Cond.methodLink RX5 212 yX5_residuals, Cond.instanceMethod yX5_residuals, Cond.selects RX5 yX5_residuals yX5_residuals, Cond.code yX5_residuals cX5_residuals 4 (some .long), Cond.methodLink RL 169 yX4_bestKink, Cond.instanceMethod yX4_bestKink, Cond.selects RX4 yX4_bestKink yX4_bestKink, Cond.code yX4_bestKink cX4_bestKink 7 (some .int), Cond.methodLink RL 172 yX5_bestKink, Cond.instanceMethod yX5_bestKink]
def wsL_law_r39 : List Cond := [Cond.selects RX5 yX5_bestKink yX5_bestKink, Cond.code yX5_bestKink cX5_bestKink 9 (some .int), Cond.methodLink RL 173 yX4_neededAccumulation, Cond.instanceMethod yX4_neededAccumulation, Cond.selects RX4 yX4_neededAccumulation yX4_neededAccumulation, Cond.code yX4_neededAccumulation cX4_neededAccumulation 2 (some .int), Cond.methodLink RX4 205 yX0_fitAccumulation, Cond.instanceMethod yX0_fitAccumulation, Cond.selects RX0 yX0_fitAccumulation yX0_fitAccumulation, Cond.code yX0_fitAccumulation cX0_fitAccumulation 3 (some .int), Cond.methodLink RL 176 yX5_neededAccumulation, Cond.instanceMethod yX5_neededAccumulation, Cond.selects RX5 yX5_neededAccumulation yX5_neededAccumulation, Cond.code yX5_neededAccumulation cX5_neededAccumulation 10 (some .int)]
def wsL_law : List Cond := (wsL_law_r1 ++ (wsL_law_r2 ++ (wsL_law_r3 ++ (wsL_law_r4 ++ (wsL_law_r5 ++ (wsL_law_r6 ++ (wsL_law_r7 ++ (wsL_law_r8 ++ (wsL_law_r9 ++ (wsL_law_r10 ++ (wsL_law_r11 ++ (wsL_law_r12 ++ (wsL_law_r13 ++ (wsL_law_r14 ++ (wsL_law_r15 ++ (wsL_law_r16 ++ (wsL_law_r17 ++ (wsL_law_r18 ++ (wsL_law_r19 ++ (wsL_law_r20 ++ (wsL_law_r21 ++ (wsL_law_r22 ++ (wsL_law_r23 ++ (wsL_law_r24 ++ (wsL_law_r25 ++ (wsL_law_r26 ++ (wsL_law_r27 ++ (wsL_law_r28 ++ (wsL_law_r29 ++ (wsL_law_r30 ++ (wsL_law_r31 ++ (wsL_law_r32 ++ (wsL_law_r33 ++ (wsL_law_r34 ++ (wsL_law_r35 ++ (wsL_law_r36 ++ (wsL_law_r37 ++ (wsL_law_r38 ++ wsL_law_r39)))))))))))))))))))))))))))))))))))))) ++ wsX40 ++ wsX50 ++ wsX00 ++ wsX20 ++ wsX10 ++ wsX30 ++ ([] : List Cond)
abbrev vwCl : List vw_C := [(RX0, TX0, 12), (RX1, TX1, 3), (RX2, TX2, 3), (RX3, TX3, 5), (RX4, TX4, 6), (RX5, TX5, 12)]
end
section
/-! ===== BASE: function-side words, the worlds, one row a call ===== -/
def kIn (i : Int32) (n : Nat) : Bool := !(decide (i < 0)) && decide (i.toNatClampNeg < n)
theorem kIn_ok {i : Int32} {n : Nat} (h : kIn i n = true) : vp_in i n := by
  simp only [kIn, Bool.and_eq_true, Bool.not_eq_true', decide_eq_false_iff_not, decide_eq_true_eq] at h
  intro q
  rcases q with q | q
  · exact h.1 q
  · omega
theorem kIn_of {i : Int32} {n : Nat} (h : vp_in i n) : kIn i n = true := by
  simp only [kIn, Bool.and_eq_true, Bool.not_eq_true', decide_eq_false_iff_not, decide_eq_true_eq]
  exact ⟨fun q => h (Or.inl q), Nat.lt_of_not_le (fun q => h (Or.inr q))⟩
def kCh (v : Int32) : Bool := decide (0 ≤ v.toInt) && decide (v.toInt < 65536)
theorem kCh_ok {v : Int32} (h : kCh v = true) : narrow .char (.int v) = .int v := by
  simp only [kCh, Bool.and_eq_true, decide_eq_true_eq] at h
  obtain ⟨n, hn⟩ : ∃ n : Nat, v.toInt = n := ⟨v.toInt.toNat, by omega⟩
  have hv : v = nI n := by
    apply Int32.toInt_inj.mp
    rw [nI_toInt (by omega), hn]
  rw [hv]
  exact (pk_charN (by omega)).1
theorem kIn_lt {i : Int32} {n : Nat} (h : kIn i n = true) : i.toNatClampNeg < n := by
  simp only [kIn, Bool.and_eq_true, decide_eq_true_eq] at h
  exact h.2
theorem kIf {α : Type} {c : Prop} [Decidable c] {A : Option α} {r : α} (h : (if c then A else none) = some r) : c ∧ A = some r := by
  by_cases hc : c
  · exact ⟨hc, by rwa [if_pos hc] at h⟩
  · rw [if_neg hc] at h
    cases h
theorem kT {α : Type} {c : Prop} [Decidable c] {A B : Option α} {r : α} (h : (if c then A else B) = some r) (hc : c) : A = some r := by rwa [if_pos hc] at h
theorem kF {α : Type} {c : Prop} [Decidable c] {A B : Option α} {r : α} (h : (if c then A else B) = some r) (hc : ¬ c) : B = some r := by rwa [if_neg hc] at h
theorem kBd {α β : Type} {x : Option α} {f : α → Option β} {r : β} (h : x.bind f = some r) : ∃ a, x = some a ∧ f a = some r := by
  cases x with
  | none => cases h
  | some a => exact ⟨a, rfl, h⟩
theorem kBs {α β : Type} {x y : α} {f : α → Option β} {r : β} (h : (some x).bind f = some r) (e : y = x) : f y = some r := e ▸ h
def kLoopC {σ R : Type} : Nat → (σ → (σ → Option R) → Option R) → σ → Option R
  | 0, _, _ => none
  | n + 1, b, s => b s (kLoopC n b)
def kFu : Nat := 100000
/-- the array classes: int, long, char, Core -/
abbrev kTy : Type := ClassId × ClassId × ClassId × ClassId
def kTys (ty : kTy) : List (ClassId × FieldType) := [(ty.1, .int), (ty.2.1, .long), (ty.2.2.1, .char), (ty.2.2.2, .object "IceCoreDater$Core")]
def kNw (U : State) : Prop := va_Nw (.methodLinkNest RX4 9 yX0_init "IceCoreDater") U ∧ va_Nw (.methodLinkNest RX2 24 yX0_init "IceCoreDater") U ∧ va_Nw (.methodLinkNest RX4 25 yX1_init "IceCoreDater") U ∧ va_Nw (.methodLinkNest RX4 32 yX3_init "IceCoreDater") U ∧ va_Nw (.methodLinkNest RX0 67 yX4_isBetween "IceCoreDater") U ∧ va_Nw (.methodLinkNest RX0 98 yX4_quotient "IceCoreDater") U ∧ va_Nw (.methodLinkNest RX3 29 yX4_isBetween "IceCoreDater") U
theorem kNw_warm {s U : State} (hW : s.WarmedH U.vm) (h : kNw s) : kNw U := by
  obtain ⟨a, b, c, d, e, f, g⟩ := h
  exact ⟨va_Nw.warmM hW a, va_Nw.warmM hW b, va_Nw.warmM hW c, va_Nw.warmM hW d, va_Nw.warmM hW e, va_Nw.warmM hW f, va_Nw.warmM hW g⟩
theorem kNw_same {s U : State} (hv : s.vm = U.vm) (h : kNw s) : kNw U := by
  obtain ⟨a, b, c, d, e, f, g⟩ := h
  exact ⟨va_Nw.same rfl hv a, va_Nw.same rfl hv b, va_Nw.same rfl hv c, va_Nw.same rfl hv d, va_Nw.same rfl hv e, va_Nw.same rfl hv f, va_Nw.same rfl hv g⟩
def kK (D : va_G) (ty : kTy) (U : State) : Prop := va_K D vwCl (kTys ty) U ∧ kNw U
def kB (D : va_G) (ty : kTy) (w : va_W) (sz : Nat) (U : State) : Prop := U.heap.size = sz ∧ va_P D vwCl w U.heap ∧ kK D ty U ∧ va_D (fun _ => True) w
theorem kB_blind (av : List Value) (D : va_G) (ty : kTy) (w : va_W) (sz : Nat) : FrameBlind (va_Pc av (kB D ty w sz)) := fun a U g mk q => by
  obtain ⟨q0, q1, qP, ⟨qK, qN⟩, qD⟩ := q
  exact ⟨q0, q1, qP, ⟨va_K.moved (u := U) (U := U.calling g mk a) (Vm.Alike.refl U.vm) qK, kNw_same (U := U.calling g mk a) rfl qN⟩, qD⟩
theorem kB_at {D : va_G} {ty : kTy} {w : va_W} {H : Heap} {s : State} {A : Nat → Prop} (hP : va_P D vwCl w H) (hK : kK D ty s) (hD : va_D A w) : ∀ U : State, U.heap = H → s.WarmedH U.vm → kB D ty w H.size U :=
  fun U hU hW => ⟨by rw [hU], by rw [hU]; exact hP, ⟨va_K.moved hW.alike hK.1, kNw_warm hW hK.2⟩, hD.weaken (fun _ _ _ _ => trivial)⟩
abbrev kQI (D : va_G) (r : Int32) (w1 : va_W) (A : Nat → Prop) : Array Value → State → Outcome → State → Prop := va_Qi (fun (r' : Int32) (_ : Unit) => r' = r) (fun _ t => va_P D vwCl w1 t.heap) A
abbrev kQL (D : va_G) (r : Int64) (w1 : va_W) (A : Nat → Prop) : Array Value → State → Outcome → State → Prop := va_Ql (fun (r' : Int64) (_ : Unit) => r' = r) (fun _ t => va_P D vwCl w1 t.heap) A
abbrev kQV (D : va_G) (w1 : va_W) (A : Nat → Prop) : Array Value → State → Outcome → State → Prop := va_Qv (fun (_ : Unit) => True) (fun _ t => va_P D vwCl w1 t.heap) A
abbrev kMI (l : Launch) (y : MethodName) (ws : List Cond) (rm : Room) (av : List Value) (D : va_G) (ty : kTy) (w : va_W) (sz : Nat) (r : Int32) (w1 : va_W) : Prop := Met l y ws rm (va_Pc av (kB D ty w sz)) (kQI D r w1 (va_A w sz)) 0 0 (va_A w sz)
abbrev kML (l : Launch) (y : MethodName) (ws : List Cond) (rm : Room) (av : List Value) (D : va_G) (ty : kTy) (w : va_W) (sz : Nat) (r : Int64) (w1 : va_W) : Prop := Met l y ws rm (va_Pc av (kB D ty w sz)) (kQL D r w1 (va_A w sz)) 0 0 (va_A w sz)
abbrev kMV (l : Launch) (y : MethodName) (ws : List Cond) (rm : Room) (av : List Value) (D : va_G) (ty : kTy) (w : va_W) (sz : Nat) (w1 : va_W) : Prop := Met l y ws rm (va_Pc av (kB D ty w sz)) (kQV D w1 (va_A w sz)) 0 0 (va_A w sz)
/-! cells replaced at their places -/
def kRep (ws : va_W) : List Nat → va_W → va_W
  | i :: is, e :: w => kRep (ws.set i e) is w
  | _, _ => ws
theorem kRep_at : ∀ (is : List Nat) (w ws : va_W) (k : Nat) (q : Nat × va_E), (kRep ws is w)[k]? = some q → (∃ j : Nat, is[j]? = some k ∧ w[j]? = some q) ∨ ((∀ (j : Nat) (e : Nat × va_E), w[j]? = some e → is[j]? ≠ some k) ∧ ws[k]? = some q) := by
  intro is
  induction is with
  | nil => exact fun w ws k q h => Or.inr ⟨fun j e _ z => by simp at z, by simpa [kRep] using h⟩
  | cons i is ih =>
    intro w ws k q h
    cases w with
    | nil => exact Or.inr ⟨fun j e z => by simp at z, by simpa [kRep] using h⟩
    | cons e w =>
      rcases ih w (ws.set i e) k q h with ⟨j, h1, h2⟩ | ⟨h1, h2⟩
      · exact Or.inl ⟨j + 1, by simpa using h1, by simpa using h2⟩
      · by_cases hik : i = k
        · subst hik
          have hl : i < ws.length := by
            rcases Nat.lt_or_ge i ws.length with z | z
            · exact z
            · rw [List.getElem?_eq_none (by simpa using z)] at h2
              cases h2
          rw [List.getElem?_set_self hl] at h2
          cases h2
          exact Or.inl ⟨0, rfl, rfl⟩
        · rw [List.getElem?_set_ne hik] at h2
          refine Or.inr ⟨fun j e' z => ?_, h2⟩
          cases j with
          | zero => simpa using hik
          | succ j => simpa using h1 j e' (by simpa using z)
theorem kPlace {ws wc : va_W} {is : List Nat} (hs : is.map (fun i => ws[i]?) = wc.map some) {k : Nat} {q : Nat × va_E} (hq : wc[k]? = some q) : ∃ i, is[k]? = some i ∧ ws[i]? = some q := by
  have h1 : (is.map (fun i => ws[i]?))[k]? = some (some q) := by rw [hs, List.getElem?_map, hq]; rfl
  rw [List.getElem?_map] at h1
  cases hi : is[k]? with
  | none => rw [hi] at h1; cases h1
  | some i => rw [hi] at h1; exact ⟨i, rfl, Option.some.inj h1⟩
theorem kFst {w1 wc : va_W} (ha : w1.map Prod.fst = wc.map Prod.fst) {k : Nat} {q : Nat × va_E} (hq : w1[k]? = some q) : ∃ q0, wc[k]? = some q0 ∧ q0.1 = q.1 := by
  have h1 : (wc.map Prod.fst)[k]? = some q.1 := by rw [← ha, List.getElem?_map, hq]; rfl
  rw [List.getElem?_map] at h1
  cases hi : wc[k]? with
  | none => rw [hi] at h1; cases h1
  | some q0 => rw [hi] at h1; exact ⟨q0, rfl, Option.some.inj h1⟩
theorem kJoin {A0 : Nat → Prop} {D : va_G} {ws wc w1 wn : va_W} {H H1 : Heap} (hP : va_P D vwCl ws H) (hD : va_D A0 ws) (is : List Nat) (hC : is.map (fun i => ws[i]?) = wc.map some) (hk : ∀ q : Nat, q < H.size → ¬ va_A wc H.size q → H1[q]? = H[q]?) (hP1 : va_P D vwCl w1 H1) (ha : w1.map Prod.fst = wc.map Prod.fst) (hn : kRep ws is w1 = wn) : va_P D vwCl wn H1 ∧ va_D A0 wn := by
  subst hn
  have key : ∀ (k : Nat) (q : Nat × va_E), (kRep ws is w1)[k]? = some q → ∃ q0, ws[k]? = some q0 ∧ q0.1 = q.1 := by
    intro k q h
    rcases kRep_at is w1 ws k q h with ⟨j, h1, h2⟩ | ⟨-, h2⟩
    · obtain ⟨q0, h3, h4⟩ := kFst ha h2
      obtain ⟨i, h5, h6⟩ := kPlace hC h3
      rw [h1] at h5
      cases h5
      exact ⟨q0, h6, h4⟩
    · exact ⟨q, h2, rfl⟩
  refine ⟨fun k q h => ?_, fun i j x y hi hj hxy => ?_, fun k q h => ?_⟩
  · rcases kRep_at is w1 ws k q h with ⟨j, h1, h2⟩ | ⟨h1, h2⟩
    · exact hP1 j q h2
    · have hl := (hP k q h2).lt
      refine (hP k q h2).kept (hk q.1 hl (fun z => ?_))
      rcases z with ⟨j, e, z⟩ | z
      · obtain ⟨i, h5, h6⟩ := kPlace hC z
        have hik : i = k := hD.1 i k (q.1, e) q h6 h2 rfl
        subst hik
        have hlen : w1.length = wc.length := by simpa using congrArg List.length ha
        have hj : j < w1.length := by
          rw [hlen]
          exact (List.getElem?_eq_some_iff.mp z).1
        exact h1 j _ (List.getElem?_eq_getElem hj) h5
      · omega
  · obtain ⟨x0, h1, h2⟩ := key i x hi
    obtain ⟨y0, h3, h4⟩ := key j y hj
    exact hD.1 i j x0 y0 h1 h3 (h2.trans (hxy.trans h4.symm))
  · obtain ⟨q0, h1, h2⟩ := key k q h
    rw [← h2]
    exact hD.2 k q0 h1
theorem kFm {ws wc : va_W} {is : List Nat} (hC : is.map (fun i => ws[i]?) = wc.map some) : is.filterMap (fun i => ws[i]?) = wc := by
  induction is generalizing wc with
  | nil => cases wc with
    | nil => rfl
    | cons a l => cases hC
  | cons i is ih => cases wc with
    | nil => cases hC
    | cons a l =>
      simp only [List.map_cons, List.cons.injEq] at hC
      rw [List.filterMap_cons, hC.1, ih hC.2]
/-- what a callee of no cells leaves -/
theorem kStay {D : va_G} {ws : va_W} {H H1 : Heap} (hP : va_P D vwCl ws H) (hk : ∀ q : Nat, q < H.size → ¬ va_A [] H.size q → H1[q]? = H[q]?) : va_P D vwCl ws H1 := by
  refine hP.kept (fun k q h => hk q.1 (hP k q h).lt (fun z => ?_))
  rcases z with ⟨k2, e, z⟩ | z
  · simp at z
  · have := (hP k q h).lt
    omega
theorem kEnd {D : va_G} {w : va_W} {H : Heap} {t : State} (ht : t.heap = H) (hP : va_P D vwCl w H) : va_P D vwCl w t.heap := by
  rw [ht]
  exact hP
section KCALL
variable {p : Program} {l : Launch} {e : Env} {R : Room} {s : State} {m : MethodId} {args : Array Value} {below : List Frame} {meth : Method} {c : Code} {H H0 : Heap} {locs : List Loc} {cells slots : Nat} {Q : State → Prop}
variable {y : MethodName} {bytes cc : ByteArray} {maxL nL n index pc : Nat} {ret : Option FieldType} {wsy : List Cond} {rm : Room} {Ts : List Cond} {own C host : String} {b : Addr} {As rest st0 : List Value} {ls : Array Slot} {D : va_G} {ty : kTy} {ws wc w1 wn : va_W} {A0 : Nat → Prop}
theorem kGenW {g : JFrame} (h : ∀ Q', Q' = Q → W p l e R s m args below meth c H locs cells slots Q' g) : W p l e R s m args below meth c H locs cells slots Q g := h Q rfl
/-- a virtual call -/
theorem kCallVI {r : Int32} (S : CallFix p m c cc nL s args Ts own) (hM : kMI l y wsy rm (.ref b :: As) D ty wc H.size r w1) (cw : CallW R s args own C index y bytes maxL ret wsy rm 0 0 n)
    (hP : va_P D vwCl ws H) (hK : kK D ty s) (hD : va_D A0 ws) (hS : va_S A0 H0 H locs) (hA : ∀ q, H0.size ≤ q → A0 q) (is : List Nat) (hnd : va_nd is = true) (hC : is.map (fun i => ws[i]?) = wc.map some)
    (ci q0 : Nat) {q : vw_C} {fs : List Value} (hq : vwCl[ci]? = some q) (hqC : q.1 = C) (he : ws[q0]? = some (b, .inr (ci, fs))) (hn : As.length = n) (hsize : ls.size = nL) (hstack : st0 = As.reverse ++ .ref b :: rest) (hW : (rest.map fun v => v.category).sum ≤ 8) (hdg : decode cc pc = .ok (.invokevirtual index, 3)) (hf : cells ≤ R.cells ∧ slots ≤ R.slots)
    (ha : w1.map Prod.fst = wc.map Prod.fst) (hr : kRep ws is w1 = wn)
    (kk : ∀ (H1 : Heap) (locs1 : List Loc), va_P D vwCl wn H1 → va_D A0 wn → va_S A0 H0 H1 locs1 → W p l e R s m args below meth c H1 locs1 cells slots Q (F0 m (pc + 3) ls (.int r :: rest))) : W p l e R s m args below meth c H locs cells slots Q (F0 m pc ls st0) := by
  have hPc : va_P D vwCl wc H := hP.sub is (kFm hC)
  have hDc := hD.sub is hnd hC
  have hFc := va_free hD hS hA is hC
  subst hstack
  have hrecv := va_recv hK.1 hP hq he
  rw [hqC] at hrecv
  refine va_calli (va_runV S hM cw ⟨kB_blind _ _ _ _ _, hrecv, fun U hU hW => ⟨rfl, kB_at hPc hK hDc U hU hW⟩⟩ rfl hn hsize rfl (lv_room hW) hdg hf) hS (fun q _ h => hFc q h) hFc (fun r' u t H1 locs1 ht hvm hw hB hz hk hS' => ?_)
  cases hw
  rw [ht] at hB
  obtain ⟨a1, a2⟩ := kJoin hP hD is hC hk hB ha hr
  exact kk H1 locs1 a1 a2 hS'
theorem kCallVL {r : Int64} (S : CallFix p m c cc nL s args Ts own) (hM : kML l y wsy rm (.ref b :: As) D ty wc H.size r w1) (cw : CallW R s args own C index y bytes maxL ret wsy rm 0 0 n)
    (hP : va_P D vwCl ws H) (hK : kK D ty s) (hD : va_D A0 ws) (hS : va_S A0 H0 H locs) (hA : ∀ q, H0.size ≤ q → A0 q) (is : List Nat) (hnd : va_nd is = true) (hC : is.map (fun i => ws[i]?) = wc.map some)
    (ci q0 : Nat) {q : vw_C} {fs : List Value} (hq : vwCl[ci]? = some q) (hqC : q.1 = C) (he : ws[q0]? = some (b, .inr (ci, fs))) (hn : As.length = n) (hsize : ls.size = nL) (hstack : st0 = As.reverse ++ .ref b :: rest) (hW : (rest.map fun v => v.category).sum ≤ 8) (hdg : decode cc pc = .ok (.invokevirtual index, 3)) (hf : cells ≤ R.cells ∧ slots ≤ R.slots)
    (ha : w1.map Prod.fst = wc.map Prod.fst) (hr : kRep ws is w1 = wn)
    (kk : ∀ (H1 : Heap) (locs1 : List Loc), va_P D vwCl wn H1 → va_D A0 wn → va_S A0 H0 H1 locs1 → W p l e R s m args below meth c H1 locs1 cells slots Q (F0 m (pc + 3) ls (.long r :: rest))) : W p l e R s m args below meth c H locs cells slots Q (F0 m pc ls st0) := by
  have hPc : va_P D vwCl wc H := hP.sub is (kFm hC)
  have hDc := hD.sub is hnd hC
  have hFc := va_free hD hS hA is hC
  subst hstack
  have hrecv := va_recv hK.1 hP hq he
  rw [hqC] at hrecv
  refine va_calll (va_runV S hM cw ⟨kB_blind _ _ _ _ _, hrecv, fun U hU hW => ⟨rfl, kB_at hPc hK hDc U hU hW⟩⟩ rfl hn hsize rfl (lv_room hW) hdg hf) hS (fun q _ h => hFc q h) hFc (fun r' u t H1 locs1 ht hvm hw hB hz hk hS' => ?_)
  cases hw
  rw [ht] at hB
  obtain ⟨a1, a2⟩ := kJoin hP hD is hC hk hB ha hr
  exact kk H1 locs1 a1 a2 hS'
theorem kCallVV (S : CallFix p m c cc nL s args Ts own) (hM : kMV l y wsy rm (.ref b :: As) D ty wc H.size w1) (cw : CallW R s args own C index y bytes maxL ret wsy rm 0 0 n)
    (hP : va_P D vwCl ws H) (hK : kK D ty s) (hD : va_D A0 ws) (hS : va_S A0 H0 H locs) (hA : ∀ q, H0.size ≤ q → A0 q) (is : List Nat) (hnd : va_nd is = true) (hC : is.map (fun i => ws[i]?) = wc.map some)
    (ci q0 : Nat) {q : vw_C} {fs : List Value} (hq : vwCl[ci]? = some q) (hqC : q.1 = C) (he : ws[q0]? = some (b, .inr (ci, fs))) (hn : As.length = n) (hsize : ls.size = nL) (hstack : st0 = As.reverse ++ .ref b :: rest) (hW : (rest.map fun v => v.category).sum ≤ 8) (hdg : decode cc pc = .ok (.invokevirtual index, 3)) (hf : cells ≤ R.cells ∧ slots ≤ R.slots)
    (ha : w1.map Prod.fst = wc.map Prod.fst) (hr : kRep ws is w1 = wn)
    (kk : ∀ (H1 : Heap) (locs1 : List Loc), va_P D vwCl wn H1 → va_D A0 wn → va_S A0 H0 H1 locs1 → W p l e R s m args below meth c H1 locs1 cells slots Q (F0 m (pc + 3) ls rest)) : W p l e R s m args below meth c H locs cells slots Q (F0 m pc ls st0) := by
  have hPc : va_P D vwCl wc H := hP.sub is (kFm hC)
  have hDc := hD.sub is hnd hC
  have hFc := va_free hD hS hA is hC
  subst hstack
  have hrecv := va_recv hK.1 hP hq he
  rw [hqC] at hrecv
  refine va_callv (va_runV S hM cw ⟨kB_blind _ _ _ _ _, hrecv, fun U hU hW => ⟨rfl, kB_at hPc hK hDc U hU hW⟩⟩ rfl hn hsize rfl (lv_room hW) hdg hf) hS (fun q _ h => hFc q h) hFc (fun u t H1 locs1 ht hvm hw hB hz hk hS' => ?_)
  rw [ht] at hB
  obtain ⟨a1, a2⟩ := kJoin hP hD is hC hk hB ha hr
  exact kk H1 locs1 a1 a2 hS'
/-- a static call of a method of no cells -/
theorem kCallSI {r : Int32} (S : CallFix p m c cc nL s args Ts own) (hM : kMI l y wsy rm As D ty [] H.size r []) (cw : CallB R s args own index y bytes maxL ret wsy rm 0 0 n ∧ (Cond.static y).before args s = true)
    (hP : va_P D vwCl ws H) (hK : kK D ty s) (hD : va_D A0 ws) (hS : va_S A0 H0 H locs) (hA : ∀ q, H0.size ≤ q → A0 q) (hn : As.length = n) (hsize : ls.size = nL) (hstack : st0 = As.reverse ++ rest) (hW : (rest.map fun v => v.category).sum ≤ 8) (hdg : decode cc pc = .ok (.invokestatic index, 3)) (hf : cells ≤ R.cells ∧ slots ≤ R.slots)
    (kk : ∀ (H1 : Heap) (locs1 : List Loc), va_P D vwCl ws H1 → va_S A0 H0 H1 locs1 → W p l e R s m args below meth c H1 locs1 cells slots Q (F0 m (pc + 3) ls (.int r :: rest))) : W p l e R s m args below meth c H locs cells slots Q (F0 m pc ls st0) := by
  have hPc : va_P D vwCl [] H := hP.sub [] rfl
  have hDc : va_D A0 [] := hD.sub [] rfl rfl
  have hFc := va_free (wc := []) hD hS hA [] rfl
  subst hstack
  refine va_calli (va_runS S hM cw ⟨kB_blind _ _ _ _ _, fun U hU hW => ⟨rfl, kB_at hPc hK hDc U hU hW⟩⟩ rfl hn hsize rfl (lv_room hW) hdg hf) hS (fun q _ h => hFc q h) hFc (fun r' u t H1 locs1 ht hvm hw hB hz hk hS' => ?_)
  cases hw
  exact kk H1 locs1 (kStay hP hk) hS'
theorem kCallSL {r : Int64} (S : CallFix p m c cc nL s args Ts own) (hM : kML l y wsy rm As D ty [] H.size r []) (cw : CallB R s args own index y bytes maxL ret wsy rm 0 0 n ∧ (Cond.static y).before args s = true)
    (hP : va_P D vwCl ws H) (hK : kK D ty s) (hD : va_D A0 ws) (hS : va_S A0 H0 H locs) (hA : ∀ q, H0.size ≤ q → A0 q) (hn : As.length = n) (hsize : ls.size = nL) (hstack : st0 = As.reverse ++ rest) (hW : (rest.map fun v => v.category).sum ≤ 8) (hdg : decode cc pc = .ok (.invokestatic index, 3)) (hf : cells ≤ R.cells ∧ slots ≤ R.slots)
    (kk : ∀ (H1 : Heap) (locs1 : List Loc), va_P D vwCl ws H1 → va_S A0 H0 H1 locs1 → W p l e R s m args below meth c H1 locs1 cells slots Q (F0 m (pc + 3) ls (.long r :: rest))) : W p l e R s m args below meth c H locs cells slots Q (F0 m pc ls st0) := by
  have hPc : va_P D vwCl [] H := hP.sub [] rfl
  have hDc : va_D A0 [] := hD.sub [] rfl rfl
  have hFc := va_free (wc := []) hD hS hA [] rfl
  subst hstack
  refine va_calll (va_runS S hM cw ⟨kB_blind _ _ _ _ _, fun U hU hW => ⟨rfl, kB_at hPc hK hDc U hU hW⟩⟩ rfl hn hsize rfl (lv_room hW) hdg hf) hS (fun q _ h => hFc q h) hFc (fun r' u t H1 locs1 ht hvm hw hB hz hk hS' => ?_)
  cases hw
  exact kk H1 locs1 (kStay hP hk) hS'
theorem kCallNI {r : Int32} (S : CallFix p m c cc nL s args Ts own) (hM : kMI l y wsy rm As D ty [] H.size r []) (cw : va_CN R s args own index y host bytes maxL ret wsy rm 0 0 n ∧ (Cond.static y).before args s = true ∧ True)
    (hP : va_P D vwCl ws H) (hK : kK D ty s) (hD : va_D A0 ws) (hS : va_S A0 H0 H locs) (hA : ∀ q, H0.size ≤ q → A0 q) (hn : As.length = n) (hsize : ls.size = nL) (hstack : st0 = As.reverse ++ rest) (hW : (rest.map fun v => v.category).sum ≤ 8) (hdg : decode cc pc = .ok (.invokestatic index, 3)) (hf : cells ≤ R.cells ∧ slots ≤ R.slots)
    (kk : ∀ (H1 : Heap) (locs1 : List Loc), va_P D vwCl ws H1 → va_S A0 H0 H1 locs1 → W p l e R s m args below meth c H1 locs1 cells slots Q (F0 m (pc + 3) ls (.int r :: rest))) : W p l e R s m args below meth c H locs cells slots Q (F0 m pc ls st0) := by
  have hPc : va_P D vwCl [] H := hP.sub [] rfl
  have hDc : va_D A0 [] := hD.sub [] rfl rfl
  have hFc := va_free (wc := []) hD hS hA [] rfl
  subst hstack
  refine va_calli (va_runSN S hM cw ⟨kB_blind _ _ _ _ _, fun U hU hW => ⟨rfl, kB_at hPc hK hDc U hU hW⟩⟩ rfl hn hsize rfl (lv_room hW) hdg hf) hS (fun q _ h => hFc q h) hFc (fun r' u t H1 locs1 ht hvm hw hB hz hk hS' => ?_)
  cases hw
  exact kk H1 locs1 (kStay hP hk) hS'
theorem kCallNL {r : Int64} (S : CallFix p m c cc nL s args Ts own) (hM : kML l y wsy rm As D ty [] H.size r []) (cw : va_CN R s args own index y host bytes maxL ret wsy rm 0 0 n ∧ (Cond.static y).before args s = true ∧ True)
    (hP : va_P D vwCl ws H) (hK : kK D ty s) (hD : va_D A0 ws) (hS : va_S A0 H0 H locs) (hA : ∀ q, H0.size ≤ q → A0 q) (hn : As.length = n) (hsize : ls.size = nL) (hstack : st0 = As.reverse ++ rest) (hW : (rest.map fun v => v.category).sum ≤ 8) (hdg : decode cc pc = .ok (.invokestatic index, 3)) (hf : cells ≤ R.cells ∧ slots ≤ R.slots)
    (kk : ∀ (H1 : Heap) (locs1 : List Loc), va_P D vwCl ws H1 → va_S A0 H0 H1 locs1 → W p l e R s m args below meth c H1 locs1 cells slots Q (F0 m (pc + 3) ls (.long r :: rest))) : W p l e R s m args below meth c H locs cells slots Q (F0 m pc ls st0) := by
  have hPc : va_P D vwCl [] H := hP.sub [] rfl
  have hDc : va_D A0 [] := hD.sub [] rfl rfl
  have hFc := va_free (wc := []) hD hS hA [] rfl
  subst hstack
  refine va_calll (va_runSN S hM cw ⟨kB_blind _ _ _ _ _, fun U hU hW => ⟨rfl, kB_at hPc hK hDc U hU hW⟩⟩ rfl hn hsize rfl (lv_room hW) hdg hf) hS (fun q _ h => hFc q h) hFc (fun r' u t H1 locs1 ht hvm hw hB hz hk hS' => ?_)
  cases hw
  exact kk H1 locs1 (kStay hP hk) hS'
end KCALL
/-! the worlds -/
abbrev KC : Type := Int32 × Int32 × Int32 × Int32 × Int32 × (Nat → Int32) × (Nat → Int32) × (Nat → Int32) × (Nat → Int32) × (Nat → Int32) × (Nat → Int32) × (Nat → Int32)
def wC (ty : kTy) (ad : Nat → Nat) (u : KC) : va_W := [(ad 0, .inr (0, [.int u.1, .int u.2.1, .int u.2.2.1, .int u.2.2.2.1, .int u.2.2.2.2.1, .ref (ad 1), .ref (ad 2), .ref (ad 3), .ref (ad 4), .ref (ad 5), .ref (ad 6), .ref (ad 7)])), (ad 1, .inl (ty.1, 16, .inl u.2.2.2.2.2.1)), (ad 2, .inl (ty.1, 16, .inl u.2.2.2.2.2.2.1)), (ad 3, .inl (ty.1, 16, .inl u.2.2.2.2.2.2.2.1)), (ad 4, .inl (ty.1, 16, .inl u.2.2.2.2.2.2.2.2.1)), (ad 5, .inl (ty.1, 16, .inl u.2.2.2.2.2.2.2.2.2.1)), (ad 6, .inl (ty.1, 16, .inl u.2.2.2.2.2.2.2.2.2.2.1)), (ad 7, .inl (ty.1, 16, .inl u.2.2.2.2.2.2.2.2.2.2.2))]
abbrev KF : Type := Int32 × (Nat → Int64) × (Nat → Int64)
def wF (ty : kTy) (ad : Nat → Nat) (u : KF) : va_W := [(ad 0, .inr (1, [.int u.1, .ref (ad 1), .ref (ad 2)])), (ad 1, .inl (ty.2.1, 16, .inr (.inl u.2.1))), (ad 2, .inl (ty.2.1, 16, .inr (.inl u.2.2)))]
abbrev KT : Type := Int32 × Int32 × (Nat → Int32) × (Nat → Int32) × (Nat → Int32)
def wT (ty : kTy) (ad : Nat → Nat) (u : KT) : va_W := [(ad 0, .inr (3, [.int u.1, .int u.2.1, .ref (ad 1), .ref (ad 2), .ref (ad 3)])), (ad 1, .inl (ty.2.2.1, 80, .inl u.2.2.1)), (ad 2, .inl (ty.1, 4, .inl u.2.2.2.1)), (ad 3, .inl (ty.1, 4, .inl u.2.2.2.2))]
abbrev KM : Type := Int32 × Int32 × Int32 × Int32 × Int32 × Int32 × (Nat → Int32) × (Nat → Int32) × (Nat → Int32) × (Nat → Int32) × (Nat → Int64) × (Nat → Int32)
def wM (ty : kTy) (ad : Nat → Nat) (u : KM) : va_W := [(ad 0, .inr (5, [.ref (ad 1), .int u.1, .ref (ad 2), .int u.2.1, .int u.2.2.1, .ref (ad 3), .ref (ad 4), .int u.2.2.2.1, .int u.2.2.2.2.1, .int u.2.2.2.2.2.1, .ref (ad 5), .ref (ad 6)])), (ad 1, .inl (ty.1, 133, .inl u.2.2.2.2.2.2.1)), (ad 2, .inl (ty.1, 1064, .inl u.2.2.2.2.2.2.2.1)), (ad 3, .inl (ty.1, 16, .inl u.2.2.2.2.2.2.2.2.1)), (ad 4, .inl (ty.1, 80, .inl u.2.2.2.2.2.2.2.2.2.1)), (ad 5, .inl (ty.2.1, 40, .inr (.inl u.2.2.2.2.2.2.2.2.2.2.1))), (ad 6, .inl (ty.1, 40, .inl u.2.2.2.2.2.2.2.2.2.2.2))]
abbrev KX : Type := Int32 × Int32
def wX (aX : Nat) (adC adH adF adT : Nat → Nat) (u : KX) : va_W := [(aX, .inr (4, [.ref (adC 0), .ref (adH 0), .ref (adF 0), .ref (adT 0), .int u.1, .int u.2]))]
abbrev KH : Type := Int32 × Int32
def wH (ty : kTy) (ad : Nat → Nat) (adS : Nat → Nat → Nat) (u : KH) : va_W := [(ad 0, .inr (2, [.ref (ad 1), .int u.1, .int u.2])), (ad 1, .inl (ty.2.2.2, 9, .inr (.inr (.inr (.inr (fun i => some (adS i 0)))))))]
abbrev KS : Type := Nat → KC
def wS (ty : kTy) (adS : Nat → Nat → Nat) (u : KS) : va_W := wC ty (adS 0) (u 0) ++ (wC ty (adS 1) (u 1) ++ (wC ty (adS 2) (u 2) ++ (wC ty (adS 3) (u 3) ++ (wC ty (adS 4) (u 4) ++ (wC ty (adS 5) (u 5) ++ (wC ty (adS 6) (u 6) ++ (wC ty (adS 7) (u 7) ++ wC ty (adS 8) (u 8))))))))
end
section
theorem dX0_init_0 : decode cX0_init 0 = .ok (.aload_n 0, 1) := by decide +kernel
theorem dX0_init_1 : decode cX0_init 1 = .ok (.invokespecial 3, 3) := by decide +kernel
theorem dX0_init_4 : decode cX0_init 4 = .ok (.aload_n 0, 1) := by decide +kernel
theorem dX0_init_5 : decode cX0_init 5 = .ok (.iconst 0, 1) := by decide +kernel
theorem dX0_init_6 : decode cX0_init 6 = .ok (.putfield 9, 3) := by decide +kernel
theorem dX0_init_9 : decode cX0_init 9 = .ok (.aload_n 0, 1) := by decide +kernel
theorem dX0_init_10 : decode cX0_init 10 = .ok (.ldc 15, 2) := by decide +kernel
theorem dX0_init_12 : decode cX0_init 12 = .ok (.putfield 16, 3) := by decide +kernel
theorem dX0_init_15 : decode cX0_init 15 = .ok (.aload_n 0, 1) := by decide +kernel
theorem dX0_init_16 : decode cX0_init 16 = .ok (.iconst 0, 1) := by decide +kernel
theorem dX0_init_17 : decode cX0_init 17 = .ok (.putfield 19, 3) := by decide +kernel
theorem dX0_init_20 : decode cX0_init 20 = .ok (.aload_n 0, 1) := by decide +kernel
theorem dX0_init_21 : decode cX0_init 21 = .ok (.sipush 300, 3) := by decide +kernel
theorem dX0_init_24 : decode cX0_init 24 = .ok (.putfield 22, 3) := by decide +kernel
theorem dX0_init_27 : decode cX0_init 27 = .ok (.aload_n 0, 1) := by decide +kernel
theorem dX0_init_28 : decode cX0_init 28 = .ok (.sipush 7000, 3) := by decide +kernel
theorem dX0_init_31 : decode cX0_init 31 = .ok (.putfield 25, 3) := by decide +kernel
theorem dX0_init_34 : decode cX0_init 34 = .ok (.aload_n 0, 1) := by decide +kernel
theorem dX0_init_35 : decode cX0_init 35 = .ok (.bipush 16, 2) := by decide +kernel
theorem dX0_init_37 : decode cX0_init 37 = .ok (.newarray .int, 2) := by decide +kernel
theorem dX0_init_39 : decode cX0_init 39 = .ok (.putfield 28, 3) := by decide +kernel
theorem dX0_init_42 : decode cX0_init 42 = .ok (.aload_n 0, 1) := by decide +kernel
theorem dX0_init_43 : decode cX0_init 43 = .ok (.bipush 16, 2) := by decide +kernel
theorem dX0_init_45 : decode cX0_init 45 = .ok (.newarray .int, 2) := by decide +kernel
theorem dX0_init_47 : decode cX0_init 47 = .ok (.putfield 32, 3) := by decide +kernel
theorem dX0_init_50 : decode cX0_init 50 = .ok (.aload_n 0, 1) := by decide +kernel
theorem dX0_init_51 : decode cX0_init 51 = .ok (.bipush 16, 2) := by decide +kernel
theorem dX0_init_53 : decode cX0_init 53 = .ok (.newarray .int, 2) := by decide +kernel
theorem dX0_init_55 : decode cX0_init 55 = .ok (.putfield 35, 3) := by decide +kernel
theorem dX0_init_58 : decode cX0_init 58 = .ok (.aload_n 0, 1) := by decide +kernel
theorem dX0_init_59 : decode cX0_init 59 = .ok (.bipush 16, 2) := by decide +kernel
theorem dX0_init_61 : decode cX0_init 61 = .ok (.newarray .int, 2) := by decide +kernel
theorem dX0_init_63 : decode cX0_init 63 = .ok (.putfield 38, 3) := by decide +kernel
theorem dX0_init_66 : decode cX0_init 66 = .ok (.aload_n 0, 1) := by decide +kernel
theorem dX0_init_67 : decode cX0_init 67 = .ok (.bipush 16, 2) := by decide +kernel
theorem dX0_init_69 : decode cX0_init 69 = .ok (.newarray .int, 2) := by decide +kernel
theorem dX0_init_71 : decode cX0_init 71 = .ok (.putfield 41, 3) := by decide +kernel
theorem dX0_init_74 : decode cX0_init 74 = .ok (.aload_n 0, 1) := by decide +kernel
theorem dX0_init_75 : decode cX0_init 75 = .ok (.bipush 16, 2) := by decide +kernel
theorem dX0_init_77 : decode cX0_init 77 = .ok (.newarray .int, 2) := by decide +kernel
theorem dX0_init_79 : decode cX0_init 79 = .ok (.putfield 44, 3) := by decide +kernel
theorem dX0_init_82 : decode cX0_init 82 = .ok (.aload_n 0, 1) := by decide +kernel
theorem dX0_init_83 : decode cX0_init 83 = .ok (.bipush 16, 2) := by decide +kernel
theorem dX0_init_85 : decode cX0_init 85 = .ok (.newarray .int, 2) := by decide +kernel
theorem dX0_init_87 : decode cX0_init 87 = .ok (.putfield 47, 3) := by decide +kernel
theorem dX0_init_90 : decode cX0_init 90 = .ok (.return_, 1) := by decide +kernel
theorem dX0_copyFrom_0 : decode cX0_copyFrom 0 = .ok (.aload_n 0, 1) := by decide +kernel
theorem dX0_copyFrom_1 : decode cX0_copyFrom 1 = .ok (.aload_n 1, 1) := by decide +kernel
theorem dX0_copyFrom_2 : decode cX0_copyFrom 2 = .ok (.getfield 9, 3) := by decide +kernel
theorem dX0_copyFrom_5 : decode cX0_copyFrom 5 = .ok (.putfield 9, 3) := by decide +kernel
theorem dX0_copyFrom_8 : decode cX0_copyFrom 8 = .ok (.aload_n 0, 1) := by decide +kernel
theorem dX0_copyFrom_9 : decode cX0_copyFrom 9 = .ok (.aload_n 1, 1) := by decide +kernel
theorem dX0_copyFrom_10 : decode cX0_copyFrom 10 = .ok (.getfield 16, 3) := by decide +kernel
theorem dX0_copyFrom_13 : decode cX0_copyFrom 13 = .ok (.putfield 16, 3) := by decide +kernel
theorem dX0_copyFrom_16 : decode cX0_copyFrom 16 = .ok (.aload_n 0, 1) := by decide +kernel
theorem dX0_copyFrom_17 : decode cX0_copyFrom 17 = .ok (.aload_n 1, 1) := by decide +kernel
theorem dX0_copyFrom_18 : decode cX0_copyFrom 18 = .ok (.getfield 19, 3) := by decide +kernel
theorem dX0_copyFrom_21 : decode cX0_copyFrom 21 = .ok (.putfield 19, 3) := by decide +kernel
theorem dX0_copyFrom_24 : decode cX0_copyFrom 24 = .ok (.aload_n 0, 1) := by decide +kernel
theorem dX0_copyFrom_25 : decode cX0_copyFrom 25 = .ok (.aload_n 1, 1) := by decide +kernel
theorem dX0_copyFrom_26 : decode cX0_copyFrom 26 = .ok (.getfield 22, 3) := by decide +kernel
theorem dX0_copyFrom_29 : decode cX0_copyFrom 29 = .ok (.putfield 22, 3) := by decide +kernel
theorem dX0_copyFrom_32 : decode cX0_copyFrom 32 = .ok (.aload_n 0, 1) := by decide +kernel
theorem dX0_copyFrom_33 : decode cX0_copyFrom 33 = .ok (.aload_n 1, 1) := by decide +kernel
theorem dX0_copyFrom_34 : decode cX0_copyFrom 34 = .ok (.getfield 25, 3) := by decide +kernel
theorem dX0_copyFrom_37 : decode cX0_copyFrom 37 = .ok (.putfield 25, 3) := by decide +kernel
theorem dX0_copyFrom_40 : decode cX0_copyFrom 40 = .ok (.aload_n 1, 1) := by decide +kernel
theorem dX0_copyFrom_41 : decode cX0_copyFrom 41 = .ok (.getfield 28, 3) := by decide +kernel
theorem dX0_copyFrom_44 : decode cX0_copyFrom 44 = .ok (.iconst 0, 1) := by decide +kernel
theorem dX0_copyFrom_45 : decode cX0_copyFrom 45 = .ok (.aload_n 0, 1) := by decide +kernel
theorem dX0_copyFrom_46 : decode cX0_copyFrom 46 = .ok (.getfield 28, 3) := by decide +kernel
theorem dX0_copyFrom_49 : decode cX0_copyFrom 49 = .ok (.iconst 0, 1) := by decide +kernel
theorem dX0_copyFrom_50 : decode cX0_copyFrom 50 = .ok (.bipush 16, 2) := by decide +kernel
theorem dX0_copyFrom_52 : decode cX0_copyFrom 52 = .ok (.invokestatic 50, 3) := by decide +kernel
theorem dX0_copyFrom_55 : decode cX0_copyFrom 55 = .ok (.aload_n 1, 1) := by decide +kernel
theorem dX0_copyFrom_56 : decode cX0_copyFrom 56 = .ok (.getfield 32, 3) := by decide +kernel
theorem dX0_copyFrom_59 : decode cX0_copyFrom 59 = .ok (.iconst 0, 1) := by decide +kernel
theorem dX0_copyFrom_60 : decode cX0_copyFrom 60 = .ok (.aload_n 0, 1) := by decide +kernel
theorem dX0_copyFrom_61 : decode cX0_copyFrom 61 = .ok (.getfield 32, 3) := by decide +kernel
theorem dX0_copyFrom_64 : decode cX0_copyFrom 64 = .ok (.iconst 0, 1) := by decide +kernel
theorem dX0_copyFrom_65 : decode cX0_copyFrom 65 = .ok (.bipush 16, 2) := by decide +kernel
theorem dX0_copyFrom_67 : decode cX0_copyFrom 67 = .ok (.invokestatic 50, 3) := by decide +kernel
theorem dX0_copyFrom_70 : decode cX0_copyFrom 70 = .ok (.aload_n 1, 1) := by decide +kernel
theorem dX0_copyFrom_71 : decode cX0_copyFrom 71 = .ok (.getfield 35, 3) := by decide +kernel
theorem dX0_copyFrom_74 : decode cX0_copyFrom 74 = .ok (.iconst 0, 1) := by decide +kernel
theorem dX0_copyFrom_75 : decode cX0_copyFrom 75 = .ok (.aload_n 0, 1) := by decide +kernel
theorem dX0_copyFrom_76 : decode cX0_copyFrom 76 = .ok (.getfield 35, 3) := by decide +kernel
theorem dX0_copyFrom_79 : decode cX0_copyFrom 79 = .ok (.iconst 0, 1) := by decide +kernel
theorem dX0_copyFrom_80 : decode cX0_copyFrom 80 = .ok (.bipush 16, 2) := by decide +kernel
theorem dX0_copyFrom_82 : decode cX0_copyFrom 82 = .ok (.invokestatic 50, 3) := by decide +kernel
theorem dX0_copyFrom_85 : decode cX0_copyFrom 85 = .ok (.aload_n 1, 1) := by decide +kernel
theorem dX0_copyFrom_86 : decode cX0_copyFrom 86 = .ok (.getfield 38, 3) := by decide +kernel
theorem dX0_copyFrom_89 : decode cX0_copyFrom 89 = .ok (.iconst 0, 1) := by decide +kernel
theorem dX0_copyFrom_90 : decode cX0_copyFrom 90 = .ok (.aload_n 0, 1) := by decide +kernel
theorem dX0_copyFrom_91 : decode cX0_copyFrom 91 = .ok (.getfield 38, 3) := by decide +kernel
theorem dX0_copyFrom_94 : decode cX0_copyFrom 94 = .ok (.iconst 0, 1) := by decide +kernel
theorem dX0_copyFrom_95 : decode cX0_copyFrom 95 = .ok (.bipush 16, 2) := by decide +kernel
theorem dX0_copyFrom_97 : decode cX0_copyFrom 97 = .ok (.invokestatic 50, 3) := by decide +kernel
theorem dX0_copyFrom_100 : decode cX0_copyFrom 100 = .ok (.aload_n 1, 1) := by decide +kernel
theorem dX0_copyFrom_101 : decode cX0_copyFrom 101 = .ok (.getfield 41, 3) := by decide +kernel
theorem dX0_copyFrom_104 : decode cX0_copyFrom 104 = .ok (.iconst 0, 1) := by decide +kernel
theorem dX0_copyFrom_105 : decode cX0_copyFrom 105 = .ok (.aload_n 0, 1) := by decide +kernel
theorem dX0_copyFrom_106 : decode cX0_copyFrom 106 = .ok (.getfield 41, 3) := by decide +kernel
theorem dX0_copyFrom_109 : decode cX0_copyFrom 109 = .ok (.iconst 0, 1) := by decide +kernel
theorem dX0_copyFrom_110 : decode cX0_copyFrom 110 = .ok (.bipush 16, 2) := by decide +kernel
theorem dX0_copyFrom_112 : decode cX0_copyFrom 112 = .ok (.invokestatic 50, 3) := by decide +kernel
theorem dX0_copyFrom_115 : decode cX0_copyFrom 115 = .ok (.aload_n 1, 1) := by decide +kernel
theorem dX0_copyFrom_116 : decode cX0_copyFrom 116 = .ok (.getfield 44, 3) := by decide +kernel
theorem dX0_copyFrom_119 : decode cX0_copyFrom 119 = .ok (.iconst 0, 1) := by decide +kernel
theorem dX0_copyFrom_120 : decode cX0_copyFrom 120 = .ok (.aload_n 0, 1) := by decide +kernel
theorem dX0_copyFrom_121 : decode cX0_copyFrom 121 = .ok (.getfield 44, 3) := by decide +kernel
theorem dX0_copyFrom_124 : decode cX0_copyFrom 124 = .ok (.iconst 0, 1) := by decide +kernel
theorem dX0_copyFrom_125 : decode cX0_copyFrom 125 = .ok (.bipush 16, 2) := by decide +kernel
theorem dX0_copyFrom_127 : decode cX0_copyFrom 127 = .ok (.invokestatic 50, 3) := by decide +kernel
theorem dX0_copyFrom_130 : decode cX0_copyFrom 130 = .ok (.aload_n 1, 1) := by decide +kernel
theorem dX0_copyFrom_131 : decode cX0_copyFrom 131 = .ok (.getfield 47, 3) := by decide +kernel
theorem dX0_copyFrom_134 : decode cX0_copyFrom 134 = .ok (.iconst 0, 1) := by decide +kernel
theorem dX0_copyFrom_135 : decode cX0_copyFrom 135 = .ok (.aload_n 0, 1) := by decide +kernel
theorem dX0_copyFrom_136 : decode cX0_copyFrom 136 = .ok (.getfield 47, 3) := by decide +kernel
theorem dX0_copyFrom_139 : decode cX0_copyFrom 139 = .ok (.iconst 0, 1) := by decide +kernel
theorem dX0_copyFrom_140 : decode cX0_copyFrom 140 = .ok (.bipush 16, 2) := by decide +kernel
theorem dX0_copyFrom_142 : decode cX0_copyFrom 142 = .ok (.invokestatic 50, 3) := by decide +kernel
theorem dX0_copyFrom_145 : decode cX0_copyFrom 145 = .ok (.return_, 1) := by decide +kernel
theorem dX0_has_0 : decode cX0_has 0 = .ok (.iload_n 1, 1) := by decide +kernel
theorem dX0_has_1 : decode cX0_has 1 = .ok (.ifCond .lt 15, 3) := by decide +kernel
theorem dX0_has_4 : decode cX0_has 4 = .ok (.iload_n 1, 1) := by decide +kernel
theorem dX0_has_5 : decode cX0_has 5 = .ok (.aload_n 0, 1) := by decide +kernel
theorem dX0_has_6 : decode cX0_has 6 = .ok (.getfield 9, 3) := by decide +kernel
theorem dX0_has_9 : decode cX0_has 9 = .ok (.if_icmp .ge 7, 3) := by decide +kernel
theorem dX0_has_12 : decode cX0_has 12 = .ok (.iconst 1, 1) := by decide +kernel
theorem dX0_has_13 : decode cX0_has 13 = .ok (.goto 4, 3) := by decide +kernel
theorem dX0_has_16 : decode cX0_has 16 = .ok (.iconst 0, 1) := by decide +kernel
theorem dX0_has_17 : decode cX0_has 17 = .ok (.ireturn, 1) := by decide +kernel
set_option maxRecDepth 20000 in
theorem ggX0_hasAsh_X0_has : GoodIn wsX0_hasAsh wsX0_has := goodIn_r _ [6, 7, 8, 9, 10, 11, 12, 13, 14, 15, 16, 17, 18, 19] (by decide +kernel) (by decide +kernel)
set_option maxRecDepth 20000 in
theorem gX0_hasAsh_X0_has : GoodIn wsX0_hasAsh (wsV RX0 56 RX0 yX0_has wsX0_has) := goodIn_app (goodIn_of _ (by decide +kernel)) ggX0_hasAsh_X0_has
theorem dX0_hasAsh_0 : decode cX0_hasAsh 0 = .ok (.aload_n 0, 1) := by decide +kernel
theorem dX0_hasAsh_1 : decode cX0_hasAsh 1 = .ok (.iload_n 1, 1) := by decide +kernel
theorem dX0_hasAsh_2 : decode cX0_hasAsh 2 = .ok (.invokevirtual 56, 3) := by decide +kernel
theorem dX0_hasAsh_5 : decode cX0_hasAsh 5 = .ok (.ifCond .eq 17, 3) := by decide +kernel
theorem dX0_hasAsh_8 : decode cX0_hasAsh 8 = .ok (.aload_n 0, 1) := by decide +kernel
theorem dX0_hasAsh_9 : decode cX0_hasAsh 9 = .ok (.getfield 41, 3) := by decide +kernel
theorem dX0_hasAsh_12 : decode cX0_hasAsh 12 = .ok (.iload_n 1, 1) := by decide +kernel
theorem dX0_hasAsh_13 : decode cX0_hasAsh 13 = .ok (.iaload, 1) := by decide +kernel
theorem dX0_hasAsh_14 : decode cX0_hasAsh 14 = .ok (.iconst (-1), 1) := by decide +kernel
theorem dX0_hasAsh_15 : decode cX0_hasAsh 15 = .ok (.if_icmp .eq 7, 3) := by decide +kernel
theorem dX0_hasAsh_18 : decode cX0_hasAsh 18 = .ok (.iconst 1, 1) := by decide +kernel
theorem dX0_hasAsh_19 : decode cX0_hasAsh 19 = .ok (.goto 4, 3) := by decide +kernel
theorem dX0_hasAsh_22 : decode cX0_hasAsh 22 = .ok (.iconst 0, 1) := by decide +kernel
theorem dX0_hasAsh_23 : decode cX0_hasAsh 23 = .ok (.ireturn, 1) := by decide +kernel
set_option maxRecDepth 20000 in
theorem ggX0_hasCount_X0_has : GoodIn wsX0_hasCount wsX0_has := goodIn_r _ [6, 7, 8, 9, 10, 11, 12, 13, 14, 15, 16, 17, 18, 19] (by decide +kernel) (by decide +kernel)
set_option maxRecDepth 20000 in
theorem gX0_hasCount_X0_has : GoodIn wsX0_hasCount (wsV RX0 56 RX0 yX0_has wsX0_has) := goodIn_app (goodIn_of _ (by decide +kernel)) ggX0_hasCount_X0_has
theorem dX0_hasCount_0 : decode cX0_hasCount 0 = .ok (.aload_n 0, 1) := by decide +kernel
theorem dX0_hasCount_1 : decode cX0_hasCount 1 = .ok (.iload_n 1, 1) := by decide +kernel
theorem dX0_hasCount_2 : decode cX0_hasCount 2 = .ok (.invokevirtual 56, 3) := by decide +kernel
theorem dX0_hasCount_5 : decode cX0_hasCount 5 = .ok (.ifCond .eq 16, 3) := by decide +kernel
theorem dX0_hasCount_8 : decode cX0_hasCount 8 = .ok (.aload_n 0, 1) := by decide +kernel
theorem dX0_hasCount_9 : decode cX0_hasCount 9 = .ok (.getfield 47, 3) := by decide +kernel
theorem dX0_hasCount_12 : decode cX0_hasCount 12 = .ok (.iload_n 1, 1) := by decide +kernel
theorem dX0_hasCount_13 : decode cX0_hasCount 13 = .ok (.iaload, 1) := by decide +kernel
theorem dX0_hasCount_14 : decode cX0_hasCount 14 = .ok (.ifCond .eq 7, 3) := by decide +kernel
theorem dX0_hasCount_17 : decode cX0_hasCount 17 = .ok (.iconst 1, 1) := by decide +kernel
theorem dX0_hasCount_18 : decode cX0_hasCount 18 = .ok (.goto 4, 3) := by decide +kernel
theorem dX0_hasCount_21 : decode cX0_hasCount 21 = .ok (.iconst 0, 1) := by decide +kernel
theorem dX0_hasCount_22 : decode cX0_hasCount 22 = .ok (.ireturn, 1) := by decide +kernel
set_option maxRecDepth 20000 in
theorem ggX0_ashBeds_X0_hasAsh : GoodIn wsX0_ashBeds wsX0_hasAsh := goodIn_r _ [6, 7, 8, 9, 10, 5, 11, 1, 12, 13, 14, 15, 16, 17, 18, 19, 20, 21, 22, 23] (by decide +kernel) (by decide +kernel)
set_option maxRecDepth 20000 in
theorem gX0_ashBeds_X0_hasAsh : GoodIn wsX0_ashBeds (wsV RX0 60 RX0 yX0_hasAsh wsX0_hasAsh) := goodIn_app (goodIn_of _ (by decide +kernel)) ggX0_ashBeds_X0_hasAsh
theorem dX0_ashBeds_0 : decode cX0_ashBeds 0 = .ok (.iconst 0, 1) := by decide +kernel
theorem dX0_ashBeds_1 : decode cX0_ashBeds 1 = .ok (.istore_n 1, 1) := by decide +kernel
theorem dX0_ashBeds_2 : decode cX0_ashBeds 2 = .ok (.iconst 0, 1) := by decide +kernel
theorem dX0_ashBeds_3 : decode cX0_ashBeds 3 = .ok (.istore_n 2, 1) := by decide +kernel
theorem dX0_ashBeds_4 : decode cX0_ashBeds 4 = .ok (.iload_n 2, 1) := by decide +kernel
theorem dX0_ashBeds_5 : decode cX0_ashBeds 5 = .ok (.aload_n 0, 1) := by decide +kernel
theorem dX0_ashBeds_6 : decode cX0_ashBeds 6 = .ok (.getfield 9, 3) := by decide +kernel
theorem dX0_ashBeds_9 : decode cX0_ashBeds 9 = .ok (.if_icmp .ge 20, 3) := by decide +kernel
theorem dX0_ashBeds_12 : decode cX0_ashBeds 12 = .ok (.aload_n 0, 1) := by decide +kernel
theorem dX0_ashBeds_13 : decode cX0_ashBeds 13 = .ok (.iload_n 2, 1) := by decide +kernel
theorem dX0_ashBeds_14 : decode cX0_ashBeds 14 = .ok (.invokevirtual 60, 3) := by decide +kernel
theorem dX0_ashBeds_17 : decode cX0_ashBeds 17 = .ok (.ifCond .eq 6, 3) := by decide +kernel
theorem dX0_ashBeds_20 : decode cX0_ashBeds 20 = .ok (.iinc 1 1, 3) := by decide +kernel
theorem dX0_ashBeds_23 : decode cX0_ashBeds 23 = .ok (.iinc 2 1, 3) := by decide +kernel
theorem dX0_ashBeds_26 : decode cX0_ashBeds 26 = .ok (.goto (-22), 3) := by decide +kernel
theorem dX0_ashBeds_29 : decode cX0_ashBeds 29 = .ok (.iload_n 1, 1) := by decide +kernel
theorem dX0_ashBeds_30 : decode cX0_ashBeds 30 = .ok (.ireturn, 1) := by decide +kernel
theorem dX0_topOf_0 : decode cX0_topOf 0 = .ok (.iconst 0, 1) := by decide +kernel
theorem dX0_topOf_1 : decode cX0_topOf 1 = .ok (.istore_n 2, 1) := by decide +kernel
theorem dX0_topOf_2 : decode cX0_topOf 2 = .ok (.iconst 0, 1) := by decide +kernel
theorem dX0_topOf_3 : decode cX0_topOf 3 = .ok (.istore_n 3, 1) := by decide +kernel
theorem dX0_topOf_4 : decode cX0_topOf 4 = .ok (.iload_n 3, 1) := by decide +kernel
theorem dX0_topOf_5 : decode cX0_topOf 5 = .ok (.iload_n 1, 1) := by decide +kernel
theorem dX0_topOf_6 : decode cX0_topOf 6 = .ok (.if_icmp .ge 26, 3) := by decide +kernel
theorem dX0_topOf_9 : decode cX0_topOf 9 = .ok (.iload_n 3, 1) := by decide +kernel
theorem dX0_topOf_10 : decode cX0_topOf 10 = .ok (.aload_n 0, 1) := by decide +kernel
theorem dX0_topOf_11 : decode cX0_topOf 11 = .ok (.getfield 9, 3) := by decide +kernel
theorem dX0_topOf_14 : decode cX0_topOf 14 = .ok (.if_icmp .ge 18, 3) := by decide +kernel
theorem dX0_topOf_17 : decode cX0_topOf 17 = .ok (.iload_n 2, 1) := by decide +kernel
theorem dX0_topOf_18 : decode cX0_topOf 18 = .ok (.aload_n 0, 1) := by decide +kernel
theorem dX0_topOf_19 : decode cX0_topOf 19 = .ok (.getfield 28, 3) := by decide +kernel
theorem dX0_topOf_22 : decode cX0_topOf 22 = .ok (.iload_n 3, 1) := by decide +kernel
theorem dX0_topOf_23 : decode cX0_topOf 23 = .ok (.iaload, 1) := by decide +kernel
theorem dX0_topOf_24 : decode cX0_topOf 24 = .ok (.iadd, 1) := by decide +kernel
theorem dX0_topOf_25 : decode cX0_topOf 25 = .ok (.istore_n 2, 1) := by decide +kernel
theorem dX0_topOf_26 : decode cX0_topOf 26 = .ok (.iinc 3 1, 3) := by decide +kernel
theorem dX0_topOf_29 : decode cX0_topOf 29 = .ok (.goto (-25), 3) := by decide +kernel
theorem dX0_topOf_32 : decode cX0_topOf 32 = .ok (.iload_n 2, 1) := by decide +kernel
theorem dX0_topOf_33 : decode cX0_topOf 33 = .ok (.ireturn, 1) := by decide +kernel
set_option maxRecDepth 20000 in
theorem ggX0_bottom_X0_topOf : GoodIn wsX0_bottom wsX0_topOf := goodIn_r _ [6, 1, 7, 8, 9, 10, 11, 12, 13, 14, 15, 16, 17, 18, 19] (by decide +kernel) (by decide +kernel)
set_option maxRecDepth 20000 in
theorem gX0_bottom_X0_topOf : GoodIn wsX0_bottom (wsV RX0 63 RX0 yX0_topOf wsX0_topOf) := goodIn_app (goodIn_of _ (by decide +kernel)) ggX0_bottom_X0_topOf
theorem dX0_bottom_0 : decode cX0_bottom 0 = .ok (.aload_n 0, 1) := by decide +kernel
theorem dX0_bottom_1 : decode cX0_bottom 1 = .ok (.aload_n 0, 1) := by decide +kernel
theorem dX0_bottom_2 : decode cX0_bottom 2 = .ok (.getfield 9, 3) := by decide +kernel
theorem dX0_bottom_5 : decode cX0_bottom 5 = .ok (.invokevirtual 63, 3) := by decide +kernel
theorem dX0_bottom_8 : decode cX0_bottom 8 = .ok (.ireturn, 1) := by decide +kernel
set_option maxRecDepth 20000 in
theorem ggX0_append_X4_isBetween : GoodIn wsX0_append wsX4_isBetween := goodIn_r _ [15] (by decide +kernel) (by decide +kernel)
set_option maxRecDepth 20000 in
theorem gX0_append_X4_isBetween_n67 : GoodIn wsX0_append (wsX4_isBetween) := ggX0_append_X4_isBetween
set_option maxRecDepth 20000 in
theorem ggX0_append_X0_bottom : GoodIn wsX0_append wsX0_bottom := goodIn_r _ [20, 4, 21, 22, 23, 19, 24, 6, 25, 26, 27, 28, 29, 30, 31, 32, 33, 34, 35, 36] (by decide +kernel) (by decide +kernel)
set_option maxRecDepth 20000 in
theorem gX0_append_X0_bottom : GoodIn wsX0_append (wsV RX0 72 RX0 yX0_bottom wsX0_bottom) := goodIn_app (goodIn_of _ (by decide +kernel)) ggX0_append_X0_bottom
theorem dX0_append_0 : decode cX0_append 0 = .ok (.iload_n 1, 1) := by decide +kernel
theorem dX0_append_1 : decode cX0_append 1 = .ok (.iconst 1, 1) := by decide +kernel
theorem dX0_append_2 : decode cX0_append 2 = .ok (.sipush 5000, 3) := by decide +kernel
theorem dX0_append_5 : decode cX0_append 5 = .ok (.invokestatic 67, 3) := by decide +kernel
theorem dX0_append_8 : decode cX0_append 8 = .ok (.ifCond .eq 15, 3) := by decide +kernel
theorem dX0_append_11 : decode cX0_append 11 = .ok (.iload_n 2, 1) := by decide +kernel
theorem dX0_append_12 : decode cX0_append 12 = .ok (.bipush 10, 2) := by decide +kernel
theorem dX0_append_14 : decode cX0_append 14 = .ok (.sipush 2000, 3) := by decide +kernel
theorem dX0_append_17 : decode cX0_append 17 = .ok (.invokestatic 67, 3) := by decide +kernel
theorem dX0_append_20 : decode cX0_append 20 = .ok (.ifCond .ne 6, 3) := by decide +kernel
theorem dX0_append_23 : decode cX0_append 23 = .ok (.ldc 71, 2) := by decide +kernel
theorem dX0_append_25 : decode cX0_append 25 = .ok (.ireturn, 1) := by decide +kernel
theorem dX0_append_26 : decode cX0_append 26 = .ok (.aload_n 0, 1) := by decide +kernel
theorem dX0_append_27 : decode cX0_append 27 = .ok (.invokevirtual 72, 3) := by decide +kernel
theorem dX0_append_30 : decode cX0_append 30 = .ok (.iload_n 1, 1) := by decide +kernel
theorem dX0_append_31 : decode cX0_append 31 = .ok (.iadd, 1) := by decide +kernel
theorem dX0_append_32 : decode cX0_append 32 = .ok (.aload_n 0, 1) := by decide +kernel
theorem dX0_append_33 : decode cX0_append 33 = .ok (.getfield 16, 3) := by decide +kernel
theorem dX0_append_36 : decode cX0_append 36 = .ok (.if_icmp .le 6, 3) := by decide +kernel
theorem dX0_append_39 : decode cX0_append 39 = .ok (.ldc 76, 2) := by decide +kernel
theorem dX0_append_41 : decode cX0_append 41 = .ok (.ireturn, 1) := by decide +kernel
theorem dX0_append_42 : decode cX0_append 42 = .ok (.aload_n 0, 1) := by decide +kernel
theorem dX0_append_43 : decode cX0_append 43 = .ok (.getfield 9, 3) := by decide +kernel
theorem dX0_append_46 : decode cX0_append 46 = .ok (.bipush 16, 2) := by decide +kernel
theorem dX0_append_48 : decode cX0_append 48 = .ok (.if_icmp .lt 6, 3) := by decide +kernel
theorem dX0_append_51 : decode cX0_append 51 = .ok (.ldc 77, 2) := by decide +kernel
theorem dX0_append_53 : decode cX0_append 53 = .ok (.ireturn, 1) := by decide +kernel
theorem dX0_append_54 : decode cX0_append 54 = .ok (.aload_n 0, 1) := by decide +kernel
theorem dX0_append_55 : decode cX0_append 55 = .ok (.getfield 28, 3) := by decide +kernel
theorem dX0_append_58 : decode cX0_append 58 = .ok (.aload_n 0, 1) := by decide +kernel
theorem dX0_append_59 : decode cX0_append 59 = .ok (.getfield 9, 3) := by decide +kernel
theorem dX0_append_62 : decode cX0_append 62 = .ok (.iload_n 1, 1) := by decide +kernel
theorem dX0_append_63 : decode cX0_append 63 = .ok (.iastore, 1) := by decide +kernel
theorem dX0_append_64 : decode cX0_append 64 = .ok (.aload_n 0, 1) := by decide +kernel
theorem dX0_append_65 : decode cX0_append 65 = .ok (.getfield 32, 3) := by decide +kernel
theorem dX0_append_68 : decode cX0_append 68 = .ok (.aload_n 0, 1) := by decide +kernel
theorem dX0_append_69 : decode cX0_append 69 = .ok (.getfield 9, 3) := by decide +kernel
theorem dX0_append_72 : decode cX0_append 72 = .ok (.iload_n 2, 1) := by decide +kernel
theorem dX0_append_73 : decode cX0_append 73 = .ok (.iastore, 1) := by decide +kernel
theorem dX0_append_74 : decode cX0_append 74 = .ok (.aload_n 0, 1) := by decide +kernel
theorem dX0_append_75 : decode cX0_append 75 = .ok (.getfield 35, 3) := by decide +kernel
theorem dX0_append_78 : decode cX0_append 78 = .ok (.aload_n 0, 1) := by decide +kernel
theorem dX0_append_79 : decode cX0_append 79 = .ok (.getfield 9, 3) := by decide +kernel
theorem dX0_append_82 : decode cX0_append 82 = .ok (.sipush 1000, 3) := by decide +kernel
theorem dX0_append_85 : decode cX0_append 85 = .ok (.iastore, 1) := by decide +kernel
theorem dX0_append_86 : decode cX0_append 86 = .ok (.aload_n 0, 1) := by decide +kernel
theorem dX0_append_87 : decode cX0_append 87 = .ok (.getfield 38, 3) := by decide +kernel
theorem dX0_append_90 : decode cX0_append 90 = .ok (.aload_n 0, 1) := by decide +kernel
theorem dX0_append_91 : decode cX0_append 91 = .ok (.getfield 9, 3) := by decide +kernel
theorem dX0_append_94 : decode cX0_append 94 = .ok (.sipush 1000, 3) := by decide +kernel
theorem dX0_append_97 : decode cX0_append 97 = .ok (.iastore, 1) := by decide +kernel
theorem dX0_append_98 : decode cX0_append 98 = .ok (.aload_n 0, 1) := by decide +kernel
theorem dX0_append_99 : decode cX0_append 99 = .ok (.getfield 41, 3) := by decide +kernel
theorem dX0_append_102 : decode cX0_append 102 = .ok (.aload_n 0, 1) := by decide +kernel
theorem dX0_append_103 : decode cX0_append 103 = .ok (.getfield 9, 3) := by decide +kernel
theorem dX0_append_106 : decode cX0_append 106 = .ok (.iconst (-1), 1) := by decide +kernel
theorem dX0_append_107 : decode cX0_append 107 = .ok (.iastore, 1) := by decide +kernel
theorem dX0_append_108 : decode cX0_append 108 = .ok (.aload_n 0, 1) := by decide +kernel
theorem dX0_append_109 : decode cX0_append 109 = .ok (.getfield 44, 3) := by decide +kernel
theorem dX0_append_112 : decode cX0_append 112 = .ok (.aload_n 0, 1) := by decide +kernel
theorem dX0_append_113 : decode cX0_append 113 = .ok (.getfield 9, 3) := by decide +kernel
theorem dX0_append_116 : decode cX0_append 116 = .ok (.iconst 0, 1) := by decide +kernel
theorem dX0_append_117 : decode cX0_append 117 = .ok (.iastore, 1) := by decide +kernel
theorem dX0_append_118 : decode cX0_append 118 = .ok (.aload_n 0, 1) := by decide +kernel
theorem dX0_append_119 : decode cX0_append 119 = .ok (.getfield 47, 3) := by decide +kernel
theorem dX0_append_122 : decode cX0_append 122 = .ok (.aload_n 0, 1) := by decide +kernel
theorem dX0_append_123 : decode cX0_append 123 = .ok (.getfield 9, 3) := by decide +kernel
theorem dX0_append_126 : decode cX0_append 126 = .ok (.iconst 0, 1) := by decide +kernel
theorem dX0_append_127 : decode cX0_append 127 = .ok (.iastore, 1) := by decide +kernel
theorem dX0_append_128 : decode cX0_append 128 = .ok (.aload_n 0, 1) := by decide +kernel
theorem dX0_append_129 : decode cX0_append 129 = .ok (.dup, 1) := by decide +kernel
theorem dX0_append_130 : decode cX0_append 130 = .ok (.getfield 9, 3) := by decide +kernel
theorem dX0_append_133 : decode cX0_append 133 = .ok (.iconst 1, 1) := by decide +kernel
theorem dX0_append_134 : decode cX0_append 134 = .ok (.iadd, 1) := by decide +kernel
theorem dX0_append_135 : decode cX0_append 135 = .ok (.putfield 9, 3) := by decide +kernel
theorem dX0_append_138 : decode cX0_append 138 = .ok (.aload_n 0, 1) := by decide +kernel
theorem dX0_append_139 : decode cX0_append 139 = .ok (.getfield 9, 3) := by decide +kernel
theorem dX0_append_142 : decode cX0_append 142 = .ok (.iconst 1, 1) := by decide +kernel
theorem dX0_append_143 : decode cX0_append 143 = .ok (.isub, 1) := by decide +kernel
theorem dX0_append_144 : decode cX0_append 144 = .ok (.ireturn, 1) := by decide +kernel
theorem dX0_dropLowest_0 : decode cX0_dropLowest 0 = .ok (.aload_n 0, 1) := by decide +kernel
theorem dX0_dropLowest_1 : decode cX0_dropLowest 1 = .ok (.getfield 9, 3) := by decide +kernel
theorem dX0_dropLowest_4 : decode cX0_dropLowest 4 = .ok (.ifCond .ne 6, 3) := by decide +kernel
theorem dX0_dropLowest_7 : decode cX0_dropLowest 7 = .ok (.ldc 76, 2) := by decide +kernel
theorem dX0_dropLowest_9 : decode cX0_dropLowest 9 = .ok (.ireturn, 1) := by decide +kernel
theorem dX0_dropLowest_10 : decode cX0_dropLowest 10 = .ok (.aload_n 0, 1) := by decide +kernel
theorem dX0_dropLowest_11 : decode cX0_dropLowest 11 = .ok (.dup, 1) := by decide +kernel
theorem dX0_dropLowest_12 : decode cX0_dropLowest 12 = .ok (.getfield 9, 3) := by decide +kernel
theorem dX0_dropLowest_15 : decode cX0_dropLowest 15 = .ok (.iconst 1, 1) := by decide +kernel
theorem dX0_dropLowest_16 : decode cX0_dropLowest 16 = .ok (.isub, 1) := by decide +kernel
theorem dX0_dropLowest_17 : decode cX0_dropLowest 17 = .ok (.putfield 9, 3) := by decide +kernel
theorem dX0_dropLowest_20 : decode cX0_dropLowest 20 = .ok (.aload_n 0, 1) := by decide +kernel
theorem dX0_dropLowest_21 : decode cX0_dropLowest 21 = .ok (.getfield 9, 3) := by decide +kernel
theorem dX0_dropLowest_24 : decode cX0_dropLowest 24 = .ok (.ireturn, 1) := by decide +kernel
set_option maxRecDepth 20000 in
theorem ggX0_split_X0_has : GoodIn wsX0_split wsX0_has := goodIn_r _ [12, 4, 24, 25, 26, 27, 28, 29, 30, 31, 32, 33, 34, 35] (by decide +kernel) (by decide +kernel)
set_option maxRecDepth 20000 in
theorem gX0_split_X0_has : GoodIn wsX0_split (wsV RX0 56 RX0 yX0_has wsX0_has) := goodIn_app (goodIn_of _ (by decide +kernel)) ggX0_split_X0_has
set_option maxRecDepth 20000 in
theorem ggX0_split_X4_isBetween : GoodIn wsX0_split wsX4_isBetween := goodIn_r _ [15] (by decide +kernel) (by decide +kernel)
set_option maxRecDepth 20000 in
theorem gX0_split_X4_isBetween_n67 : GoodIn wsX0_split (wsX4_isBetween) := ggX0_split_X4_isBetween
set_option maxRecDepth 20000 in
theorem ggX0_split_X0_copyLayer : GoodIn wsX0_split wsX0_copyLayer := goodIn_r _ [19, 2, 20, 21, 22, 6, 23, 7, 24, 25, 26, 27, 28, 29, 30, 31, 32, 33, 34, 35] (by decide +kernel) (by decide +kernel)
set_option maxRecDepth 20000 in
theorem gX0_split_X0_copyLayer : GoodIn wsX0_split (wsV RX0 79 RX0 yX0_copyLayer wsX0_copyLayer) := goodIn_app (goodIn_of _ (by decide +kernel)) ggX0_split_X0_copyLayer
theorem dX0_split_0 : decode cX0_split 0 = .ok (.aload_n 0, 1) := by decide +kernel
theorem dX0_split_1 : decode cX0_split 1 = .ok (.iload_n 1, 1) := by decide +kernel
theorem dX0_split_2 : decode cX0_split 2 = .ok (.invokevirtual 56, 3) := by decide +kernel
theorem dX0_split_5 : decode cX0_split 5 = .ok (.ifCond .ne 6, 3) := by decide +kernel
theorem dX0_split_8 : decode cX0_split 8 = .ok (.ldc 78, 2) := by decide +kernel
theorem dX0_split_10 : decode cX0_split 10 = .ok (.ireturn, 1) := by decide +kernel
theorem dX0_split_11 : decode cX0_split 11 = .ok (.iload_n 2, 1) := by decide +kernel
theorem dX0_split_12 : decode cX0_split 12 = .ok (.iconst 1, 1) := by decide +kernel
theorem dX0_split_13 : decode cX0_split 13 = .ok (.aload_n 0, 1) := by decide +kernel
theorem dX0_split_14 : decode cX0_split 14 = .ok (.getfield 28, 3) := by decide +kernel
theorem dX0_split_17 : decode cX0_split 17 = .ok (.iload_n 1, 1) := by decide +kernel
theorem dX0_split_18 : decode cX0_split 18 = .ok (.iaload, 1) := by decide +kernel
theorem dX0_split_19 : decode cX0_split 19 = .ok (.iconst 1, 1) := by decide +kernel
theorem dX0_split_20 : decode cX0_split 20 = .ok (.isub, 1) := by decide +kernel
theorem dX0_split_21 : decode cX0_split 21 = .ok (.invokestatic 67, 3) := by decide +kernel
theorem dX0_split_24 : decode cX0_split 24 = .ok (.ifCond .ne 6, 3) := by decide +kernel
theorem dX0_split_27 : decode cX0_split 27 = .ok (.ldc 71, 2) := by decide +kernel
theorem dX0_split_29 : decode cX0_split 29 = .ok (.ireturn, 1) := by decide +kernel
theorem dX0_split_30 : decode cX0_split 30 = .ok (.aload_n 0, 1) := by decide +kernel
theorem dX0_split_31 : decode cX0_split 31 = .ok (.getfield 9, 3) := by decide +kernel
theorem dX0_split_34 : decode cX0_split 34 = .ok (.bipush 16, 2) := by decide +kernel
theorem dX0_split_36 : decode cX0_split 36 = .ok (.if_icmp .lt 6, 3) := by decide +kernel
theorem dX0_split_39 : decode cX0_split 39 = .ok (.ldc 77, 2) := by decide +kernel
theorem dX0_split_41 : decode cX0_split 41 = .ok (.ireturn, 1) := by decide +kernel
theorem dX0_split_42 : decode cX0_split 42 = .ok (.aload_n 0, 1) := by decide +kernel
theorem dX0_split_43 : decode cX0_split 43 = .ok (.getfield 9, 3) := by decide +kernel
theorem dX0_split_46 : decode cX0_split 46 = .ok (.istore_n 3, 1) := by decide +kernel
theorem dX0_split_47 : decode cX0_split 47 = .ok (.iload_n 3, 1) := by decide +kernel
theorem dX0_split_48 : decode cX0_split 48 = .ok (.iload_n 1, 1) := by decide +kernel
theorem dX0_split_49 : decode cX0_split 49 = .ok (.if_icmp .le 17, 3) := by decide +kernel
theorem dX0_split_52 : decode cX0_split 52 = .ok (.aload_n 0, 1) := by decide +kernel
theorem dX0_split_53 : decode cX0_split 53 = .ok (.iload_n 3, 1) := by decide +kernel
theorem dX0_split_54 : decode cX0_split 54 = .ok (.iconst 1, 1) := by decide +kernel
theorem dX0_split_55 : decode cX0_split 55 = .ok (.isub, 1) := by decide +kernel
theorem dX0_split_56 : decode cX0_split 56 = .ok (.iload_n 3, 1) := by decide +kernel
theorem dX0_split_57 : decode cX0_split 57 = .ok (.invokevirtual 79, 3) := by decide +kernel
theorem dX0_split_60 : decode cX0_split 60 = .ok (.iinc 3 (-1), 3) := by decide +kernel
theorem dX0_split_63 : decode cX0_split 63 = .ok (.goto (-16), 3) := by decide +kernel
theorem dX0_split_66 : decode cX0_split 66 = .ok (.aload_n 0, 1) := by decide +kernel
theorem dX0_split_67 : decode cX0_split 67 = .ok (.dup, 1) := by decide +kernel
theorem dX0_split_68 : decode cX0_split 68 = .ok (.getfield 9, 3) := by decide +kernel
theorem dX0_split_71 : decode cX0_split 71 = .ok (.iconst 1, 1) := by decide +kernel
theorem dX0_split_72 : decode cX0_split 72 = .ok (.iadd, 1) := by decide +kernel
theorem dX0_split_73 : decode cX0_split 73 = .ok (.putfield 9, 3) := by decide +kernel
theorem dX0_split_76 : decode cX0_split 76 = .ok (.aload_n 0, 1) := by decide +kernel
theorem dX0_split_77 : decode cX0_split 77 = .ok (.getfield 28, 3) := by decide +kernel
theorem dX0_split_80 : decode cX0_split 80 = .ok (.iload_n 1, 1) := by decide +kernel
theorem dX0_split_81 : decode cX0_split 81 = .ok (.iload_n 2, 1) := by decide +kernel
theorem dX0_split_82 : decode cX0_split 82 = .ok (.iastore, 1) := by decide +kernel
theorem dX0_split_83 : decode cX0_split 83 = .ok (.aload_n 0, 1) := by decide +kernel
theorem dX0_split_84 : decode cX0_split 84 = .ok (.getfield 28, 3) := by decide +kernel
theorem dX0_split_87 : decode cX0_split 87 = .ok (.iload_n 1, 1) := by decide +kernel
theorem dX0_split_88 : decode cX0_split 88 = .ok (.iconst 1, 1) := by decide +kernel
theorem dX0_split_89 : decode cX0_split 89 = .ok (.iadd, 1) := by decide +kernel
theorem dX0_split_90 : decode cX0_split 90 = .ok (.dup2, 1) := by decide +kernel
theorem dX0_split_91 : decode cX0_split 91 = .ok (.iaload, 1) := by decide +kernel
theorem dX0_split_92 : decode cX0_split 92 = .ok (.iload_n 2, 1) := by decide +kernel
theorem dX0_split_93 : decode cX0_split 93 = .ok (.isub, 1) := by decide +kernel
theorem dX0_split_94 : decode cX0_split 94 = .ok (.iastore, 1) := by decide +kernel
theorem dX0_split_95 : decode cX0_split 95 = .ok (.aload_n 0, 1) := by decide +kernel
theorem dX0_split_96 : decode cX0_split 96 = .ok (.getfield 41, 3) := by decide +kernel
theorem dX0_split_99 : decode cX0_split 99 = .ok (.iload_n 1, 1) := by decide +kernel
theorem dX0_split_100 : decode cX0_split 100 = .ok (.iconst (-1), 1) := by decide +kernel
theorem dX0_split_101 : decode cX0_split 101 = .ok (.iastore, 1) := by decide +kernel
theorem dX0_split_102 : decode cX0_split 102 = .ok (.aload_n 0, 1) := by decide +kernel
theorem dX0_split_103 : decode cX0_split 103 = .ok (.getfield 47, 3) := by decide +kernel
theorem dX0_split_106 : decode cX0_split 106 = .ok (.iload_n 1, 1) := by decide +kernel
theorem dX0_split_107 : decode cX0_split 107 = .ok (.iconst 0, 1) := by decide +kernel
theorem dX0_split_108 : decode cX0_split 108 = .ok (.iastore, 1) := by decide +kernel
theorem dX0_split_109 : decode cX0_split 109 = .ok (.aload_n 0, 1) := by decide +kernel
theorem dX0_split_110 : decode cX0_split 110 = .ok (.getfield 47, 3) := by decide +kernel
theorem dX0_split_113 : decode cX0_split 113 = .ok (.iload_n 1, 1) := by decide +kernel
theorem dX0_split_114 : decode cX0_split 114 = .ok (.iconst 1, 1) := by decide +kernel
theorem dX0_split_115 : decode cX0_split 115 = .ok (.iadd, 1) := by decide +kernel
theorem dX0_split_116 : decode cX0_split 116 = .ok (.iconst 0, 1) := by decide +kernel
theorem dX0_split_117 : decode cX0_split 117 = .ok (.iastore, 1) := by decide +kernel
theorem dX0_split_118 : decode cX0_split 118 = .ok (.aload_n 0, 1) := by decide +kernel
theorem dX0_split_119 : decode cX0_split 119 = .ok (.getfield 9, 3) := by decide +kernel
theorem dX0_split_122 : decode cX0_split 122 = .ok (.ireturn, 1) := by decide +kernel
theorem dX0_copyLayer_0 : decode cX0_copyLayer 0 = .ok (.aload_n 0, 1) := by decide +kernel
theorem dX0_copyLayer_1 : decode cX0_copyLayer 1 = .ok (.getfield 28, 3) := by decide +kernel
theorem dX0_copyLayer_4 : decode cX0_copyLayer 4 = .ok (.iload_n 2, 1) := by decide +kernel
theorem dX0_copyLayer_5 : decode cX0_copyLayer 5 = .ok (.aload_n 0, 1) := by decide +kernel
theorem dX0_copyLayer_6 : decode cX0_copyLayer 6 = .ok (.getfield 28, 3) := by decide +kernel
theorem dX0_copyLayer_9 : decode cX0_copyLayer 9 = .ok (.iload_n 1, 1) := by decide +kernel
theorem dX0_copyLayer_10 : decode cX0_copyLayer 10 = .ok (.iaload, 1) := by decide +kernel
theorem dX0_copyLayer_11 : decode cX0_copyLayer 11 = .ok (.iastore, 1) := by decide +kernel
theorem dX0_copyLayer_12 : decode cX0_copyLayer 12 = .ok (.aload_n 0, 1) := by decide +kernel
theorem dX0_copyLayer_13 : decode cX0_copyLayer 13 = .ok (.getfield 32, 3) := by decide +kernel
theorem dX0_copyLayer_16 : decode cX0_copyLayer 16 = .ok (.iload_n 2, 1) := by decide +kernel
theorem dX0_copyLayer_17 : decode cX0_copyLayer 17 = .ok (.aload_n 0, 1) := by decide +kernel
theorem dX0_copyLayer_18 : decode cX0_copyLayer 18 = .ok (.getfield 32, 3) := by decide +kernel
theorem dX0_copyLayer_21 : decode cX0_copyLayer 21 = .ok (.iload_n 1, 1) := by decide +kernel
theorem dX0_copyLayer_22 : decode cX0_copyLayer 22 = .ok (.iaload, 1) := by decide +kernel
theorem dX0_copyLayer_23 : decode cX0_copyLayer 23 = .ok (.iastore, 1) := by decide +kernel
theorem dX0_copyLayer_24 : decode cX0_copyLayer 24 = .ok (.aload_n 0, 1) := by decide +kernel
theorem dX0_copyLayer_25 : decode cX0_copyLayer 25 = .ok (.getfield 35, 3) := by decide +kernel
theorem dX0_copyLayer_28 : decode cX0_copyLayer 28 = .ok (.iload_n 2, 1) := by decide +kernel
theorem dX0_copyLayer_29 : decode cX0_copyLayer 29 = .ok (.aload_n 0, 1) := by decide +kernel
theorem dX0_copyLayer_30 : decode cX0_copyLayer 30 = .ok (.getfield 35, 3) := by decide +kernel
theorem dX0_copyLayer_33 : decode cX0_copyLayer 33 = .ok (.iload_n 1, 1) := by decide +kernel
theorem dX0_copyLayer_34 : decode cX0_copyLayer 34 = .ok (.iaload, 1) := by decide +kernel
theorem dX0_copyLayer_35 : decode cX0_copyLayer 35 = .ok (.iastore, 1) := by decide +kernel
theorem dX0_copyLayer_36 : decode cX0_copyLayer 36 = .ok (.aload_n 0, 1) := by decide +kernel
theorem dX0_copyLayer_37 : decode cX0_copyLayer 37 = .ok (.getfield 38, 3) := by decide +kernel
theorem dX0_copyLayer_40 : decode cX0_copyLayer 40 = .ok (.iload_n 2, 1) := by decide +kernel
theorem dX0_copyLayer_41 : decode cX0_copyLayer 41 = .ok (.aload_n 0, 1) := by decide +kernel
theorem dX0_copyLayer_42 : decode cX0_copyLayer 42 = .ok (.getfield 38, 3) := by decide +kernel
theorem dX0_copyLayer_45 : decode cX0_copyLayer 45 = .ok (.iload_n 1, 1) := by decide +kernel
theorem dX0_copyLayer_46 : decode cX0_copyLayer 46 = .ok (.iaload, 1) := by decide +kernel
theorem dX0_copyLayer_47 : decode cX0_copyLayer 47 = .ok (.iastore, 1) := by decide +kernel
theorem dX0_copyLayer_48 : decode cX0_copyLayer 48 = .ok (.aload_n 0, 1) := by decide +kernel
theorem dX0_copyLayer_49 : decode cX0_copyLayer 49 = .ok (.getfield 41, 3) := by decide +kernel
theorem dX0_copyLayer_52 : decode cX0_copyLayer 52 = .ok (.iload_n 2, 1) := by decide +kernel
theorem dX0_copyLayer_53 : decode cX0_copyLayer 53 = .ok (.aload_n 0, 1) := by decide +kernel
theorem dX0_copyLayer_54 : decode cX0_copyLayer 54 = .ok (.getfield 41, 3) := by decide +kernel
theorem dX0_copyLayer_57 : decode cX0_copyLayer 57 = .ok (.iload_n 1, 1) := by decide +kernel
theorem dX0_copyLayer_58 : decode cX0_copyLayer 58 = .ok (.iaload, 1) := by decide +kernel
theorem dX0_copyLayer_59 : decode cX0_copyLayer 59 = .ok (.iastore, 1) := by decide +kernel
theorem dX0_copyLayer_60 : decode cX0_copyLayer 60 = .ok (.aload_n 0, 1) := by decide +kernel
theorem dX0_copyLayer_61 : decode cX0_copyLayer 61 = .ok (.getfield 44, 3) := by decide +kernel
theorem dX0_copyLayer_64 : decode cX0_copyLayer 64 = .ok (.iload_n 2, 1) := by decide +kernel
theorem dX0_copyLayer_65 : decode cX0_copyLayer 65 = .ok (.aload_n 0, 1) := by decide +kernel
theorem dX0_copyLayer_66 : decode cX0_copyLayer 66 = .ok (.getfield 44, 3) := by decide +kernel
theorem dX0_copyLayer_69 : decode cX0_copyLayer 69 = .ok (.iload_n 1, 1) := by decide +kernel
theorem dX0_copyLayer_70 : decode cX0_copyLayer 70 = .ok (.iaload, 1) := by decide +kernel
theorem dX0_copyLayer_71 : decode cX0_copyLayer 71 = .ok (.iastore, 1) := by decide +kernel
theorem dX0_copyLayer_72 : decode cX0_copyLayer 72 = .ok (.aload_n 0, 1) := by decide +kernel
theorem dX0_copyLayer_73 : decode cX0_copyLayer 73 = .ok (.getfield 47, 3) := by decide +kernel
theorem dX0_copyLayer_76 : decode cX0_copyLayer 76 = .ok (.iload_n 2, 1) := by decide +kernel
theorem dX0_copyLayer_77 : decode cX0_copyLayer 77 = .ok (.aload_n 0, 1) := by decide +kernel
theorem dX0_copyLayer_78 : decode cX0_copyLayer 78 = .ok (.getfield 47, 3) := by decide +kernel
theorem dX0_copyLayer_81 : decode cX0_copyLayer 81 = .ok (.iload_n 1, 1) := by decide +kernel
theorem dX0_copyLayer_82 : decode cX0_copyLayer 82 = .ok (.iaload, 1) := by decide +kernel
theorem dX0_copyLayer_83 : decode cX0_copyLayer 83 = .ok (.iastore, 1) := by decide +kernel
theorem dX0_copyLayer_84 : decode cX0_copyLayer 84 = .ok (.return_, 1) := by decide +kernel
set_option maxRecDepth 20000 in
theorem ggX0_putBed_X4_isBetween : GoodIn wsX0_putBed wsX4_isBetween := goodIn_r _ [7] (by decide +kernel) (by decide +kernel)
set_option maxRecDepth 20000 in
theorem gX0_putBed_X4_isBetween_n67 : GoodIn wsX0_putBed (wsX4_isBetween) := ggX0_putBed_X4_isBetween
set_option maxRecDepth 20000 in
theorem ggX0_putBed_X0_bottom : GoodIn wsX0_putBed wsX0_bottom := goodIn_r _ [12, 13, 14, 15, 16, 11, 17, 18, 19, 20, 21, 22, 23, 24, 25, 26, 27, 28, 29, 30] (by decide +kernel) (by decide +kernel)
set_option maxRecDepth 20000 in
theorem gX0_putBed_X0_bottom : GoodIn wsX0_putBed (wsV RX0 72 RX0 yX0_bottom wsX0_bottom) := goodIn_app (goodIn_of _ (by decide +kernel)) ggX0_putBed_X0_bottom
theorem dX0_putBed_0 : decode cX0_putBed 0 = .ok (.iload_n 1, 1) := by decide +kernel
theorem dX0_putBed_1 : decode cX0_putBed 1 = .ok (.sipush 1000, 3) := by decide +kernel
theorem dX0_putBed_4 : decode cX0_putBed 4 = .ok (.ldc 83, 2) := by decide +kernel
theorem dX0_putBed_6 : decode cX0_putBed 6 = .ok (.invokestatic 67, 3) := by decide +kernel
theorem dX0_putBed_9 : decode cX0_putBed 9 = .ok (.ifCond .ne 6, 3) := by decide +kernel
theorem dX0_putBed_12 : decode cX0_putBed 12 = .ok (.ldc 71, 2) := by decide +kernel
theorem dX0_putBed_14 : decode cX0_putBed 14 = .ok (.ireturn, 1) := by decide +kernel
theorem dX0_putBed_15 : decode cX0_putBed 15 = .ok (.aload_n 0, 1) := by decide +kernel
theorem dX0_putBed_16 : decode cX0_putBed 16 = .ok (.invokevirtual 72, 3) := by decide +kernel
theorem dX0_putBed_19 : decode cX0_putBed 19 = .ok (.iload_n 1, 1) := by decide +kernel
theorem dX0_putBed_20 : decode cX0_putBed 20 = .ok (.if_icmp .le 6, 3) := by decide +kernel
theorem dX0_putBed_23 : decode cX0_putBed 23 = .ok (.ldc 76, 2) := by decide +kernel
theorem dX0_putBed_25 : decode cX0_putBed 25 = .ok (.ireturn, 1) := by decide +kernel
theorem dX0_putBed_26 : decode cX0_putBed 26 = .ok (.aload_n 0, 1) := by decide +kernel
theorem dX0_putBed_27 : decode cX0_putBed 27 = .ok (.getfield 16, 3) := by decide +kernel
theorem dX0_putBed_30 : decode cX0_putBed 30 = .ok (.istore_n 2, 1) := by decide +kernel
theorem dX0_putBed_31 : decode cX0_putBed 31 = .ok (.aload_n 0, 1) := by decide +kernel
theorem dX0_putBed_32 : decode cX0_putBed 32 = .ok (.iload_n 1, 1) := by decide +kernel
theorem dX0_putBed_33 : decode cX0_putBed 33 = .ok (.putfield 16, 3) := by decide +kernel
theorem dX0_putBed_36 : decode cX0_putBed 36 = .ok (.iload_n 2, 1) := by decide +kernel
theorem dX0_putBed_37 : decode cX0_putBed 37 = .ok (.ireturn, 1) := by decide +kernel
set_option maxRecDepth 20000 in
theorem ggX0_putFunction_X4_isBetween : GoodIn wsX0_putFunction wsX4_isBetween := goodIn_r _ [5] (by decide +kernel) (by decide +kernel)
set_option maxRecDepth 20000 in
theorem gX0_putFunction_X4_isBetween_n67 : GoodIn wsX0_putFunction (wsX4_isBetween) := ggX0_putFunction_X4_isBetween
theorem dX0_putFunction_0 : decode cX0_putFunction 0 = .ok (.iload_n 1, 1) := by decide +kernel
theorem dX0_putFunction_1 : decode cX0_putFunction 1 = .ok (.iconst 0, 1) := by decide +kernel
theorem dX0_putFunction_2 : decode cX0_putFunction 2 = .ok (.iconst 2, 1) := by decide +kernel
theorem dX0_putFunction_3 : decode cX0_putFunction 3 = .ok (.invokestatic 67, 3) := by decide +kernel
theorem dX0_putFunction_6 : decode cX0_putFunction 6 = .ok (.ifCond .ne 6, 3) := by decide +kernel
theorem dX0_putFunction_9 : decode cX0_putFunction 9 = .ok (.ldc 71, 2) := by decide +kernel
theorem dX0_putFunction_11 : decode cX0_putFunction 11 = .ok (.ireturn, 1) := by decide +kernel
theorem dX0_putFunction_12 : decode cX0_putFunction 12 = .ok (.aload_n 0, 1) := by decide +kernel
theorem dX0_putFunction_13 : decode cX0_putFunction 13 = .ok (.getfield 19, 3) := by decide +kernel
theorem dX0_putFunction_16 : decode cX0_putFunction 16 = .ok (.istore_n 2, 1) := by decide +kernel
theorem dX0_putFunction_17 : decode cX0_putFunction 17 = .ok (.aload_n 0, 1) := by decide +kernel
theorem dX0_putFunction_18 : decode cX0_putFunction 18 = .ok (.iload_n 1, 1) := by decide +kernel
theorem dX0_putFunction_19 : decode cX0_putFunction 19 = .ok (.putfield 19, 3) := by decide +kernel
theorem dX0_putFunction_22 : decode cX0_putFunction 22 = .ok (.iload_n 2, 1) := by decide +kernel
theorem dX0_putFunction_23 : decode cX0_putFunction 23 = .ok (.ireturn, 1) := by decide +kernel
set_option maxRecDepth 20000 in
theorem ggX0_putKink_X4_isBetween : GoodIn wsX0_putKink wsX4_isBetween := goodIn_r _ [5] (by decide +kernel) (by decide +kernel)
set_option maxRecDepth 20000 in
theorem gX0_putKink_X4_isBetween_n67 : GoodIn wsX0_putKink (wsX4_isBetween) := ggX0_putKink_X4_isBetween
theorem dX0_putKink_0 : decode cX0_putKink 0 = .ok (.iload_n 1, 1) := by decide +kernel
theorem dX0_putKink_1 : decode cX0_putKink 1 = .ok (.iconst 0, 1) := by decide +kernel
theorem dX0_putKink_2 : decode cX0_putKink 2 = .ok (.sipush 900, 3) := by decide +kernel
theorem dX0_putKink_5 : decode cX0_putKink 5 = .ok (.invokestatic 67, 3) := by decide +kernel
theorem dX0_putKink_8 : decode cX0_putKink 8 = .ok (.ifCond .ne 6, 3) := by decide +kernel
theorem dX0_putKink_11 : decode cX0_putKink 11 = .ok (.ldc 71, 2) := by decide +kernel
theorem dX0_putKink_13 : decode cX0_putKink 13 = .ok (.ireturn, 1) := by decide +kernel
theorem dX0_putKink_14 : decode cX0_putKink 14 = .ok (.aload_n 0, 1) := by decide +kernel
theorem dX0_putKink_15 : decode cX0_putKink 15 = .ok (.getfield 22, 3) := by decide +kernel
theorem dX0_putKink_18 : decode cX0_putKink 18 = .ok (.istore_n 2, 1) := by decide +kernel
theorem dX0_putKink_19 : decode cX0_putKink 19 = .ok (.aload_n 0, 1) := by decide +kernel
theorem dX0_putKink_20 : decode cX0_putKink 20 = .ok (.iload_n 1, 1) := by decide +kernel
theorem dX0_putKink_21 : decode cX0_putKink 21 = .ok (.putfield 22, 3) := by decide +kernel
theorem dX0_putKink_24 : decode cX0_putKink 24 = .ok (.iload_n 2, 1) := by decide +kernel
theorem dX0_putKink_25 : decode cX0_putKink 25 = .ok (.ireturn, 1) := by decide +kernel
set_option maxRecDepth 20000 in
theorem ggX0_putTold_X0_has : GoodIn wsX0_putTold wsX0_has := goodIn_r _ [8, 9, 13, 14, 15, 16, 17, 18, 19, 20, 21, 22, 23, 24] (by decide +kernel) (by decide +kernel)
set_option maxRecDepth 20000 in
theorem gX0_putTold_X0_has : GoodIn wsX0_putTold (wsV RX0 56 RX0 yX0_has wsX0_has) := goodIn_app (goodIn_of _ (by decide +kernel)) ggX0_putTold_X0_has
set_option maxRecDepth 20000 in
theorem ggX0_putTold_X4_isBetween : GoodIn wsX0_putTold wsX4_isBetween := goodIn_r _ [12] (by decide +kernel) (by decide +kernel)
set_option maxRecDepth 20000 in
theorem gX0_putTold_X4_isBetween_n67 : GoodIn wsX0_putTold (wsX4_isBetween) := ggX0_putTold_X4_isBetween
theorem dX0_putTold_0 : decode cX0_putTold 0 = .ok (.aload_n 0, 1) := by decide +kernel
theorem dX0_putTold_1 : decode cX0_putTold 1 = .ok (.iload_n 1, 1) := by decide +kernel
theorem dX0_putTold_2 : decode cX0_putTold 2 = .ok (.invokevirtual 56, 3) := by decide +kernel
theorem dX0_putTold_5 : decode cX0_putTold 5 = .ok (.ifCond .ne 6, 3) := by decide +kernel
theorem dX0_putTold_8 : decode cX0_putTold 8 = .ok (.ldc 78, 2) := by decide +kernel
theorem dX0_putTold_10 : decode cX0_putTold 10 = .ok (.ireturn, 1) := by decide +kernel
theorem dX0_putTold_11 : decode cX0_putTold 11 = .ok (.iload_n 2, 1) := by decide +kernel
theorem dX0_putTold_12 : decode cX0_putTold 12 = .ok (.bipush 10, 2) := by decide +kernel
theorem dX0_putTold_14 : decode cX0_putTold 14 = .ok (.sipush 1000, 3) := by decide +kernel
theorem dX0_putTold_17 : decode cX0_putTold 17 = .ok (.invokestatic 67, 3) := by decide +kernel
theorem dX0_putTold_20 : decode cX0_putTold 20 = .ok (.ifCond .ne 6, 3) := by decide +kernel
theorem dX0_putTold_23 : decode cX0_putTold 23 = .ok (.ldc 71, 2) := by decide +kernel
theorem dX0_putTold_25 : decode cX0_putTold 25 = .ok (.ireturn, 1) := by decide +kernel
theorem dX0_putTold_26 : decode cX0_putTold 26 = .ok (.aload_n 0, 1) := by decide +kernel
theorem dX0_putTold_27 : decode cX0_putTold 27 = .ok (.getfield 38, 3) := by decide +kernel
theorem dX0_putTold_30 : decode cX0_putTold 30 = .ok (.iload_n 1, 1) := by decide +kernel
theorem dX0_putTold_31 : decode cX0_putTold 31 = .ok (.iaload, 1) := by decide +kernel
theorem dX0_putTold_32 : decode cX0_putTold 32 = .ok (.istore_n 3, 1) := by decide +kernel
theorem dX0_putTold_33 : decode cX0_putTold 33 = .ok (.aload_n 0, 1) := by decide +kernel
theorem dX0_putTold_34 : decode cX0_putTold 34 = .ok (.getfield 38, 3) := by decide +kernel
theorem dX0_putTold_37 : decode cX0_putTold 37 = .ok (.iload_n 1, 1) := by decide +kernel
theorem dX0_putTold_38 : decode cX0_putTold 38 = .ok (.iload_n 2, 1) := by decide +kernel
theorem dX0_putTold_39 : decode cX0_putTold 39 = .ok (.iastore, 1) := by decide +kernel
theorem dX0_putTold_40 : decode cX0_putTold 40 = .ok (.iload_n 3, 1) := by decide +kernel
theorem dX0_putTold_41 : decode cX0_putTold 41 = .ok (.ireturn, 1) := by decide +kernel
set_option maxRecDepth 20000 in
theorem ggX0_putCorrection_X0_has : GoodIn wsX0_putCorrection wsX0_has := goodIn_r _ [8, 9, 13, 14, 15, 16, 17, 18, 19, 20, 21, 22, 23, 24] (by decide +kernel) (by decide +kernel)
set_option maxRecDepth 20000 in
theorem gX0_putCorrection_X0_has : GoodIn wsX0_putCorrection (wsV RX0 56 RX0 yX0_has wsX0_has) := goodIn_app (goodIn_of _ (by decide +kernel)) ggX0_putCorrection_X0_has
set_option maxRecDepth 20000 in
theorem ggX0_putCorrection_X4_isBetween : GoodIn wsX0_putCorrection wsX4_isBetween := goodIn_r _ [12] (by decide +kernel) (by decide +kernel)
set_option maxRecDepth 20000 in
theorem gX0_putCorrection_X4_isBetween_n67 : GoodIn wsX0_putCorrection (wsX4_isBetween) := ggX0_putCorrection_X4_isBetween
theorem dX0_putCorrection_0 : decode cX0_putCorrection 0 = .ok (.aload_n 0, 1) := by decide +kernel
theorem dX0_putCorrection_1 : decode cX0_putCorrection 1 = .ok (.iload_n 1, 1) := by decide +kernel
theorem dX0_putCorrection_2 : decode cX0_putCorrection 2 = .ok (.invokevirtual 56, 3) := by decide +kernel
theorem dX0_putCorrection_5 : decode cX0_putCorrection 5 = .ok (.ifCond .ne 6, 3) := by decide +kernel
theorem dX0_putCorrection_8 : decode cX0_putCorrection 8 = .ok (.ldc 78, 2) := by decide +kernel
theorem dX0_putCorrection_10 : decode cX0_putCorrection 10 = .ok (.ireturn, 1) := by decide +kernel
theorem dX0_putCorrection_11 : decode cX0_putCorrection 11 = .ok (.iload_n 2, 1) := by decide +kernel
theorem dX0_putCorrection_12 : decode cX0_putCorrection 12 = .ok (.sipush 200, 3) := by decide +kernel
theorem dX0_putCorrection_15 : decode cX0_putCorrection 15 = .ok (.sipush 5000, 3) := by decide +kernel
theorem dX0_putCorrection_18 : decode cX0_putCorrection 18 = .ok (.invokestatic 67, 3) := by decide +kernel
theorem dX0_putCorrection_21 : decode cX0_putCorrection 21 = .ok (.ifCond .ne 6, 3) := by decide +kernel
theorem dX0_putCorrection_24 : decode cX0_putCorrection 24 = .ok (.ldc 71, 2) := by decide +kernel
theorem dX0_putCorrection_26 : decode cX0_putCorrection 26 = .ok (.ireturn, 1) := by decide +kernel
theorem dX0_putCorrection_27 : decode cX0_putCorrection 27 = .ok (.aload_n 0, 1) := by decide +kernel
theorem dX0_putCorrection_28 : decode cX0_putCorrection 28 = .ok (.getfield 35, 3) := by decide +kernel
theorem dX0_putCorrection_31 : decode cX0_putCorrection 31 = .ok (.iload_n 1, 1) := by decide +kernel
theorem dX0_putCorrection_32 : decode cX0_putCorrection 32 = .ok (.iaload, 1) := by decide +kernel
theorem dX0_putCorrection_33 : decode cX0_putCorrection 33 = .ok (.istore_n 3, 1) := by decide +kernel
theorem dX0_putCorrection_34 : decode cX0_putCorrection 34 = .ok (.aload_n 0, 1) := by decide +kernel
theorem dX0_putCorrection_35 : decode cX0_putCorrection 35 = .ok (.getfield 35, 3) := by decide +kernel
theorem dX0_putCorrection_38 : decode cX0_putCorrection 38 = .ok (.iload_n 1, 1) := by decide +kernel
theorem dX0_putCorrection_39 : decode cX0_putCorrection 39 = .ok (.iload_n 2, 1) := by decide +kernel
theorem dX0_putCorrection_40 : decode cX0_putCorrection 40 = .ok (.iastore, 1) := by decide +kernel
theorem dX0_putCorrection_41 : decode cX0_putCorrection 41 = .ok (.iload_n 3, 1) := by decide +kernel
theorem dX0_putCorrection_42 : decode cX0_putCorrection 42 = .ok (.ireturn, 1) := by decide +kernel
set_option maxRecDepth 20000 in
theorem ggX0_putCloseOff_X4_isBetween : GoodIn wsX0_putCloseOff wsX4_isBetween := goodIn_r _ [5] (by decide +kernel) (by decide +kernel)
set_option maxRecDepth 20000 in
theorem gX0_putCloseOff_X4_isBetween_n67 : GoodIn wsX0_putCloseOff (wsX4_isBetween) := ggX0_putCloseOff_X4_isBetween
theorem dX0_putCloseOff_0 : decode cX0_putCloseOff 0 = .ok (.iload_n 1, 1) := by decide +kernel
theorem dX0_putCloseOff_1 : decode cX0_putCloseOff 1 = .ok (.iconst 0, 1) := by decide +kernel
theorem dX0_putCloseOff_2 : decode cX0_putCloseOff 2 = .ok (.sipush 15000, 3) := by decide +kernel
theorem dX0_putCloseOff_5 : decode cX0_putCloseOff 5 = .ok (.invokestatic 67, 3) := by decide +kernel
theorem dX0_putCloseOff_8 : decode cX0_putCloseOff 8 = .ok (.ifCond .ne 6, 3) := by decide +kernel
theorem dX0_putCloseOff_11 : decode cX0_putCloseOff 11 = .ok (.ldc 71, 2) := by decide +kernel
theorem dX0_putCloseOff_13 : decode cX0_putCloseOff 13 = .ok (.ireturn, 1) := by decide +kernel
theorem dX0_putCloseOff_14 : decode cX0_putCloseOff 14 = .ok (.aload_n 0, 1) := by decide +kernel
theorem dX0_putCloseOff_15 : decode cX0_putCloseOff 15 = .ok (.getfield 25, 3) := by decide +kernel
theorem dX0_putCloseOff_18 : decode cX0_putCloseOff 18 = .ok (.istore_n 2, 1) := by decide +kernel
theorem dX0_putCloseOff_19 : decode cX0_putCloseOff 19 = .ok (.aload_n 0, 1) := by decide +kernel
theorem dX0_putCloseOff_20 : decode cX0_putCloseOff 20 = .ok (.iload_n 1, 1) := by decide +kernel
theorem dX0_putCloseOff_21 : decode cX0_putCloseOff 21 = .ok (.putfield 25, 3) := by decide +kernel
theorem dX0_putCloseOff_24 : decode cX0_putCloseOff 24 = .ok (.iload_n 2, 1) := by decide +kernel
theorem dX0_putCloseOff_25 : decode cX0_putCloseOff 25 = .ok (.ireturn, 1) := by decide +kernel
set_option maxRecDepth 20000 in
theorem ggX0_putAsh_X0_has : GoodIn wsX0_putAsh wsX0_has := goodIn_r _ [10, 11, 23, 24, 25, 26, 27, 28, 29, 30, 31, 32, 33, 34] (by decide +kernel) (by decide +kernel)
set_option maxRecDepth 20000 in
theorem gX0_putAsh_X0_has : GoodIn wsX0_putAsh (wsV RX0 56 RX0 yX0_has wsX0_has) := goodIn_app (goodIn_of _ (by decide +kernel)) ggX0_putAsh_X0_has
set_option maxRecDepth 20000 in
theorem ggX0_putAsh_X4_isBetween : GoodIn wsX0_putAsh wsX4_isBetween := goodIn_r _ [14] (by decide +kernel) (by decide +kernel)
set_option maxRecDepth 20000 in
theorem gX0_putAsh_X4_isBetween_n67 : GoodIn wsX0_putAsh (wsX4_isBetween) := ggX0_putAsh_X4_isBetween
set_option maxRecDepth 20000 in
theorem ggX0_putAsh_X0_ashBeds : GoodIn wsX0_putAsh wsX0_ashBeds := goodIn_r _ [18, 11, 19, 20, 21, 9, 22, 4, 6, 7, 8, 10, 23, 24, 25, 26, 27, 28, 29, 30, 31, 32, 33, 34] (by decide +kernel) (by decide +kernel)
set_option maxRecDepth 20000 in
theorem gX0_putAsh_X0_ashBeds : GoodIn wsX0_putAsh (wsV RX0 85 RX0 yX0_ashBeds wsX0_ashBeds) := goodIn_app (goodIn_of _ (by decide +kernel)) ggX0_putAsh_X0_ashBeds
theorem dX0_putAsh_0 : decode cX0_putAsh 0 = .ok (.aload_n 0, 1) := by decide +kernel
theorem dX0_putAsh_1 : decode cX0_putAsh 1 = .ok (.iload_n 1, 1) := by decide +kernel
theorem dX0_putAsh_2 : decode cX0_putAsh 2 = .ok (.invokevirtual 56, 3) := by decide +kernel
theorem dX0_putAsh_5 : decode cX0_putAsh 5 = .ok (.ifCond .ne 6, 3) := by decide +kernel
theorem dX0_putAsh_8 : decode cX0_putAsh 8 = .ok (.ldc 78, 2) := by decide +kernel
theorem dX0_putAsh_10 : decode cX0_putAsh 10 = .ok (.ireturn, 1) := by decide +kernel
theorem dX0_putAsh_11 : decode cX0_putAsh 11 = .ok (.iload_n 2, 1) := by decide +kernel
theorem dX0_putAsh_12 : decode cX0_putAsh 12 = .ok (.iconst 0, 1) := by decide +kernel
theorem dX0_putAsh_13 : decode cX0_putAsh 13 = .ok (.ldc 84, 2) := by decide +kernel
theorem dX0_putAsh_15 : decode cX0_putAsh 15 = .ok (.invokestatic 67, 3) := by decide +kernel
theorem dX0_putAsh_18 : decode cX0_putAsh 18 = .ok (.ifCond .eq 14, 3) := by decide +kernel
theorem dX0_putAsh_21 : decode cX0_putAsh 21 = .ok (.iload_n 3, 1) := by decide +kernel
theorem dX0_putAsh_22 : decode cX0_putAsh 22 = .ok (.iconst 0, 1) := by decide +kernel
theorem dX0_putAsh_23 : decode cX0_putAsh 23 = .ok (.sipush 10000, 3) := by decide +kernel
theorem dX0_putAsh_26 : decode cX0_putAsh 26 = .ok (.invokestatic 67, 3) := by decide +kernel
theorem dX0_putAsh_29 : decode cX0_putAsh 29 = .ok (.ifCond .ne 6, 3) := by decide +kernel
theorem dX0_putAsh_32 : decode cX0_putAsh 32 = .ok (.ldc 71, 2) := by decide +kernel
theorem dX0_putAsh_34 : decode cX0_putAsh 34 = .ok (.ireturn, 1) := by decide +kernel
theorem dX0_putAsh_35 : decode cX0_putAsh 35 = .ok (.aload_n 0, 1) := by decide +kernel
theorem dX0_putAsh_36 : decode cX0_putAsh 36 = .ok (.getfield 41, 3) := by decide +kernel
theorem dX0_putAsh_39 : decode cX0_putAsh 39 = .ok (.iload_n 1, 1) := by decide +kernel
theorem dX0_putAsh_40 : decode cX0_putAsh 40 = .ok (.iload_n 2, 1) := by decide +kernel
theorem dX0_putAsh_41 : decode cX0_putAsh 41 = .ok (.iastore, 1) := by decide +kernel
theorem dX0_putAsh_42 : decode cX0_putAsh 42 = .ok (.aload_n 0, 1) := by decide +kernel
theorem dX0_putAsh_43 : decode cX0_putAsh 43 = .ok (.getfield 44, 3) := by decide +kernel
theorem dX0_putAsh_46 : decode cX0_putAsh 46 = .ok (.iload_n 1, 1) := by decide +kernel
theorem dX0_putAsh_47 : decode cX0_putAsh 47 = .ok (.iload_n 3, 1) := by decide +kernel
theorem dX0_putAsh_48 : decode cX0_putAsh 48 = .ok (.iastore, 1) := by decide +kernel
theorem dX0_putAsh_49 : decode cX0_putAsh 49 = .ok (.aload_n 0, 1) := by decide +kernel
theorem dX0_putAsh_50 : decode cX0_putAsh 50 = .ok (.invokevirtual 85, 3) := by decide +kernel
theorem dX0_putAsh_53 : decode cX0_putAsh 53 = .ok (.ireturn, 1) := by decide +kernel
set_option maxRecDepth 20000 in
theorem ggX0_dropAsh_X0_has : GoodIn wsX0_dropAsh wsX0_has := goodIn_r _ [8, 9, 18, 19, 20, 21, 22, 23, 24, 25, 26, 27, 28, 29] (by decide +kernel) (by decide +kernel)
set_option maxRecDepth 20000 in
theorem gX0_dropAsh_X0_has : GoodIn wsX0_dropAsh (wsV RX0 56 RX0 yX0_has wsX0_has) := goodIn_app (goodIn_of _ (by decide +kernel)) ggX0_dropAsh_X0_has
set_option maxRecDepth 20000 in
theorem ggX0_dropAsh_X0_hasAsh : GoodIn wsX0_dropAsh wsX0_hasAsh := goodIn_r _ [13, 3, 4, 5, 6, 7, 8, 9, 18, 19, 20, 21, 22, 23, 24, 25, 26, 27, 28, 29] (by decide +kernel) (by decide +kernel)
set_option maxRecDepth 20000 in
theorem gX0_dropAsh_X0_hasAsh : GoodIn wsX0_dropAsh (wsV RX0 60 RX0 yX0_hasAsh wsX0_hasAsh) := goodIn_app (goodIn_of _ (by decide +kernel)) ggX0_dropAsh_X0_hasAsh
set_option maxRecDepth 20000 in
theorem ggX0_dropAsh_X0_ashBeds : GoodIn wsX0_dropAsh wsX0_ashBeds := goodIn_r _ [17, 9, 10, 11, 12, 7, 13, 3, 4, 5, 6, 8, 18, 19, 20, 21, 22, 23, 24, 25, 26, 27, 28, 29] (by decide +kernel) (by decide +kernel)
set_option maxRecDepth 20000 in
theorem gX0_dropAsh_X0_ashBeds : GoodIn wsX0_dropAsh (wsV RX0 85 RX0 yX0_ashBeds wsX0_ashBeds) := goodIn_app (goodIn_of _ (by decide +kernel)) ggX0_dropAsh_X0_ashBeds
theorem dX0_dropAsh_0 : decode cX0_dropAsh 0 = .ok (.aload_n 0, 1) := by decide +kernel
theorem dX0_dropAsh_1 : decode cX0_dropAsh 1 = .ok (.iload_n 1, 1) := by decide +kernel
theorem dX0_dropAsh_2 : decode cX0_dropAsh 2 = .ok (.invokevirtual 56, 3) := by decide +kernel
theorem dX0_dropAsh_5 : decode cX0_dropAsh 5 = .ok (.ifCond .ne 6, 3) := by decide +kernel
theorem dX0_dropAsh_8 : decode cX0_dropAsh 8 = .ok (.ldc 78, 2) := by decide +kernel
theorem dX0_dropAsh_10 : decode cX0_dropAsh 10 = .ok (.ireturn, 1) := by decide +kernel
theorem dX0_dropAsh_11 : decode cX0_dropAsh 11 = .ok (.aload_n 0, 1) := by decide +kernel
theorem dX0_dropAsh_12 : decode cX0_dropAsh 12 = .ok (.iload_n 1, 1) := by decide +kernel
theorem dX0_dropAsh_13 : decode cX0_dropAsh 13 = .ok (.invokevirtual 60, 3) := by decide +kernel
theorem dX0_dropAsh_16 : decode cX0_dropAsh 16 = .ok (.ifCond .ne 6, 3) := by decide +kernel
theorem dX0_dropAsh_19 : decode cX0_dropAsh 19 = .ok (.ldc 76, 2) := by decide +kernel
theorem dX0_dropAsh_21 : decode cX0_dropAsh 21 = .ok (.ireturn, 1) := by decide +kernel
theorem dX0_dropAsh_22 : decode cX0_dropAsh 22 = .ok (.aload_n 0, 1) := by decide +kernel
theorem dX0_dropAsh_23 : decode cX0_dropAsh 23 = .ok (.getfield 41, 3) := by decide +kernel
theorem dX0_dropAsh_26 : decode cX0_dropAsh 26 = .ok (.iload_n 1, 1) := by decide +kernel
theorem dX0_dropAsh_27 : decode cX0_dropAsh 27 = .ok (.iconst (-1), 1) := by decide +kernel
theorem dX0_dropAsh_28 : decode cX0_dropAsh 28 = .ok (.iastore, 1) := by decide +kernel
theorem dX0_dropAsh_29 : decode cX0_dropAsh 29 = .ok (.aload_n 0, 1) := by decide +kernel
theorem dX0_dropAsh_30 : decode cX0_dropAsh 30 = .ok (.invokevirtual 85, 3) := by decide +kernel
theorem dX0_dropAsh_33 : decode cX0_dropAsh 33 = .ok (.ireturn, 1) := by decide +kernel
set_option maxRecDepth 20000 in
theorem ggX0_putCount_X0_has : GoodIn wsX0_putCount wsX0_has := goodIn_r _ [9, 10, 51, 52, 53, 54, 55, 56, 57, 58, 59, 60, 61, 62] (by decide +kernel) (by decide +kernel)
set_option maxRecDepth 20000 in
theorem gX0_putCount_X0_has : GoodIn wsX0_putCount (wsV RX0 56 RX0 yX0_has wsX0_has) := goodIn_app (goodIn_of _ (by decide +kernel)) ggX0_putCount_X0_has
set_option maxRecDepth 20000 in
theorem ggX0_putCount_X4_isBetween : GoodIn wsX0_putCount wsX4_isBetween := goodIn_r _ [13] (by decide +kernel) (by decide +kernel)
set_option maxRecDepth 20000 in
theorem gX0_putCount_X4_isBetween_n67 : GoodIn wsX0_putCount (wsX4_isBetween) := ggX0_putCount_X4_isBetween
set_option maxRecDepth 20000 in
theorem ggX0_putCount_X0_countErrorOf : GoodIn wsX0_putCount wsX0_countErrorOf := goodIn_r _ [17, 18, 19, 4, 20, 21, 22, 8, 23, 24, 25, 26, 27, 28, 29, 30, 31, 32, 33, 34, 35, 36, 37, 38, 39, 40, 41, 42, 43, 10, 44, 12, 45, 46, 47, 48, 49, 50, 51, 52, 53, 54, 55, 56, 57, 58, 59, 60, 61, 62] (by decide +kernel) (by decide +kernel)
set_option maxRecDepth 20000 in
theorem gX0_putCount_X0_countErrorOf : GoodIn wsX0_putCount (wsV RX0 89 RX0 yX0_countErrorOf wsX0_countErrorOf) := goodIn_app (goodIn_of _ (by decide +kernel)) ggX0_putCount_X0_countErrorOf
theorem dX0_putCount_0 : decode cX0_putCount 0 = .ok (.aload_n 0, 1) := by decide +kernel
theorem dX0_putCount_1 : decode cX0_putCount 1 = .ok (.iload_n 1, 1) := by decide +kernel
theorem dX0_putCount_2 : decode cX0_putCount 2 = .ok (.invokevirtual 56, 3) := by decide +kernel
theorem dX0_putCount_5 : decode cX0_putCount 5 = .ok (.ifCond .ne 6, 3) := by decide +kernel
theorem dX0_putCount_8 : decode cX0_putCount 8 = .ok (.ldc 78, 2) := by decide +kernel
theorem dX0_putCount_10 : decode cX0_putCount 10 = .ok (.ireturn, 1) := by decide +kernel
theorem dX0_putCount_11 : decode cX0_putCount 11 = .ok (.iload_n 2, 1) := by decide +kernel
theorem dX0_putCount_12 : decode cX0_putCount 12 = .ok (.iconst 1, 1) := by decide +kernel
theorem dX0_putCount_13 : decode cX0_putCount 13 = .ok (.ldc 88, 2) := by decide +kernel
theorem dX0_putCount_15 : decode cX0_putCount 15 = .ok (.invokestatic 67, 3) := by decide +kernel
theorem dX0_putCount_18 : decode cX0_putCount 18 = .ok (.ifCond .ne 6, 3) := by decide +kernel
theorem dX0_putCount_21 : decode cX0_putCount 21 = .ok (.ldc 71, 2) := by decide +kernel
theorem dX0_putCount_23 : decode cX0_putCount 23 = .ok (.ireturn, 1) := by decide +kernel
theorem dX0_putCount_24 : decode cX0_putCount 24 = .ok (.aload_n 0, 1) := by decide +kernel
theorem dX0_putCount_25 : decode cX0_putCount 25 = .ok (.getfield 47, 3) := by decide +kernel
theorem dX0_putCount_28 : decode cX0_putCount 28 = .ok (.iload_n 1, 1) := by decide +kernel
theorem dX0_putCount_29 : decode cX0_putCount 29 = .ok (.iload_n 2, 1) := by decide +kernel
theorem dX0_putCount_30 : decode cX0_putCount 30 = .ok (.iastore, 1) := by decide +kernel
theorem dX0_putCount_31 : decode cX0_putCount 31 = .ok (.aload_n 0, 1) := by decide +kernel
theorem dX0_putCount_32 : decode cX0_putCount 32 = .ok (.iload_n 1, 1) := by decide +kernel
theorem dX0_putCount_33 : decode cX0_putCount 33 = .ok (.invokevirtual 89, 3) := by decide +kernel
theorem dX0_putCount_36 : decode cX0_putCount 36 = .ok (.ireturn, 1) := by decide +kernel
set_option maxRecDepth 20000 in
theorem ggX0_thinningOf_X0_topOf : GoodIn wsX0_thinningOf wsX0_topOf := goodIn_r _ [15, 16, 3, 20, 21, 22, 23, 24, 25, 26, 27, 28, 29, 30, 31] (by decide +kernel) (by decide +kernel)
set_option maxRecDepth 20000 in
theorem gX0_thinningOf_X0_topOf : GoodIn wsX0_thinningOf (wsV RX0 63 RX0 yX0_topOf wsX0_topOf) := goodIn_app (goodIn_of _ (by decide +kernel)) ggX0_thinningOf_X0_topOf
set_option maxRecDepth 20000 in
theorem ggX0_thinningOf_X4_quotient : GoodIn wsX0_thinningOf wsX4_quotient := goodIn_r _ [19] (by decide +kernel) (by decide +kernel)
set_option maxRecDepth 20000 in
theorem gX0_thinningOf_X4_quotient_n98 : GoodIn wsX0_thinningOf (wsX4_quotient) := ggX0_thinningOf_X4_quotient
theorem dX0_thinningOf_0 : decode cX0_thinningOf 0 = .ok (.iload_n 2, 1) := by decide +kernel
theorem dX0_thinningOf_1 : decode cX0_thinningOf 1 = .ok (.iconst 2, 1) := by decide +kernel
theorem dX0_thinningOf_2 : decode cX0_thinningOf 2 = .ok (.if_icmp .ne 10, 3) := by decide +kernel
theorem dX0_thinningOf_5 : decode cX0_thinningOf 5 = .ok (.aload_n 0, 1) := by decide +kernel
theorem dX0_thinningOf_6 : decode cX0_thinningOf 6 = .ok (.getfield 38, 3) := by decide +kernel
theorem dX0_thinningOf_9 : decode cX0_thinningOf 9 = .ok (.iload_n 1, 1) := by decide +kernel
theorem dX0_thinningOf_10 : decode cX0_thinningOf 10 = .ok (.iaload, 1) := by decide +kernel
theorem dX0_thinningOf_11 : decode cX0_thinningOf 11 = .ok (.ireturn, 1) := by decide +kernel
theorem dX0_thinningOf_12 : decode cX0_thinningOf 12 = .ok (.aload_n 0, 1) := by decide +kernel
theorem dX0_thinningOf_13 : decode cX0_thinningOf 13 = .ok (.getfield 16, 3) := by decide +kernel
theorem dX0_thinningOf_16 : decode cX0_thinningOf 16 = .ok (.aload_n 0, 1) := by decide +kernel
theorem dX0_thinningOf_17 : decode cX0_thinningOf 17 = .ok (.iload_n 1, 1) := by decide +kernel
theorem dX0_thinningOf_18 : decode cX0_thinningOf 18 = .ok (.invokevirtual 63, 3) := by decide +kernel
theorem dX0_thinningOf_21 : decode cX0_thinningOf 21 = .ok (.aload_n 0, 1) := by decide +kernel
theorem dX0_thinningOf_22 : decode cX0_thinningOf 22 = .ok (.getfield 28, 3) := by decide +kernel
theorem dX0_thinningOf_25 : decode cX0_thinningOf 25 = .ok (.iload_n 1, 1) := by decide +kernel
theorem dX0_thinningOf_26 : decode cX0_thinningOf 26 = .ok (.iaload, 1) := by decide +kernel
theorem dX0_thinningOf_27 : decode cX0_thinningOf 27 = .ok (.iconst 2, 1) := by decide +kernel
theorem dX0_thinningOf_28 : decode cX0_thinningOf 28 = .ok (.idiv, 1) := by decide +kernel
theorem dX0_thinningOf_29 : decode cX0_thinningOf 29 = .ok (.iadd, 1) := by decide +kernel
theorem dX0_thinningOf_30 : decode cX0_thinningOf 30 = .ok (.isub, 1) := by decide +kernel
theorem dX0_thinningOf_31 : decode cX0_thinningOf 31 = .ok (.i2l, 1) := by decide +kernel
theorem dX0_thinningOf_32 : decode cX0_thinningOf 32 = .ok (.lstore 4, 2) := by decide +kernel
theorem dX0_thinningOf_34 : decode cX0_thinningOf 34 = .ok (.ldc2_w 92, 3) := by decide +kernel
theorem dX0_thinningOf_37 : decode cX0_thinningOf 37 = .ok (.lload 4, 2) := by decide +kernel
theorem dX0_thinningOf_39 : decode cX0_thinningOf 39 = .ok (.lmul, 1) := by decide +kernel
theorem dX0_thinningOf_40 : decode cX0_thinningOf 40 = .ok (.lstore 6, 2) := by decide +kernel
theorem dX0_thinningOf_42 : decode cX0_thinningOf 42 = .ok (.aload_n 0, 1) := by decide +kernel
theorem dX0_thinningOf_43 : decode cX0_thinningOf 43 = .ok (.getfield 16, 3) := by decide +kernel
theorem dX0_thinningOf_46 : decode cX0_thinningOf 46 = .ok (.i2l, 1) := by decide +kernel
theorem dX0_thinningOf_47 : decode cX0_thinningOf 47 = .ok (.lstore 8, 2) := by decide +kernel
theorem dX0_thinningOf_49 : decode cX0_thinningOf 49 = .ok (.iload_n 2, 1) := by decide +kernel
theorem dX0_thinningOf_50 : decode cX0_thinningOf 50 = .ok (.iconst 1, 1) := by decide +kernel
theorem dX0_thinningOf_51 : decode cX0_thinningOf 51 = .ok (.if_icmp .ne 95, 3) := by decide +kernel
theorem dX0_thinningOf_54 : decode cX0_thinningOf 54 = .ok (.aload_n 0, 1) := by decide +kernel
theorem dX0_thinningOf_55 : decode cX0_thinningOf 55 = .ok (.getfield 16, 3) := by decide +kernel
theorem dX0_thinningOf_58 : decode cX0_thinningOf 58 = .ok (.i2l, 1) := by decide +kernel
theorem dX0_thinningOf_59 : decode cX0_thinningOf 59 = .ok (.iload_n 3, 1) := by decide +kernel
theorem dX0_thinningOf_60 : decode cX0_thinningOf 60 = .ok (.i2l, 1) := by decide +kernel
theorem dX0_thinningOf_61 : decode cX0_thinningOf 61 = .ok (.lmul, 1) := by decide +kernel
theorem dX0_thinningOf_62 : decode cX0_thinningOf 62 = .ok (.ldc2_w 92, 3) := by decide +kernel
theorem dX0_thinningOf_65 : decode cX0_thinningOf 65 = .ok (.ldiv, 1) := by decide +kernel
theorem dX0_thinningOf_66 : decode cX0_thinningOf 66 = .ok (.lstore 10, 2) := by decide +kernel
theorem dX0_thinningOf_68 : decode cX0_thinningOf 68 = .ok (.ldc2_w 94, 3) := by decide +kernel
theorem dX0_thinningOf_71 : decode cX0_thinningOf 71 = .ok (.aload_n 0, 1) := by decide +kernel
theorem dX0_thinningOf_72 : decode cX0_thinningOf 72 = .ok (.getfield 16, 3) := by decide +kernel
theorem dX0_thinningOf_75 : decode cX0_thinningOf 75 = .ok (.i2l, 1) := by decide +kernel
theorem dX0_thinningOf_76 : decode cX0_thinningOf 76 = .ok (.lmul, 1) := by decide +kernel
theorem dX0_thinningOf_77 : decode cX0_thinningOf 77 = .ok (.lload 10, 2) := by decide +kernel
theorem dX0_thinningOf_79 : decode cX0_thinningOf 79 = .ok (.lsub, 1) := by decide +kernel
theorem dX0_thinningOf_80 : decode cX0_thinningOf 80 = .ok (.lstore 12, 2) := by decide +kernel
theorem dX0_thinningOf_82 : decode cX0_thinningOf 82 = .ok (.lload 4, 2) := by decide +kernel
theorem dX0_thinningOf_84 : decode cX0_thinningOf 84 = .ok (.lload 10, 2) := by decide +kernel
theorem dX0_thinningOf_86 : decode cX0_thinningOf 86 = .ok (.lcmp, 1) := by decide +kernel
theorem dX0_thinningOf_87 : decode cX0_thinningOf 87 = .ok (.ifCond .lt 7, 3) := by decide +kernel
theorem dX0_thinningOf_90 : decode cX0_thinningOf 90 = .ok (.iconst 1, 1) := by decide +kernel
theorem dX0_thinningOf_91 : decode cX0_thinningOf 91 = .ok (.goto 4, 3) := by decide +kernel
theorem dX0_thinningOf_94 : decode cX0_thinningOf 94 = .ok (.iconst 0, 1) := by decide +kernel
theorem dX0_thinningOf_95 : decode cX0_thinningOf 95 = .ok (.istore 14, 2) := by decide +kernel
theorem dX0_thinningOf_97 : decode cX0_thinningOf 97 = .ok (.iload 14, 2) := by decide +kernel
theorem dX0_thinningOf_99 : decode cX0_thinningOf 99 = .ok (.ifCond .eq 19, 3) := by decide +kernel
theorem dX0_thinningOf_102 : decode cX0_thinningOf 102 = .ok (.ldc2_w 92, 3) := by decide +kernel
theorem dX0_thinningOf_105 : decode cX0_thinningOf 105 = .ok (.ldc2_w 94, 3) := by decide +kernel
theorem dX0_thinningOf_108 : decode cX0_thinningOf 108 = .ok (.lload 4, 2) := by decide +kernel
theorem dX0_thinningOf_110 : decode cX0_thinningOf 110 = .ok (.lmul, 1) := by decide +kernel
theorem dX0_thinningOf_111 : decode cX0_thinningOf 111 = .ok (.lload 10, 2) := by decide +kernel
theorem dX0_thinningOf_113 : decode cX0_thinningOf 113 = .ok (.lsub, 1) := by decide +kernel
theorem dX0_thinningOf_114 : decode cX0_thinningOf 114 = .ok (.lmul, 1) := by decide +kernel
theorem dX0_thinningOf_115 : decode cX0_thinningOf 115 = .ok (.goto 12, 3) := by decide +kernel
theorem dX0_thinningOf_118 : decode cX0_thinningOf 118 = .ok (.ldc2_w 92, 3) := by decide +kernel
theorem dX0_thinningOf_121 : decode cX0_thinningOf 121 = .ok (.lload 4, 2) := by decide +kernel
theorem dX0_thinningOf_123 : decode cX0_thinningOf 123 = .ok (.lmul, 1) := by decide +kernel
theorem dX0_thinningOf_124 : decode cX0_thinningOf 124 = .ok (.lload 4, 2) := by decide +kernel
theorem dX0_thinningOf_126 : decode cX0_thinningOf 126 = .ok (.lmul, 1) := by decide +kernel
theorem dX0_thinningOf_127 : decode cX0_thinningOf 127 = .ok (.lstore 6, 2) := by decide +kernel
theorem dX0_thinningOf_129 : decode cX0_thinningOf 129 = .ok (.iload 14, 2) := by decide +kernel
theorem dX0_thinningOf_131 : decode cX0_thinningOf 131 = .ok (.ifCond .eq 8, 3) := by decide +kernel
theorem dX0_thinningOf_134 : decode cX0_thinningOf 134 = .ok (.lload 12, 2) := by decide +kernel
theorem dX0_thinningOf_136 : decode cX0_thinningOf 136 = .ok (.goto 8, 3) := by decide +kernel
theorem dX0_thinningOf_139 : decode cX0_thinningOf 139 = .ok (.lload 10, 2) := by decide +kernel
theorem dX0_thinningOf_141 : decode cX0_thinningOf 141 = .ok (.lload 12, 2) := by decide +kernel
theorem dX0_thinningOf_143 : decode cX0_thinningOf 143 = .ok (.lmul, 1) := by decide +kernel
theorem dX0_thinningOf_144 : decode cX0_thinningOf 144 = .ok (.lstore 8, 2) := by decide +kernel
theorem dX0_thinningOf_146 : decode cX0_thinningOf 146 = .ok (.ldc2_w 96, 3) := by decide +kernel
theorem dX0_thinningOf_149 : decode cX0_thinningOf 149 = .ok (.lload 6, 2) := by decide +kernel
theorem dX0_thinningOf_151 : decode cX0_thinningOf 151 = .ok (.lload 8, 2) := by decide +kernel
theorem dX0_thinningOf_153 : decode cX0_thinningOf 153 = .ok (.invokestatic 98, 3) := by decide +kernel
theorem dX0_thinningOf_156 : decode cX0_thinningOf 156 = .ok (.invokestatic 102, 3) := by decide +kernel
theorem dX0_thinningOf_159 : decode cX0_thinningOf 159 = .ok (.l2i, 1) := by decide +kernel
theorem dX0_thinningOf_160 : decode cX0_thinningOf 160 = .ok (.ireturn, 1) := by decide +kernel
theorem dX0_yearsDividend_0 : decode cX0_yearsDividend 0 = .ok (.ldc2_w 107, 3) := by decide +kernel
theorem dX0_yearsDividend_3 : decode cX0_yearsDividend 3 = .ok (.aload_n 0, 1) := by decide +kernel
theorem dX0_yearsDividend_4 : decode cX0_yearsDividend 4 = .ok (.getfield 28, 3) := by decide +kernel
theorem dX0_yearsDividend_7 : decode cX0_yearsDividend 7 = .ok (.iload_n 1, 1) := by decide +kernel
theorem dX0_yearsDividend_8 : decode cX0_yearsDividend 8 = .ok (.iaload, 1) := by decide +kernel
theorem dX0_yearsDividend_9 : decode cX0_yearsDividend 9 = .ok (.i2l, 1) := by decide +kernel
theorem dX0_yearsDividend_10 : decode cX0_yearsDividend 10 = .ok (.lmul, 1) := by decide +kernel
theorem dX0_yearsDividend_11 : decode cX0_yearsDividend 11 = .ok (.lreturn, 1) := by decide +kernel
set_option maxRecDepth 20000 in
theorem ggX0_yearsOf_X0_thinningOf : GoodIn wsX0_yearsOf wsX0_thinningOf := goodIn_r _ [7, 8, 9, 10, 11, 12, 13, 14, 15, 16, 17, 18, 19, 20, 6, 21, 22, 23, 24, 25, 31, 32, 33, 34, 35, 36, 37, 38, 39, 40, 41, 42] (by decide +kernel) (by decide +kernel)
set_option maxRecDepth 20000 in
theorem gX0_yearsOf_X0_thinningOf : GoodIn wsX0_yearsOf (wsV RX0 109 RX0 yX0_thinningOf wsX0_thinningOf) := goodIn_app (goodIn_of _ (by decide +kernel)) ggX0_yearsOf_X0_thinningOf
set_option maxRecDepth 20000 in
theorem ggX0_yearsOf_X0_yearsDividend : GoodIn wsX0_yearsOf wsX0_yearsDividend := goodIn_r _ [29, 30, 10, 31, 32, 33, 34, 35, 36, 37, 38, 39, 40, 41, 42] (by decide +kernel) (by decide +kernel)
set_option maxRecDepth 20000 in
theorem gX0_yearsOf_X0_yearsDividend : GoodIn wsX0_yearsOf (wsV RX0 113 RX0 yX0_yearsDividend wsX0_yearsDividend) := goodIn_app (goodIn_of _ (by decide +kernel)) ggX0_yearsOf_X0_yearsDividend
set_option maxRecDepth 20000 in
theorem ggX0_yearsOf_X4_quotient : GoodIn wsX0_yearsOf wsX4_quotient := goodIn_r _ [25] (by decide +kernel) (by decide +kernel)
set_option maxRecDepth 20000 in
theorem gX0_yearsOf_X4_quotient_n98 : GoodIn wsX0_yearsOf (wsX4_quotient) := ggX0_yearsOf_X4_quotient
theorem dX0_yearsOf_0 : decode cX0_yearsOf 0 = .ok (.aload_n 0, 1) := by decide +kernel
theorem dX0_yearsOf_1 : decode cX0_yearsOf 1 = .ok (.iload_n 1, 1) := by decide +kernel
theorem dX0_yearsOf_2 : decode cX0_yearsOf 2 = .ok (.iload_n 2, 1) := by decide +kernel
theorem dX0_yearsOf_3 : decode cX0_yearsOf 3 = .ok (.iload_n 3, 1) := by decide +kernel
theorem dX0_yearsOf_4 : decode cX0_yearsOf 4 = .ok (.invokevirtual 109, 3) := by decide +kernel
theorem dX0_yearsOf_7 : decode cX0_yearsOf 7 = .ok (.i2l, 1) := by decide +kernel
theorem dX0_yearsOf_8 : decode cX0_yearsOf 8 = .ok (.lstore 4, 2) := by decide +kernel
theorem dX0_yearsOf_10 : decode cX0_yearsOf 10 = .ok (.aload_n 0, 1) := by decide +kernel
theorem dX0_yearsOf_11 : decode cX0_yearsOf 11 = .ok (.iload_n 1, 1) := by decide +kernel
theorem dX0_yearsOf_12 : decode cX0_yearsOf 12 = .ok (.invokevirtual 113, 3) := by decide +kernel
theorem dX0_yearsOf_15 : decode cX0_yearsOf 15 = .ok (.lload 4, 2) := by decide +kernel
theorem dX0_yearsOf_17 : decode cX0_yearsOf 17 = .ok (.aload_n 0, 1) := by decide +kernel
theorem dX0_yearsOf_18 : decode cX0_yearsOf 18 = .ok (.getfield 32, 3) := by decide +kernel
theorem dX0_yearsOf_21 : decode cX0_yearsOf 21 = .ok (.iload_n 1, 1) := by decide +kernel
theorem dX0_yearsOf_22 : decode cX0_yearsOf 22 = .ok (.iaload, 1) := by decide +kernel
theorem dX0_yearsOf_23 : decode cX0_yearsOf 23 = .ok (.i2l, 1) := by decide +kernel
theorem dX0_yearsOf_24 : decode cX0_yearsOf 24 = .ok (.lmul, 1) := by decide +kernel
theorem dX0_yearsOf_25 : decode cX0_yearsOf 25 = .ok (.aload_n 0, 1) := by decide +kernel
theorem dX0_yearsOf_26 : decode cX0_yearsOf 26 = .ok (.getfield 35, 3) := by decide +kernel
theorem dX0_yearsOf_29 : decode cX0_yearsOf 29 = .ok (.iload_n 1, 1) := by decide +kernel
theorem dX0_yearsOf_30 : decode cX0_yearsOf 30 = .ok (.iaload, 1) := by decide +kernel
theorem dX0_yearsOf_31 : decode cX0_yearsOf 31 = .ok (.i2l, 1) := by decide +kernel
theorem dX0_yearsOf_32 : decode cX0_yearsOf 32 = .ok (.lmul, 1) := by decide +kernel
theorem dX0_yearsOf_33 : decode cX0_yearsOf 33 = .ok (.invokestatic 98, 3) := by decide +kernel
theorem dX0_yearsOf_36 : decode cX0_yearsOf 36 = .ok (.l2i, 1) := by decide +kernel
theorem dX0_yearsOf_37 : decode cX0_yearsOf 37 = .ok (.ireturn, 1) := by decide +kernel
set_option maxRecDepth 20000 in
theorem ggX0_delayOf_X4_quotient : GoodIn wsX0_delayOf wsX4_quotient := goodIn_r _ [7] (by decide +kernel) (by decide +kernel)
set_option maxRecDepth 20000 in
theorem gX0_delayOf_X4_quotient_n98 : GoodIn wsX0_delayOf (wsX4_quotient) := ggX0_delayOf_X4_quotient
theorem dX0_delayOf_0 : decode cX0_delayOf 0 = .ok (.ldc2_w 117, 3) := by decide +kernel
theorem dX0_delayOf_3 : decode cX0_delayOf 3 = .ok (.aload_n 0, 1) := by decide +kernel
theorem dX0_delayOf_4 : decode cX0_delayOf 4 = .ok (.getfield 25, 3) := by decide +kernel
theorem dX0_delayOf_7 : decode cX0_delayOf 7 = .ok (.i2l, 1) := by decide +kernel
theorem dX0_delayOf_8 : decode cX0_delayOf 8 = .ok (.lmul, 1) := by decide +kernel
theorem dX0_delayOf_9 : decode cX0_delayOf 9 = .ok (.aload_n 0, 1) := by decide +kernel
theorem dX0_delayOf_10 : decode cX0_delayOf 10 = .ok (.getfield 32, 3) := by decide +kernel
theorem dX0_delayOf_13 : decode cX0_delayOf 13 = .ok (.iload_n 1, 1) := by decide +kernel
theorem dX0_delayOf_14 : decode cX0_delayOf 14 = .ok (.iaload, 1) := by decide +kernel
theorem dX0_delayOf_15 : decode cX0_delayOf 15 = .ok (.i2l, 1) := by decide +kernel
theorem dX0_delayOf_16 : decode cX0_delayOf 16 = .ok (.aload_n 0, 1) := by decide +kernel
theorem dX0_delayOf_17 : decode cX0_delayOf 17 = .ok (.getfield 35, 3) := by decide +kernel
theorem dX0_delayOf_20 : decode cX0_delayOf 20 = .ok (.iload_n 1, 1) := by decide +kernel
theorem dX0_delayOf_21 : decode cX0_delayOf 21 = .ok (.iaload, 1) := by decide +kernel
theorem dX0_delayOf_22 : decode cX0_delayOf 22 = .ok (.i2l, 1) := by decide +kernel
theorem dX0_delayOf_23 : decode cX0_delayOf 23 = .ok (.lmul, 1) := by decide +kernel
theorem dX0_delayOf_24 : decode cX0_delayOf 24 = .ok (.invokestatic 98, 3) := by decide +kernel
theorem dX0_delayOf_27 : decode cX0_delayOf 27 = .ok (.l2i, 1) := by decide +kernel
theorem dX0_delayOf_28 : decode cX0_delayOf 28 = .ok (.ireturn, 1) := by decide +kernel
set_option maxRecDepth 20000 in
theorem ggX0_countErrorOf_X0_yearsOf : GoodIn wsX0_countErrorOf wsX0_yearsOf := goodIn_r _ [8, 9, 10, 11, 12, 13, 7, 14, 15, 16, 17, 18, 19, 20, 21, 22, 23, 24, 25, 26, 27, 28, 29, 30, 31, 32, 33, 34, 35, 36, 37, 38, 39, 40, 41, 42, 43, 44, 45, 46, 47, 48, 49] (by decide +kernel) (by decide +kernel)
set_option maxRecDepth 20000 in
theorem gX0_countErrorOf_X0_yearsOf : GoodIn wsX0_countErrorOf (wsV RX0 119 RX0 yX0_yearsOf wsX0_yearsOf) := goodIn_app (goodIn_of _ (by decide +kernel)) ggX0_countErrorOf_X0_yearsOf
theorem dX0_countErrorOf_0 : decode cX0_countErrorOf 0 = .ok (.aload_n 0, 1) := by decide +kernel
theorem dX0_countErrorOf_1 : decode cX0_countErrorOf 1 = .ok (.iload_n 1, 1) := by decide +kernel
theorem dX0_countErrorOf_2 : decode cX0_countErrorOf 2 = .ok (.aload_n 0, 1) := by decide +kernel
theorem dX0_countErrorOf_3 : decode cX0_countErrorOf 3 = .ok (.getfield 19, 3) := by decide +kernel
theorem dX0_countErrorOf_6 : decode cX0_countErrorOf 6 = .ok (.aload_n 0, 1) := by decide +kernel
theorem dX0_countErrorOf_7 : decode cX0_countErrorOf 7 = .ok (.getfield 22, 3) := by decide +kernel
theorem dX0_countErrorOf_10 : decode cX0_countErrorOf 10 = .ok (.invokevirtual 119, 3) := by decide +kernel
theorem dX0_countErrorOf_13 : decode cX0_countErrorOf 13 = .ok (.aload_n 0, 1) := by decide +kernel
theorem dX0_countErrorOf_14 : decode cX0_countErrorOf 14 = .ok (.getfield 47, 3) := by decide +kernel
theorem dX0_countErrorOf_17 : decode cX0_countErrorOf 17 = .ok (.iload_n 1, 1) := by decide +kernel
theorem dX0_countErrorOf_18 : decode cX0_countErrorOf 18 = .ok (.iaload, 1) := by decide +kernel
theorem dX0_countErrorOf_19 : decode cX0_countErrorOf 19 = .ok (.isub, 1) := by decide +kernel
theorem dX0_countErrorOf_20 : decode cX0_countErrorOf 20 = .ok (.ireturn, 1) := by decide +kernel
set_option maxRecDepth 20000 in
theorem ggX0_residualOf_X0_yearsOf : GoodIn wsX0_residualOf wsX0_yearsOf := goodIn_r _ [9, 10, 11, 12, 13, 14, 8, 15, 16, 17, 18, 19, 20, 21, 22, 23, 24, 25, 26, 27, 28, 29, 1, 30, 31, 32, 33, 34, 35, 36, 37, 38, 39, 40, 41, 42, 43, 44, 45, 46, 47, 48, 49] (by decide +kernel) (by decide +kernel)
set_option maxRecDepth 20000 in
theorem gX0_residualOf_X0_yearsOf : GoodIn wsX0_residualOf (wsV RX0 119 RX0 yX0_yearsOf wsX0_yearsOf) := goodIn_app (goodIn_of _ (by decide +kernel)) ggX0_residualOf_X0_yearsOf
theorem dX0_residualOf_0 : decode cX0_residualOf 0 = .ok (.iconst 0, 1) := by decide +kernel
theorem dX0_residualOf_1 : decode cX0_residualOf 1 = .ok (.istore_n 2, 1) := by decide +kernel
theorem dX0_residualOf_2 : decode cX0_residualOf 2 = .ok (.iconst 0, 1) := by decide +kernel
theorem dX0_residualOf_3 : decode cX0_residualOf 3 = .ok (.istore_n 3, 1) := by decide +kernel
theorem dX0_residualOf_4 : decode cX0_residualOf 4 = .ok (.iload_n 3, 1) := by decide +kernel
theorem dX0_residualOf_5 : decode cX0_residualOf 5 = .ok (.iload_n 1, 1) := by decide +kernel
theorem dX0_residualOf_6 : decode cX0_residualOf 6 = .ok (.if_icmp .gt 33, 3) := by decide +kernel
theorem dX0_residualOf_9 : decode cX0_residualOf 9 = .ok (.iload_n 3, 1) := by decide +kernel
theorem dX0_residualOf_10 : decode cX0_residualOf 10 = .ok (.aload_n 0, 1) := by decide +kernel
theorem dX0_residualOf_11 : decode cX0_residualOf 11 = .ok (.getfield 9, 3) := by decide +kernel
theorem dX0_residualOf_14 : decode cX0_residualOf 14 = .ok (.if_icmp .ge 25, 3) := by decide +kernel
theorem dX0_residualOf_17 : decode cX0_residualOf 17 = .ok (.iload_n 2, 1) := by decide +kernel
theorem dX0_residualOf_18 : decode cX0_residualOf 18 = .ok (.aload_n 0, 1) := by decide +kernel
theorem dX0_residualOf_19 : decode cX0_residualOf 19 = .ok (.iload_n 3, 1) := by decide +kernel
theorem dX0_residualOf_20 : decode cX0_residualOf 20 = .ok (.aload_n 0, 1) := by decide +kernel
theorem dX0_residualOf_21 : decode cX0_residualOf 21 = .ok (.getfield 19, 3) := by decide +kernel
theorem dX0_residualOf_24 : decode cX0_residualOf 24 = .ok (.aload_n 0, 1) := by decide +kernel
theorem dX0_residualOf_25 : decode cX0_residualOf 25 = .ok (.getfield 22, 3) := by decide +kernel
theorem dX0_residualOf_28 : decode cX0_residualOf 28 = .ok (.invokevirtual 119, 3) := by decide +kernel
theorem dX0_residualOf_31 : decode cX0_residualOf 31 = .ok (.iadd, 1) := by decide +kernel
theorem dX0_residualOf_32 : decode cX0_residualOf 32 = .ok (.istore_n 2, 1) := by decide +kernel
theorem dX0_residualOf_33 : decode cX0_residualOf 33 = .ok (.iinc 3 1, 3) := by decide +kernel
theorem dX0_residualOf_36 : decode cX0_residualOf 36 = .ok (.goto (-32), 3) := by decide +kernel
theorem dX0_residualOf_39 : decode cX0_residualOf 39 = .ok (.iload_n 2, 1) := by decide +kernel
theorem dX0_residualOf_40 : decode cX0_residualOf 40 = .ok (.aload_n 0, 1) := by decide +kernel
theorem dX0_residualOf_41 : decode cX0_residualOf 41 = .ok (.getfield 41, 3) := by decide +kernel
theorem dX0_residualOf_44 : decode cX0_residualOf 44 = .ok (.iload_n 1, 1) := by decide +kernel
theorem dX0_residualOf_45 : decode cX0_residualOf 45 = .ok (.iaload, 1) := by decide +kernel
theorem dX0_residualOf_46 : decode cX0_residualOf 46 = .ok (.isub, 1) := by decide +kernel
theorem dX0_residualOf_47 : decode cX0_residualOf 47 = .ok (.ireturn, 1) := by decide +kernel
set_option maxRecDepth 20000 in
theorem ggX0_fittingBeds_X0_yearsOf : GoodIn wsX0_fittingBeds wsX0_yearsOf := goodIn_r _ [14, 15, 16, 17, 18, 19, 13, 20, 21, 22, 23, 24, 25, 26, 27, 28, 7, 29, 30, 31, 32, 33, 1, 34, 35, 36, 37, 38, 39, 40, 41, 50, 51, 52, 53, 54, 55, 56, 57, 58, 59, 60, 61] (by decide +kernel) (by decide +kernel)
set_option maxRecDepth 20000 in
theorem gX0_fittingBeds_X0_yearsOf : GoodIn wsX0_fittingBeds (wsV RX0 119 RX0 yX0_yearsOf wsX0_yearsOf) := goodIn_app (goodIn_of _ (by decide +kernel)) ggX0_fittingBeds_X0_yearsOf
set_option maxRecDepth 20000 in
theorem ggX0_fittingBeds_X0_hasAsh : GoodIn wsX0_fittingBeds wsX0_hasAsh := goodIn_r _ [45, 4, 46, 47, 48, 13, 49, 1, 50, 51, 52, 53, 54, 55, 56, 57, 58, 59, 60, 61] (by decide +kernel) (by decide +kernel)
set_option maxRecDepth 20000 in
theorem gX0_fittingBeds_X0_hasAsh : GoodIn wsX0_fittingBeds (wsV RX0 60 RX0 yX0_hasAsh wsX0_hasAsh) := goodIn_app (goodIn_of _ (by decide +kernel)) ggX0_fittingBeds_X0_hasAsh
theorem dX0_fittingBeds_0 : decode cX0_fittingBeds 0 = .ok (.iconst 0, 1) := by decide +kernel
theorem dX0_fittingBeds_1 : decode cX0_fittingBeds 1 = .ok (.istore_n 1, 1) := by decide +kernel
theorem dX0_fittingBeds_2 : decode cX0_fittingBeds 2 = .ok (.iconst 0, 1) := by decide +kernel
theorem dX0_fittingBeds_3 : decode cX0_fittingBeds 3 = .ok (.istore_n 2, 1) := by decide +kernel
theorem dX0_fittingBeds_4 : decode cX0_fittingBeds 4 = .ok (.iconst 0, 1) := by decide +kernel
theorem dX0_fittingBeds_5 : decode cX0_fittingBeds 5 = .ok (.istore_n 3, 1) := by decide +kernel
theorem dX0_fittingBeds_6 : decode cX0_fittingBeds 6 = .ok (.iload_n 3, 1) := by decide +kernel
theorem dX0_fittingBeds_7 : decode cX0_fittingBeds 7 = .ok (.aload_n 0, 1) := by decide +kernel
theorem dX0_fittingBeds_8 : decode cX0_fittingBeds 8 = .ok (.getfield 9, 3) := by decide +kernel
theorem dX0_fittingBeds_11 : decode cX0_fittingBeds 11 = .ok (.if_icmp .ge 56, 3) := by decide +kernel
theorem dX0_fittingBeds_14 : decode cX0_fittingBeds 14 = .ok (.iload_n 1, 1) := by decide +kernel
theorem dX0_fittingBeds_15 : decode cX0_fittingBeds 15 = .ok (.aload_n 0, 1) := by decide +kernel
theorem dX0_fittingBeds_16 : decode cX0_fittingBeds 16 = .ok (.iload_n 3, 1) := by decide +kernel
theorem dX0_fittingBeds_17 : decode cX0_fittingBeds 17 = .ok (.aload_n 0, 1) := by decide +kernel
theorem dX0_fittingBeds_18 : decode cX0_fittingBeds 18 = .ok (.getfield 19, 3) := by decide +kernel
theorem dX0_fittingBeds_21 : decode cX0_fittingBeds 21 = .ok (.aload_n 0, 1) := by decide +kernel
theorem dX0_fittingBeds_22 : decode cX0_fittingBeds 22 = .ok (.getfield 22, 3) := by decide +kernel
theorem dX0_fittingBeds_25 : decode cX0_fittingBeds 25 = .ok (.invokevirtual 119, 3) := by decide +kernel
theorem dX0_fittingBeds_28 : decode cX0_fittingBeds 28 = .ok (.iadd, 1) := by decide +kernel
theorem dX0_fittingBeds_29 : decode cX0_fittingBeds 29 = .ok (.istore_n 1, 1) := by decide +kernel
theorem dX0_fittingBeds_30 : decode cX0_fittingBeds 30 = .ok (.aload_n 0, 1) := by decide +kernel
theorem dX0_fittingBeds_31 : decode cX0_fittingBeds 31 = .ok (.iload_n 3, 1) := by decide +kernel
theorem dX0_fittingBeds_32 : decode cX0_fittingBeds 32 = .ok (.invokevirtual 60, 3) := by decide +kernel
theorem dX0_fittingBeds_35 : decode cX0_fittingBeds 35 = .ok (.ifCond .eq 26, 3) := by decide +kernel
theorem dX0_fittingBeds_38 : decode cX0_fittingBeds 38 = .ok (.iload_n 1, 1) := by decide +kernel
theorem dX0_fittingBeds_39 : decode cX0_fittingBeds 39 = .ok (.aload_n 0, 1) := by decide +kernel
theorem dX0_fittingBeds_40 : decode cX0_fittingBeds 40 = .ok (.getfield 41, 3) := by decide +kernel
theorem dX0_fittingBeds_43 : decode cX0_fittingBeds 43 = .ok (.iload_n 3, 1) := by decide +kernel
theorem dX0_fittingBeds_44 : decode cX0_fittingBeds 44 = .ok (.iaload, 1) := by decide +kernel
theorem dX0_fittingBeds_45 : decode cX0_fittingBeds 45 = .ok (.isub, 1) := by decide +kernel
theorem dX0_fittingBeds_46 : decode cX0_fittingBeds 46 = .ok (.invokestatic 122, 3) := by decide +kernel
theorem dX0_fittingBeds_49 : decode cX0_fittingBeds 49 = .ok (.aload_n 0, 1) := by decide +kernel
theorem dX0_fittingBeds_50 : decode cX0_fittingBeds 50 = .ok (.getfield 44, 3) := by decide +kernel
theorem dX0_fittingBeds_53 : decode cX0_fittingBeds 53 = .ok (.iload_n 3, 1) := by decide +kernel
theorem dX0_fittingBeds_54 : decode cX0_fittingBeds 54 = .ok (.iaload, 1) := by decide +kernel
theorem dX0_fittingBeds_55 : decode cX0_fittingBeds 55 = .ok (.if_icmp .gt 6, 3) := by decide +kernel
theorem dX0_fittingBeds_58 : decode cX0_fittingBeds 58 = .ok (.iinc 2 1, 3) := by decide +kernel
theorem dX0_fittingBeds_61 : decode cX0_fittingBeds 61 = .ok (.iinc 3 1, 3) := by decide +kernel
theorem dX0_fittingBeds_64 : decode cX0_fittingBeds 64 = .ok (.goto (-58), 3) := by decide +kernel
theorem dX0_fittingBeds_67 : decode cX0_fittingBeds 67 = .ok (.iload_n 2, 1) := by decide +kernel
theorem dX0_fittingBeds_68 : decode cX0_fittingBeds 68 = .ok (.ireturn, 1) := by decide +kernel
set_option maxRecDepth 20000 in
theorem ggX0_misfit_X0_yearsOf : GoodIn wsX0_misfit wsX0_yearsOf := goodIn_r _ [11, 12, 13, 14, 15, 16, 10, 17, 18, 19, 20, 21, 22, 23, 24, 25, 5, 26, 27, 28, 29, 30, 1, 31, 32, 33, 34, 35, 36, 37, 38, 47, 48, 49, 50, 51, 52, 53, 54, 55, 56, 57, 58] (by decide +kernel) (by decide +kernel)
set_option maxRecDepth 20000 in
theorem gX0_misfit_X0_yearsOf : GoodIn wsX0_misfit (wsV RX0 119 RX0 yX0_yearsOf wsX0_yearsOf) := goodIn_app (goodIn_of _ (by decide +kernel)) ggX0_misfit_X0_yearsOf
set_option maxRecDepth 20000 in
theorem ggX0_misfit_X0_hasAsh : GoodIn wsX0_misfit wsX0_hasAsh := goodIn_r _ [42, 2, 43, 44, 45, 10, 46, 1, 47, 48, 49, 50, 51, 52, 53, 54, 55, 56, 57, 58] (by decide +kernel) (by decide +kernel)
set_option maxRecDepth 20000 in
theorem gX0_misfit_X0_hasAsh : GoodIn wsX0_misfit (wsV RX0 60 RX0 yX0_hasAsh wsX0_hasAsh) := goodIn_app (goodIn_of _ (by decide +kernel)) ggX0_misfit_X0_hasAsh
theorem dX0_misfit_0 : decode cX0_misfit 0 = .ok (.iconst 0, 1) := by decide +kernel
theorem dX0_misfit_1 : decode cX0_misfit 1 = .ok (.istore_n 3, 1) := by decide +kernel
theorem dX0_misfit_2 : decode cX0_misfit 2 = .ok (.lconst 0, 1) := by decide +kernel
theorem dX0_misfit_3 : decode cX0_misfit 3 = .ok (.lstore 4, 2) := by decide +kernel
theorem dX0_misfit_5 : decode cX0_misfit 5 = .ok (.iconst 0, 1) := by decide +kernel
theorem dX0_misfit_6 : decode cX0_misfit 6 = .ok (.istore 6, 2) := by decide +kernel
theorem dX0_misfit_8 : decode cX0_misfit 8 = .ok (.iload 6, 2) := by decide +kernel
theorem dX0_misfit_10 : decode cX0_misfit 10 = .ok (.aload_n 0, 1) := by decide +kernel
theorem dX0_misfit_11 : decode cX0_misfit 11 = .ok (.getfield 9, 3) := by decide +kernel
theorem dX0_misfit_14 : decode cX0_misfit 14 = .ok (.if_icmp .ge 47, 3) := by decide +kernel
theorem dX0_misfit_17 : decode cX0_misfit 17 = .ok (.iload_n 3, 1) := by decide +kernel
theorem dX0_misfit_18 : decode cX0_misfit 18 = .ok (.aload_n 0, 1) := by decide +kernel
theorem dX0_misfit_19 : decode cX0_misfit 19 = .ok (.iload 6, 2) := by decide +kernel
theorem dX0_misfit_21 : decode cX0_misfit 21 = .ok (.iload_n 1, 1) := by decide +kernel
theorem dX0_misfit_22 : decode cX0_misfit 22 = .ok (.iload_n 2, 1) := by decide +kernel
theorem dX0_misfit_23 : decode cX0_misfit 23 = .ok (.invokevirtual 119, 3) := by decide +kernel
theorem dX0_misfit_26 : decode cX0_misfit 26 = .ok (.iadd, 1) := by decide +kernel
theorem dX0_misfit_27 : decode cX0_misfit 27 = .ok (.istore_n 3, 1) := by decide +kernel
theorem dX0_misfit_28 : decode cX0_misfit 28 = .ok (.aload_n 0, 1) := by decide +kernel
theorem dX0_misfit_29 : decode cX0_misfit 29 = .ok (.iload 6, 2) := by decide +kernel
theorem dX0_misfit_31 : decode cX0_misfit 31 = .ok (.invokevirtual 60, 3) := by decide +kernel
theorem dX0_misfit_34 : decode cX0_misfit 34 = .ok (.ifCond .eq 21, 3) := by decide +kernel
theorem dX0_misfit_37 : decode cX0_misfit 37 = .ok (.lload 4, 2) := by decide +kernel
theorem dX0_misfit_39 : decode cX0_misfit 39 = .ok (.iload_n 3, 1) := by decide +kernel
theorem dX0_misfit_40 : decode cX0_misfit 40 = .ok (.aload_n 0, 1) := by decide +kernel
theorem dX0_misfit_41 : decode cX0_misfit 41 = .ok (.getfield 41, 3) := by decide +kernel
theorem dX0_misfit_44 : decode cX0_misfit 44 = .ok (.iload 6, 2) := by decide +kernel
theorem dX0_misfit_46 : decode cX0_misfit 46 = .ok (.iaload, 1) := by decide +kernel
theorem dX0_misfit_47 : decode cX0_misfit 47 = .ok (.isub, 1) := by decide +kernel
theorem dX0_misfit_48 : decode cX0_misfit 48 = .ok (.invokestatic 122, 3) := by decide +kernel
theorem dX0_misfit_51 : decode cX0_misfit 51 = .ok (.i2l, 1) := by decide +kernel
theorem dX0_misfit_52 : decode cX0_misfit 52 = .ok (.ladd, 1) := by decide +kernel
theorem dX0_misfit_53 : decode cX0_misfit 53 = .ok (.lstore 4, 2) := by decide +kernel
theorem dX0_misfit_55 : decode cX0_misfit 55 = .ok (.iinc 6 1, 3) := by decide +kernel
theorem dX0_misfit_58 : decode cX0_misfit 58 = .ok (.goto (-50), 3) := by decide +kernel
theorem dX0_misfit_61 : decode cX0_misfit 61 = .ok (.lload 4, 2) := by decide +kernel
theorem dX0_misfit_63 : decode cX0_misfit 63 = .ok (.lreturn, 1) := by decide +kernel
set_option maxRecDepth 20000 in
theorem ggX0_sealOfAges_X0_yearsOf : GoodIn wsX0_sealOfAges wsX0_yearsOf := goodIn_r _ [8, 9, 10, 11, 12, 13, 7, 14, 15, 16, 17, 18, 19, 20, 21, 22, 23, 24, 25, 26, 27, 28, 1, 29, 30, 31, 32, 33, 34, 35, 36, 37, 38, 39, 40, 41, 42, 43, 44, 45, 46, 47, 48] (by decide +kernel) (by decide +kernel)
set_option maxRecDepth 20000 in
theorem gX0_sealOfAges_X0_yearsOf : GoodIn wsX0_sealOfAges (wsV RX0 119 RX0 yX0_yearsOf wsX0_yearsOf) := goodIn_app (goodIn_of _ (by decide +kernel)) ggX0_sealOfAges_X0_yearsOf
theorem dX0_sealOfAges_0 : decode cX0_sealOfAges 0 = .ok (.iconst 0, 1) := by decide +kernel
theorem dX0_sealOfAges_1 : decode cX0_sealOfAges 1 = .ok (.istore_n 1, 1) := by decide +kernel
theorem dX0_sealOfAges_2 : decode cX0_sealOfAges 2 = .ok (.bipush 7, 2) := by decide +kernel
theorem dX0_sealOfAges_4 : decode cX0_sealOfAges 4 = .ok (.istore_n 2, 1) := by decide +kernel
theorem dX0_sealOfAges_5 : decode cX0_sealOfAges 5 = .ok (.iconst 0, 1) := by decide +kernel
theorem dX0_sealOfAges_6 : decode cX0_sealOfAges 6 = .ok (.istore_n 3, 1) := by decide +kernel
theorem dX0_sealOfAges_7 : decode cX0_sealOfAges 7 = .ok (.iload_n 3, 1) := by decide +kernel
theorem dX0_sealOfAges_8 : decode cX0_sealOfAges 8 = .ok (.aload_n 0, 1) := by decide +kernel
theorem dX0_sealOfAges_9 : decode cX0_sealOfAges 9 = .ok (.getfield 9, 3) := by decide +kernel
theorem dX0_sealOfAges_12 : decode cX0_sealOfAges 12 = .ok (.if_icmp .ge 32, 3) := by decide +kernel
theorem dX0_sealOfAges_15 : decode cX0_sealOfAges 15 = .ok (.iload_n 1, 1) := by decide +kernel
theorem dX0_sealOfAges_16 : decode cX0_sealOfAges 16 = .ok (.aload_n 0, 1) := by decide +kernel
theorem dX0_sealOfAges_17 : decode cX0_sealOfAges 17 = .ok (.iload_n 3, 1) := by decide +kernel
theorem dX0_sealOfAges_18 : decode cX0_sealOfAges 18 = .ok (.aload_n 0, 1) := by decide +kernel
theorem dX0_sealOfAges_19 : decode cX0_sealOfAges 19 = .ok (.getfield 19, 3) := by decide +kernel
theorem dX0_sealOfAges_22 : decode cX0_sealOfAges 22 = .ok (.aload_n 0, 1) := by decide +kernel
theorem dX0_sealOfAges_23 : decode cX0_sealOfAges 23 = .ok (.getfield 22, 3) := by decide +kernel
theorem dX0_sealOfAges_26 : decode cX0_sealOfAges 26 = .ok (.invokevirtual 119, 3) := by decide +kernel
theorem dX0_sealOfAges_29 : decode cX0_sealOfAges 29 = .ok (.iadd, 1) := by decide +kernel
theorem dX0_sealOfAges_30 : decode cX0_sealOfAges 30 = .ok (.istore_n 1, 1) := by decide +kernel
theorem dX0_sealOfAges_31 : decode cX0_sealOfAges 31 = .ok (.bipush 31, 2) := by decide +kernel
theorem dX0_sealOfAges_33 : decode cX0_sealOfAges 33 = .ok (.iload_n 2, 1) := by decide +kernel
theorem dX0_sealOfAges_34 : decode cX0_sealOfAges 34 = .ok (.imul, 1) := by decide +kernel
theorem dX0_sealOfAges_35 : decode cX0_sealOfAges 35 = .ok (.iload_n 1, 1) := by decide +kernel
theorem dX0_sealOfAges_36 : decode cX0_sealOfAges 36 = .ok (.iadd, 1) := by decide +kernel
theorem dX0_sealOfAges_37 : decode cX0_sealOfAges 37 = .ok (.istore_n 2, 1) := by decide +kernel
theorem dX0_sealOfAges_38 : decode cX0_sealOfAges 38 = .ok (.iinc 3 1, 3) := by decide +kernel
theorem dX0_sealOfAges_41 : decode cX0_sealOfAges 41 = .ok (.goto (-34), 3) := by decide +kernel
theorem dX0_sealOfAges_44 : decode cX0_sealOfAges 44 = .ok (.iload_n 2, 1) := by decide +kernel
theorem dX0_sealOfAges_45 : decode cX0_sealOfAges 45 = .ok (.i2s, 1) := by decide +kernel
theorem dX0_sealOfAges_46 : decode cX0_sealOfAges 46 = .ok (.ireturn, 1) := by decide +kernel
set_option maxRecDepth 20000 in
theorem ggX0_ageAt_X0_yearsOf : GoodIn wsX0_ageAt wsX0_yearsOf := goodIn_r _ [9, 10, 11, 12, 13, 14, 8, 15, 16, 17, 4, 18, 19, 20, 21, 22, 23, 24, 25, 26, 27, 28, 1, 29, 30, 31, 32, 33, 34, 35, 36, 37, 38, 39, 40, 41, 42, 43, 44, 45, 46, 47, 48] (by decide +kernel) (by decide +kernel)
set_option maxRecDepth 20000 in
theorem gX0_ageAt_X0_yearsOf : GoodIn wsX0_ageAt (wsV RX0 119 RX0 yX0_yearsOf wsX0_yearsOf) := goodIn_app (goodIn_of _ (by decide +kernel)) ggX0_ageAt_X0_yearsOf
set_option maxRecDepth 20000 in
theorem ggX0_ageAt_X4_quotient : GoodIn wsX0_ageAt wsX4_quotient := goodIn_r _ [31] (by decide +kernel) (by decide +kernel)
set_option maxRecDepth 20000 in
theorem gX0_ageAt_X4_quotient_n98 : GoodIn wsX0_ageAt (wsX4_quotient) := ggX0_ageAt_X4_quotient
theorem dX0_ageAt_0 : decode cX0_ageAt 0 = .ok (.iconst 0, 1) := by decide +kernel
theorem dX0_ageAt_1 : decode cX0_ageAt 1 = .ok (.istore_n 2, 1) := by decide +kernel
theorem dX0_ageAt_2 : decode cX0_ageAt 2 = .ok (.iconst 0, 1) := by decide +kernel
theorem dX0_ageAt_3 : decode cX0_ageAt 3 = .ok (.istore_n 3, 1) := by decide +kernel
theorem dX0_ageAt_4 : decode cX0_ageAt 4 = .ok (.iconst 0, 1) := by decide +kernel
theorem dX0_ageAt_5 : decode cX0_ageAt 5 = .ok (.istore 4, 2) := by decide +kernel
theorem dX0_ageAt_7 : decode cX0_ageAt 7 = .ok (.iload 4, 2) := by decide +kernel
theorem dX0_ageAt_9 : decode cX0_ageAt 9 = .ok (.aload_n 0, 1) := by decide +kernel
theorem dX0_ageAt_10 : decode cX0_ageAt 10 = .ok (.getfield 9, 3) := by decide +kernel
theorem dX0_ageAt_13 : decode cX0_ageAt 13 = .ok (.if_icmp .ge 77, 3) := by decide +kernel
theorem dX0_ageAt_16 : decode cX0_ageAt 16 = .ok (.aload_n 0, 1) := by decide +kernel
theorem dX0_ageAt_17 : decode cX0_ageAt 17 = .ok (.iload 4, 2) := by decide +kernel
theorem dX0_ageAt_19 : decode cX0_ageAt 19 = .ok (.aload_n 0, 1) := by decide +kernel
theorem dX0_ageAt_20 : decode cX0_ageAt 20 = .ok (.getfield 19, 3) := by decide +kernel
theorem dX0_ageAt_23 : decode cX0_ageAt 23 = .ok (.aload_n 0, 1) := by decide +kernel
theorem dX0_ageAt_24 : decode cX0_ageAt 24 = .ok (.getfield 22, 3) := by decide +kernel
theorem dX0_ageAt_27 : decode cX0_ageAt 27 = .ok (.invokevirtual 119, 3) := by decide +kernel
theorem dX0_ageAt_30 : decode cX0_ageAt 30 = .ok (.i2l, 1) := by decide +kernel
theorem dX0_ageAt_31 : decode cX0_ageAt 31 = .ok (.lstore 5, 2) := by decide +kernel
theorem dX0_ageAt_33 : decode cX0_ageAt 33 = .ok (.iload_n 1, 1) := by decide +kernel
theorem dX0_ageAt_34 : decode cX0_ageAt 34 = .ok (.iload_n 2, 1) := by decide +kernel
theorem dX0_ageAt_35 : decode cX0_ageAt 35 = .ok (.aload_n 0, 1) := by decide +kernel
theorem dX0_ageAt_36 : decode cX0_ageAt 36 = .ok (.getfield 28, 3) := by decide +kernel
theorem dX0_ageAt_39 : decode cX0_ageAt 39 = .ok (.iload 4, 2) := by decide +kernel
theorem dX0_ageAt_41 : decode cX0_ageAt 41 = .ok (.iaload, 1) := by decide +kernel
theorem dX0_ageAt_42 : decode cX0_ageAt 42 = .ok (.iadd, 1) := by decide +kernel
theorem dX0_ageAt_43 : decode cX0_ageAt 43 = .ok (.if_icmp .gt 25, 3) := by decide +kernel
theorem dX0_ageAt_46 : decode cX0_ageAt 46 = .ok (.iload_n 3, 1) := by decide +kernel
theorem dX0_ageAt_47 : decode cX0_ageAt 47 = .ok (.lload 5, 2) := by decide +kernel
theorem dX0_ageAt_49 : decode cX0_ageAt 49 = .ok (.iload_n 1, 1) := by decide +kernel
theorem dX0_ageAt_50 : decode cX0_ageAt 50 = .ok (.iload_n 2, 1) := by decide +kernel
theorem dX0_ageAt_51 : decode cX0_ageAt 51 = .ok (.isub, 1) := by decide +kernel
theorem dX0_ageAt_52 : decode cX0_ageAt 52 = .ok (.i2l, 1) := by decide +kernel
theorem dX0_ageAt_53 : decode cX0_ageAt 53 = .ok (.lmul, 1) := by decide +kernel
theorem dX0_ageAt_54 : decode cX0_ageAt 54 = .ok (.aload_n 0, 1) := by decide +kernel
theorem dX0_ageAt_55 : decode cX0_ageAt 55 = .ok (.getfield 28, 3) := by decide +kernel
theorem dX0_ageAt_58 : decode cX0_ageAt 58 = .ok (.iload 4, 2) := by decide +kernel
theorem dX0_ageAt_60 : decode cX0_ageAt 60 = .ok (.iaload, 1) := by decide +kernel
theorem dX0_ageAt_61 : decode cX0_ageAt 61 = .ok (.i2l, 1) := by decide +kernel
theorem dX0_ageAt_62 : decode cX0_ageAt 62 = .ok (.invokestatic 98, 3) := by decide +kernel
theorem dX0_ageAt_65 : decode cX0_ageAt 65 = .ok (.l2i, 1) := by decide +kernel
theorem dX0_ageAt_66 : decode cX0_ageAt 66 = .ok (.iadd, 1) := by decide +kernel
theorem dX0_ageAt_67 : decode cX0_ageAt 67 = .ok (.ireturn, 1) := by decide +kernel
theorem dX0_ageAt_68 : decode cX0_ageAt 68 = .ok (.iload_n 2, 1) := by decide +kernel
theorem dX0_ageAt_69 : decode cX0_ageAt 69 = .ok (.aload_n 0, 1) := by decide +kernel
theorem dX0_ageAt_70 : decode cX0_ageAt 70 = .ok (.getfield 28, 3) := by decide +kernel
theorem dX0_ageAt_73 : decode cX0_ageAt 73 = .ok (.iload 4, 2) := by decide +kernel
theorem dX0_ageAt_75 : decode cX0_ageAt 75 = .ok (.iaload, 1) := by decide +kernel
theorem dX0_ageAt_76 : decode cX0_ageAt 76 = .ok (.iadd, 1) := by decide +kernel
theorem dX0_ageAt_77 : decode cX0_ageAt 77 = .ok (.istore_n 2, 1) := by decide +kernel
theorem dX0_ageAt_78 : decode cX0_ageAt 78 = .ok (.iload_n 3, 1) := by decide +kernel
theorem dX0_ageAt_79 : decode cX0_ageAt 79 = .ok (.lload 5, 2) := by decide +kernel
theorem dX0_ageAt_81 : decode cX0_ageAt 81 = .ok (.l2i, 1) := by decide +kernel
theorem dX0_ageAt_82 : decode cX0_ageAt 82 = .ok (.iadd, 1) := by decide +kernel
theorem dX0_ageAt_83 : decode cX0_ageAt 83 = .ok (.istore_n 3, 1) := by decide +kernel
theorem dX0_ageAt_84 : decode cX0_ageAt 84 = .ok (.iinc 4 1, 3) := by decide +kernel
theorem dX0_ageAt_87 : decode cX0_ageAt 87 = .ok (.goto (-80), 3) := by decide +kernel
theorem dX0_ageAt_90 : decode cX0_ageAt 90 = .ok (.iload_n 3, 1) := by decide +kernel
theorem dX0_ageAt_91 : decode cX0_ageAt 91 = .ok (.ireturn, 1) := by decide +kernel
set_option maxRecDepth 20000 in
theorem ggX0_gasAgeAt_X0_ageAt : GoodIn wsX0_gasAgeAt wsX0_ageAt := goodIn_r _ [11, 1, 12, 13, 2, 14, 15, 16, 10, 17, 18, 19, 20, 21, 22, 23, 24, 25, 26, 27, 28, 29, 30, 5, 31, 32, 33, 34, 35, 36, 37, 38, 39, 40, 41, 42, 43, 50, 51, 52, 53, 54, 55, 56, 57, 58, 59, 60, 61] (by decide +kernel) (by decide +kernel)
set_option maxRecDepth 20000 in
theorem gX0_gasAgeAt_X0_ageAt : GoodIn wsX0_gasAgeAt (wsV RX0 125 RX0 yX0_ageAt wsX0_ageAt) := goodIn_app (goodIn_of _ (by decide +kernel)) ggX0_gasAgeAt_X0_ageAt
set_option maxRecDepth 20000 in
theorem ggX0_gasAgeAt_X0_delayOf : GoodIn wsX0_gasAgeAt wsX0_delayOf := goodIn_r _ [47, 48, 49, 18, 19, 36, 37, 38, 50, 51, 52, 53, 54, 55, 56, 57, 58, 59, 60, 61] (by decide +kernel) (by decide +kernel)
set_option maxRecDepth 20000 in
theorem gX0_gasAgeAt_X0_delayOf : GoodIn wsX0_gasAgeAt (wsV RX0 128 RX0 yX0_delayOf wsX0_delayOf) := goodIn_app (goodIn_of _ (by decide +kernel)) ggX0_gasAgeAt_X0_delayOf
theorem dX0_gasAgeAt_0 : decode cX0_gasAgeAt 0 = .ok (.iconst 0, 1) := by decide +kernel
theorem dX0_gasAgeAt_1 : decode cX0_gasAgeAt 1 = .ok (.istore_n 2, 1) := by decide +kernel
theorem dX0_gasAgeAt_2 : decode cX0_gasAgeAt 2 = .ok (.iconst 0, 1) := by decide +kernel
theorem dX0_gasAgeAt_3 : decode cX0_gasAgeAt 3 = .ok (.istore_n 3, 1) := by decide +kernel
theorem dX0_gasAgeAt_4 : decode cX0_gasAgeAt 4 = .ok (.iload_n 3, 1) := by decide +kernel
theorem dX0_gasAgeAt_5 : decode cX0_gasAgeAt 5 = .ok (.aload_n 0, 1) := by decide +kernel
theorem dX0_gasAgeAt_6 : decode cX0_gasAgeAt 6 = .ok (.getfield 9, 3) := by decide +kernel
theorem dX0_gasAgeAt_9 : decode cX0_gasAgeAt 9 = .ok (.if_icmp .ge 39, 3) := by decide +kernel
theorem dX0_gasAgeAt_12 : decode cX0_gasAgeAt 12 = .ok (.iload_n 2, 1) := by decide +kernel
theorem dX0_gasAgeAt_13 : decode cX0_gasAgeAt 13 = .ok (.aload_n 0, 1) := by decide +kernel
theorem dX0_gasAgeAt_14 : decode cX0_gasAgeAt 14 = .ok (.getfield 28, 3) := by decide +kernel
theorem dX0_gasAgeAt_17 : decode cX0_gasAgeAt 17 = .ok (.iload_n 3, 1) := by decide +kernel
theorem dX0_gasAgeAt_18 : decode cX0_gasAgeAt 18 = .ok (.iaload, 1) := by decide +kernel
theorem dX0_gasAgeAt_19 : decode cX0_gasAgeAt 19 = .ok (.iadd, 1) := by decide +kernel
theorem dX0_gasAgeAt_20 : decode cX0_gasAgeAt 20 = .ok (.istore_n 2, 1) := by decide +kernel
theorem dX0_gasAgeAt_21 : decode cX0_gasAgeAt 21 = .ok (.iload_n 1, 1) := by decide +kernel
theorem dX0_gasAgeAt_22 : decode cX0_gasAgeAt 22 = .ok (.iload_n 2, 1) := by decide +kernel
theorem dX0_gasAgeAt_23 : decode cX0_gasAgeAt 23 = .ok (.if_icmp .gt 19, 3) := by decide +kernel
theorem dX0_gasAgeAt_26 : decode cX0_gasAgeAt 26 = .ok (.iconst 0, 1) := by decide +kernel
theorem dX0_gasAgeAt_27 : decode cX0_gasAgeAt 27 = .ok (.aload_n 0, 1) := by decide +kernel
theorem dX0_gasAgeAt_28 : decode cX0_gasAgeAt 28 = .ok (.iload_n 1, 1) := by decide +kernel
theorem dX0_gasAgeAt_29 : decode cX0_gasAgeAt 29 = .ok (.invokevirtual 125, 3) := by decide +kernel
theorem dX0_gasAgeAt_32 : decode cX0_gasAgeAt 32 = .ok (.aload_n 0, 1) := by decide +kernel
theorem dX0_gasAgeAt_33 : decode cX0_gasAgeAt 33 = .ok (.iload_n 3, 1) := by decide +kernel
theorem dX0_gasAgeAt_34 : decode cX0_gasAgeAt 34 = .ok (.invokevirtual 128, 3) := by decide +kernel
theorem dX0_gasAgeAt_37 : decode cX0_gasAgeAt 37 = .ok (.isub, 1) := by decide +kernel
theorem dX0_gasAgeAt_38 : decode cX0_gasAgeAt 38 = .ok (.invokestatic 131, 3) := by decide +kernel
theorem dX0_gasAgeAt_41 : decode cX0_gasAgeAt 41 = .ok (.ireturn, 1) := by decide +kernel
theorem dX0_gasAgeAt_42 : decode cX0_gasAgeAt 42 = .ok (.iinc 3 1, 3) := by decide +kernel
theorem dX0_gasAgeAt_45 : decode cX0_gasAgeAt 45 = .ok (.goto (-41), 3) := by decide +kernel
theorem dX0_gasAgeAt_48 : decode cX0_gasAgeAt 48 = .ok (.iconst 0, 1) := by decide +kernel
theorem dX0_gasAgeAt_49 : decode cX0_gasAgeAt 49 = .ok (.ireturn, 1) := by decide +kernel
set_option maxRecDepth 20000 in
theorem ggX0_leastDepthOf_X0_yearsOf : GoodIn wsX0_leastDepthOf wsX0_yearsOf := goodIn_r _ [10, 11, 12, 13, 14, 15, 9, 16, 17, 18, 4, 19, 20, 21, 22, 23, 24, 25, 26, 27, 28, 29, 1, 30, 31, 32, 33, 34, 35, 36, 37, 41, 42, 43, 44, 45, 46, 47, 48, 49, 50, 51, 52] (by decide +kernel) (by decide +kernel)
set_option maxRecDepth 20000 in
theorem gX0_leastDepthOf_X0_yearsOf : GoodIn wsX0_leastDepthOf (wsV RX0 119 RX0 yX0_yearsOf wsX0_yearsOf) := goodIn_app (goodIn_of _ (by decide +kernel)) ggX0_leastDepthOf_X0_yearsOf
set_option maxRecDepth 20000 in
theorem ggX0_leastDepthOf_X0_stepsFor : GoodIn wsX0_leastDepthOf wsX0_stepsFor := goodIn_r _ [40, 30, 31, 32] (by decide +kernel) (by decide +kernel)
set_option maxRecDepth 20000 in
theorem gX0_leastDepthOf_X0_stepsFor : GoodIn wsX0_leastDepthOf (va_wsS RX0 134 yX0_stepsFor wsX0_stepsFor) := goodIn_app (goodIn_of _ (by decide +kernel)) ggX0_leastDepthOf_X0_stepsFor
theorem dX0_leastDepthOf_0 : decode cX0_leastDepthOf 0 = .ok (.iconst 0, 1) := by decide +kernel
theorem dX0_leastDepthOf_1 : decode cX0_leastDepthOf 1 = .ok (.istore_n 2, 1) := by decide +kernel
theorem dX0_leastDepthOf_2 : decode cX0_leastDepthOf 2 = .ok (.lconst 0, 1) := by decide +kernel
theorem dX0_leastDepthOf_3 : decode cX0_leastDepthOf 3 = .ok (.lstore_n 3, 1) := by decide +kernel
theorem dX0_leastDepthOf_4 : decode cX0_leastDepthOf 4 = .ok (.iconst 0, 1) := by decide +kernel
theorem dX0_leastDepthOf_5 : decode cX0_leastDepthOf 5 = .ok (.istore 5, 2) := by decide +kernel
theorem dX0_leastDepthOf_7 : decode cX0_leastDepthOf 7 = .ok (.iload 5, 2) := by decide +kernel
theorem dX0_leastDepthOf_9 : decode cX0_leastDepthOf 9 = .ok (.aload_n 0, 1) := by decide +kernel
theorem dX0_leastDepthOf_10 : decode cX0_leastDepthOf 10 = .ok (.getfield 9, 3) := by decide +kernel
theorem dX0_leastDepthOf_13 : decode cX0_leastDepthOf 13 = .ok (.if_icmp .ge 71, 3) := by decide +kernel
theorem dX0_leastDepthOf_16 : decode cX0_leastDepthOf 16 = .ok (.aload_n 0, 1) := by decide +kernel
theorem dX0_leastDepthOf_17 : decode cX0_leastDepthOf 17 = .ok (.iload 5, 2) := by decide +kernel
theorem dX0_leastDepthOf_19 : decode cX0_leastDepthOf 19 = .ok (.aload_n 0, 1) := by decide +kernel
theorem dX0_leastDepthOf_20 : decode cX0_leastDepthOf 20 = .ok (.getfield 19, 3) := by decide +kernel
theorem dX0_leastDepthOf_23 : decode cX0_leastDepthOf 23 = .ok (.aload_n 0, 1) := by decide +kernel
theorem dX0_leastDepthOf_24 : decode cX0_leastDepthOf 24 = .ok (.getfield 22, 3) := by decide +kernel
theorem dX0_leastDepthOf_27 : decode cX0_leastDepthOf 27 = .ok (.invokevirtual 119, 3) := by decide +kernel
theorem dX0_leastDepthOf_30 : decode cX0_leastDepthOf 30 = .ok (.istore 6, 2) := by decide +kernel
theorem dX0_leastDepthOf_32 : decode cX0_leastDepthOf 32 = .ok (.lload_n 3, 1) := by decide +kernel
theorem dX0_leastDepthOf_33 : decode cX0_leastDepthOf 33 = .ok (.iload 6, 2) := by decide +kernel
theorem dX0_leastDepthOf_35 : decode cX0_leastDepthOf 35 = .ok (.i2l, 1) := by decide +kernel
theorem dX0_leastDepthOf_36 : decode cX0_leastDepthOf 36 = .ok (.ladd, 1) := by decide +kernel
theorem dX0_leastDepthOf_37 : decode cX0_leastDepthOf 37 = .ok (.iload_n 1, 1) := by decide +kernel
theorem dX0_leastDepthOf_38 : decode cX0_leastDepthOf 38 = .ok (.i2l, 1) := by decide +kernel
theorem dX0_leastDepthOf_39 : decode cX0_leastDepthOf 39 = .ok (.lcmp, 1) := by decide +kernel
theorem dX0_leastDepthOf_40 : decode cX0_leastDepthOf 40 = .ok (.ifCond .lt 22, 3) := by decide +kernel
theorem dX0_leastDepthOf_43 : decode cX0_leastDepthOf 43 = .ok (.iload_n 2, 1) := by decide +kernel
theorem dX0_leastDepthOf_44 : decode cX0_leastDepthOf 44 = .ok (.iload_n 1, 1) := by decide +kernel
theorem dX0_leastDepthOf_45 : decode cX0_leastDepthOf 45 = .ok (.i2l, 1) := by decide +kernel
theorem dX0_leastDepthOf_46 : decode cX0_leastDepthOf 46 = .ok (.lload_n 3, 1) := by decide +kernel
theorem dX0_leastDepthOf_47 : decode cX0_leastDepthOf 47 = .ok (.lsub, 1) := by decide +kernel
theorem dX0_leastDepthOf_48 : decode cX0_leastDepthOf 48 = .ok (.iload 6, 2) := by decide +kernel
theorem dX0_leastDepthOf_50 : decode cX0_leastDepthOf 50 = .ok (.aload_n 0, 1) := by decide +kernel
theorem dX0_leastDepthOf_51 : decode cX0_leastDepthOf 51 = .ok (.getfield 28, 3) := by decide +kernel
theorem dX0_leastDepthOf_54 : decode cX0_leastDepthOf 54 = .ok (.iload 5, 2) := by decide +kernel
theorem dX0_leastDepthOf_56 : decode cX0_leastDepthOf 56 = .ok (.iaload, 1) := by decide +kernel
theorem dX0_leastDepthOf_57 : decode cX0_leastDepthOf 57 = .ok (.invokestatic 134, 3) := by decide +kernel
theorem dX0_leastDepthOf_60 : decode cX0_leastDepthOf 60 = .ok (.iadd, 1) := by decide +kernel
theorem dX0_leastDepthOf_61 : decode cX0_leastDepthOf 61 = .ok (.ireturn, 1) := by decide +kernel
theorem dX0_leastDepthOf_62 : decode cX0_leastDepthOf 62 = .ok (.iload_n 2, 1) := by decide +kernel
theorem dX0_leastDepthOf_63 : decode cX0_leastDepthOf 63 = .ok (.aload_n 0, 1) := by decide +kernel
theorem dX0_leastDepthOf_64 : decode cX0_leastDepthOf 64 = .ok (.getfield 28, 3) := by decide +kernel
theorem dX0_leastDepthOf_67 : decode cX0_leastDepthOf 67 = .ok (.iload 5, 2) := by decide +kernel
theorem dX0_leastDepthOf_69 : decode cX0_leastDepthOf 69 = .ok (.iaload, 1) := by decide +kernel
theorem dX0_leastDepthOf_70 : decode cX0_leastDepthOf 70 = .ok (.iadd, 1) := by decide +kernel
theorem dX0_leastDepthOf_71 : decode cX0_leastDepthOf 71 = .ok (.istore_n 2, 1) := by decide +kernel
theorem dX0_leastDepthOf_72 : decode cX0_leastDepthOf 72 = .ok (.lload_n 3, 1) := by decide +kernel
theorem dX0_leastDepthOf_73 : decode cX0_leastDepthOf 73 = .ok (.iload 6, 2) := by decide +kernel
theorem dX0_leastDepthOf_75 : decode cX0_leastDepthOf 75 = .ok (.i2l, 1) := by decide +kernel
theorem dX0_leastDepthOf_76 : decode cX0_leastDepthOf 76 = .ok (.ladd, 1) := by decide +kernel
theorem dX0_leastDepthOf_77 : decode cX0_leastDepthOf 77 = .ok (.lstore_n 3, 1) := by decide +kernel
theorem dX0_leastDepthOf_78 : decode cX0_leastDepthOf 78 = .ok (.iinc 5 1, 3) := by decide +kernel
theorem dX0_leastDepthOf_81 : decode cX0_leastDepthOf 81 = .ok (.goto (-74), 3) := by decide +kernel
theorem dX0_leastDepthOf_84 : decode cX0_leastDepthOf 84 = .ok (.ldc 138, 2) := by decide +kernel
theorem dX0_leastDepthOf_86 : decode cX0_leastDepthOf 86 = .ok (.ireturn, 1) := by decide +kernel
set_option maxRecDepth 20000 in
theorem ggX0_leastGasDepthOf_X0_yearsOf : GoodIn wsX0_leastGasDepthOf wsX0_yearsOf := goodIn_r _ [14, 15, 16, 17, 18, 19, 13, 20, 21, 22, 5, 23, 24, 25, 26, 27, 8, 28, 29, 30, 31, 32, 1, 33, 34, 35, 36, 37, 38, 39, 40, 50, 51, 52, 53, 54, 55, 56, 57, 58, 59, 60, 61] (by decide +kernel) (by decide +kernel)
set_option maxRecDepth 20000 in
theorem gX0_leastGasDepthOf_X0_yearsOf : GoodIn wsX0_leastGasDepthOf (wsV RX0 119 RX0 yX0_yearsOf wsX0_yearsOf) := goodIn_app (goodIn_of _ (by decide +kernel)) ggX0_leastGasDepthOf_X0_yearsOf
set_option maxRecDepth 20000 in
theorem ggX0_leastGasDepthOf_X0_delayOf : GoodIn wsX0_leastGasDepthOf wsX0_delayOf := goodIn_r _ [44, 45, 46, 15, 16, 33, 34, 35, 50, 51, 52, 53, 54, 55, 56, 57, 58, 59, 60, 61] (by decide +kernel) (by decide +kernel)
set_option maxRecDepth 20000 in
theorem gX0_leastGasDepthOf_X0_delayOf : GoodIn wsX0_leastGasDepthOf (wsV RX0 128 RX0 yX0_delayOf wsX0_delayOf) := goodIn_app (goodIn_of _ (by decide +kernel)) ggX0_leastGasDepthOf_X0_delayOf
set_option maxRecDepth 20000 in
theorem ggX0_leastGasDepthOf_X0_stepsFor : GoodIn wsX0_leastGasDepthOf wsX0_stepsFor := goodIn_r _ [49, 33, 34, 35] (by decide +kernel) (by decide +kernel)
set_option maxRecDepth 20000 in
theorem gX0_leastGasDepthOf_X0_stepsFor : GoodIn wsX0_leastGasDepthOf (va_wsS RX0 134 yX0_stepsFor wsX0_stepsFor) := goodIn_app (goodIn_of _ (by decide +kernel)) ggX0_leastGasDepthOf_X0_stepsFor
theorem dX0_leastGasDepthOf_0 : decode cX0_leastGasDepthOf 0 = .ok (.iload_n 1, 1) := by decide +kernel
theorem dX0_leastGasDepthOf_1 : decode cX0_leastGasDepthOf 1 = .ok (.ifCond .ne 17, 3) := by decide +kernel
theorem dX0_leastGasDepthOf_4 : decode cX0_leastGasDepthOf 4 = .ok (.aload_n 0, 1) := by decide +kernel
theorem dX0_leastGasDepthOf_5 : decode cX0_leastGasDepthOf 5 = .ok (.getfield 9, 3) := by decide +kernel
theorem dX0_leastGasDepthOf_8 : decode cX0_leastGasDepthOf 8 = .ok (.ifCond .ne 8, 3) := by decide +kernel
theorem dX0_leastGasDepthOf_11 : decode cX0_leastGasDepthOf 11 = .ok (.ldc 138, 2) := by decide +kernel
theorem dX0_leastGasDepthOf_13 : decode cX0_leastGasDepthOf 13 = .ok (.goto 4, 3) := by decide +kernel
theorem dX0_leastGasDepthOf_16 : decode cX0_leastGasDepthOf 16 = .ok (.iconst 0, 1) := by decide +kernel
theorem dX0_leastGasDepthOf_17 : decode cX0_leastGasDepthOf 17 = .ok (.ireturn, 1) := by decide +kernel
theorem dX0_leastGasDepthOf_18 : decode cX0_leastGasDepthOf 18 = .ok (.iconst 0, 1) := by decide +kernel
theorem dX0_leastGasDepthOf_19 : decode cX0_leastGasDepthOf 19 = .ok (.istore_n 2, 1) := by decide +kernel
theorem dX0_leastGasDepthOf_20 : decode cX0_leastGasDepthOf 20 = .ok (.lconst 0, 1) := by decide +kernel
theorem dX0_leastGasDepthOf_21 : decode cX0_leastGasDepthOf 21 = .ok (.lstore_n 3, 1) := by decide +kernel
theorem dX0_leastGasDepthOf_22 : decode cX0_leastGasDepthOf 22 = .ok (.iconst 0, 1) := by decide +kernel
theorem dX0_leastGasDepthOf_23 : decode cX0_leastGasDepthOf 23 = .ok (.istore 5, 2) := by decide +kernel
theorem dX0_leastGasDepthOf_25 : decode cX0_leastGasDepthOf 25 = .ok (.iload 5, 2) := by decide +kernel
theorem dX0_leastGasDepthOf_27 : decode cX0_leastGasDepthOf 27 = .ok (.aload_n 0, 1) := by decide +kernel
theorem dX0_leastGasDepthOf_28 : decode cX0_leastGasDepthOf 28 = .ok (.getfield 9, 3) := by decide +kernel
theorem dX0_leastGasDepthOf_31 : decode cX0_leastGasDepthOf 31 = .ok (.if_icmp .ge 85, 3) := by decide +kernel
theorem dX0_leastGasDepthOf_34 : decode cX0_leastGasDepthOf 34 = .ok (.aload_n 0, 1) := by decide +kernel
theorem dX0_leastGasDepthOf_35 : decode cX0_leastGasDepthOf 35 = .ok (.iload 5, 2) := by decide +kernel
theorem dX0_leastGasDepthOf_37 : decode cX0_leastGasDepthOf 37 = .ok (.aload_n 0, 1) := by decide +kernel
theorem dX0_leastGasDepthOf_38 : decode cX0_leastGasDepthOf 38 = .ok (.getfield 19, 3) := by decide +kernel
theorem dX0_leastGasDepthOf_41 : decode cX0_leastGasDepthOf 41 = .ok (.aload_n 0, 1) := by decide +kernel
theorem dX0_leastGasDepthOf_42 : decode cX0_leastGasDepthOf 42 = .ok (.getfield 22, 3) := by decide +kernel
theorem dX0_leastGasDepthOf_45 : decode cX0_leastGasDepthOf 45 = .ok (.invokevirtual 119, 3) := by decide +kernel
theorem dX0_leastGasDepthOf_48 : decode cX0_leastGasDepthOf 48 = .ok (.istore 6, 2) := by decide +kernel
theorem dX0_leastGasDepthOf_50 : decode cX0_leastGasDepthOf 50 = .ok (.iload_n 1, 1) := by decide +kernel
theorem dX0_leastGasDepthOf_51 : decode cX0_leastGasDepthOf 51 = .ok (.i2l, 1) := by decide +kernel
theorem dX0_leastGasDepthOf_52 : decode cX0_leastGasDepthOf 52 = .ok (.aload_n 0, 1) := by decide +kernel
theorem dX0_leastGasDepthOf_53 : decode cX0_leastGasDepthOf 53 = .ok (.iload 5, 2) := by decide +kernel
theorem dX0_leastGasDepthOf_55 : decode cX0_leastGasDepthOf 55 = .ok (.invokevirtual 128, 3) := by decide +kernel
theorem dX0_leastGasDepthOf_58 : decode cX0_leastGasDepthOf 58 = .ok (.i2l, 1) := by decide +kernel
theorem dX0_leastGasDepthOf_59 : decode cX0_leastGasDepthOf 59 = .ok (.ladd, 1) := by decide +kernel
theorem dX0_leastGasDepthOf_60 : decode cX0_leastGasDepthOf 60 = .ok (.lload_n 3, 1) := by decide +kernel
theorem dX0_leastGasDepthOf_61 : decode cX0_leastGasDepthOf 61 = .ok (.lsub, 1) := by decide +kernel
theorem dX0_leastGasDepthOf_62 : decode cX0_leastGasDepthOf 62 = .ok (.lstore 7, 2) := by decide +kernel
theorem dX0_leastGasDepthOf_64 : decode cX0_leastGasDepthOf 64 = .ok (.iload 6, 2) := by decide +kernel
theorem dX0_leastGasDepthOf_66 : decode cX0_leastGasDepthOf 66 = .ok (.i2l, 1) := by decide +kernel
theorem dX0_leastGasDepthOf_67 : decode cX0_leastGasDepthOf 67 = .ok (.lload 7, 2) := by decide +kernel
theorem dX0_leastGasDepthOf_69 : decode cX0_leastGasDepthOf 69 = .ok (.lcmp, 1) := by decide +kernel
theorem dX0_leastGasDepthOf_70 : decode cX0_leastGasDepthOf 70 = .ok (.ifCond .lt 24, 3) := by decide +kernel
theorem dX0_leastGasDepthOf_73 : decode cX0_leastGasDepthOf 73 = .ok (.iload_n 2, 1) := by decide +kernel
theorem dX0_leastGasDepthOf_74 : decode cX0_leastGasDepthOf 74 = .ok (.iconst 1, 1) := by decide +kernel
theorem dX0_leastGasDepthOf_75 : decode cX0_leastGasDepthOf 75 = .ok (.lload 7, 2) := by decide +kernel
theorem dX0_leastGasDepthOf_77 : decode cX0_leastGasDepthOf 77 = .ok (.iload 6, 2) := by decide +kernel
theorem dX0_leastGasDepthOf_79 : decode cX0_leastGasDepthOf 79 = .ok (.aload_n 0, 1) := by decide +kernel
theorem dX0_leastGasDepthOf_80 : decode cX0_leastGasDepthOf 80 = .ok (.getfield 28, 3) := by decide +kernel
theorem dX0_leastGasDepthOf_83 : decode cX0_leastGasDepthOf 83 = .ok (.iload 5, 2) := by decide +kernel
theorem dX0_leastGasDepthOf_85 : decode cX0_leastGasDepthOf 85 = .ok (.iaload, 1) := by decide +kernel
theorem dX0_leastGasDepthOf_86 : decode cX0_leastGasDepthOf 86 = .ok (.invokestatic 134, 3) := by decide +kernel
theorem dX0_leastGasDepthOf_89 : decode cX0_leastGasDepthOf 89 = .ok (.invokestatic 131, 3) := by decide +kernel
theorem dX0_leastGasDepthOf_92 : decode cX0_leastGasDepthOf 92 = .ok (.iadd, 1) := by decide +kernel
theorem dX0_leastGasDepthOf_93 : decode cX0_leastGasDepthOf 93 = .ok (.ireturn, 1) := by decide +kernel
theorem dX0_leastGasDepthOf_94 : decode cX0_leastGasDepthOf 94 = .ok (.iload_n 2, 1) := by decide +kernel
theorem dX0_leastGasDepthOf_95 : decode cX0_leastGasDepthOf 95 = .ok (.aload_n 0, 1) := by decide +kernel
theorem dX0_leastGasDepthOf_96 : decode cX0_leastGasDepthOf 96 = .ok (.getfield 28, 3) := by decide +kernel
theorem dX0_leastGasDepthOf_99 : decode cX0_leastGasDepthOf 99 = .ok (.iload 5, 2) := by decide +kernel
theorem dX0_leastGasDepthOf_101 : decode cX0_leastGasDepthOf 101 = .ok (.iaload, 1) := by decide +kernel
theorem dX0_leastGasDepthOf_102 : decode cX0_leastGasDepthOf 102 = .ok (.iadd, 1) := by decide +kernel
theorem dX0_leastGasDepthOf_103 : decode cX0_leastGasDepthOf 103 = .ok (.istore_n 2, 1) := by decide +kernel
theorem dX0_leastGasDepthOf_104 : decode cX0_leastGasDepthOf 104 = .ok (.lload_n 3, 1) := by decide +kernel
theorem dX0_leastGasDepthOf_105 : decode cX0_leastGasDepthOf 105 = .ok (.iload 6, 2) := by decide +kernel
theorem dX0_leastGasDepthOf_107 : decode cX0_leastGasDepthOf 107 = .ok (.i2l, 1) := by decide +kernel
theorem dX0_leastGasDepthOf_108 : decode cX0_leastGasDepthOf 108 = .ok (.ladd, 1) := by decide +kernel
theorem dX0_leastGasDepthOf_109 : decode cX0_leastGasDepthOf 109 = .ok (.lstore_n 3, 1) := by decide +kernel
theorem dX0_leastGasDepthOf_110 : decode cX0_leastGasDepthOf 110 = .ok (.iinc 5 1, 3) := by decide +kernel
theorem dX0_leastGasDepthOf_113 : decode cX0_leastGasDepthOf 113 = .ok (.goto (-88), 3) := by decide +kernel
theorem dX0_leastGasDepthOf_116 : decode cX0_leastGasDepthOf 116 = .ok (.ldc 138, 2) := by decide +kernel
theorem dX0_leastGasDepthOf_118 : decode cX0_leastGasDepthOf 118 = .ok (.ireturn, 1) := by decide +kernel
set_option maxRecDepth 20000 in
theorem ggX0_stepsFor_X4_quotient : GoodIn wsX0_stepsFor wsX4_quotient := goodIn_r _ [3] (by decide +kernel) (by decide +kernel)
set_option maxRecDepth 20000 in
theorem gX0_stepsFor_X4_quotient_n98 : GoodIn wsX0_stepsFor (wsX4_quotient) := ggX0_stepsFor_X4_quotient
theorem dX0_stepsFor_0 : decode cX0_stepsFor 0 = .ok (.lload_n 0, 1) := by decide +kernel
theorem dX0_stepsFor_1 : decode cX0_stepsFor 1 = .ok (.lconst 0, 1) := by decide +kernel
theorem dX0_stepsFor_2 : decode cX0_stepsFor 2 = .ok (.lcmp, 1) := by decide +kernel
theorem dX0_stepsFor_3 : decode cX0_stepsFor 3 = .ok (.ifCond .gt 5, 3) := by decide +kernel
theorem dX0_stepsFor_6 : decode cX0_stepsFor 6 = .ok (.iconst 0, 1) := by decide +kernel
theorem dX0_stepsFor_7 : decode cX0_stepsFor 7 = .ok (.ireturn, 1) := by decide +kernel
theorem dX0_stepsFor_8 : decode cX0_stepsFor 8 = .ok (.lload_n 0, 1) := by decide +kernel
theorem dX0_stepsFor_9 : decode cX0_stepsFor 9 = .ok (.iload_n 3, 1) := by decide +kernel
theorem dX0_stepsFor_10 : decode cX0_stepsFor 10 = .ok (.i2l, 1) := by decide +kernel
theorem dX0_stepsFor_11 : decode cX0_stepsFor 11 = .ok (.lmul, 1) := by decide +kernel
theorem dX0_stepsFor_12 : decode cX0_stepsFor 12 = .ok (.iload_n 2, 1) := by decide +kernel
theorem dX0_stepsFor_13 : decode cX0_stepsFor 13 = .ok (.i2l, 1) := by decide +kernel
theorem dX0_stepsFor_14 : decode cX0_stepsFor 14 = .ok (.ladd, 1) := by decide +kernel
theorem dX0_stepsFor_15 : decode cX0_stepsFor 15 = .ok (.lconst 1, 1) := by decide +kernel
theorem dX0_stepsFor_16 : decode cX0_stepsFor 16 = .ok (.lsub, 1) := by decide +kernel
theorem dX0_stepsFor_17 : decode cX0_stepsFor 17 = .ok (.iload_n 2, 1) := by decide +kernel
theorem dX0_stepsFor_18 : decode cX0_stepsFor 18 = .ok (.i2l, 1) := by decide +kernel
theorem dX0_stepsFor_19 : decode cX0_stepsFor 19 = .ok (.invokestatic 98, 3) := by decide +kernel
theorem dX0_stepsFor_22 : decode cX0_stepsFor 22 = .ok (.l2i, 1) := by decide +kernel
theorem dX0_stepsFor_23 : decode cX0_stepsFor 23 = .ok (.ireturn, 1) := by decide +kernel
set_option maxRecDepth 20000 in
theorem ggX0_invertedBorders_X0_gasAgeAt : GoodIn wsX0_invertedBorders wsX0_gasAgeAt := goodIn_r _ [7, 1, 2, 8, 9, 10, 11, 12, 13, 14, 6, 15, 16, 17, 18, 19, 20, 21, 22, 23, 24, 25, 26, 27, 28, 29, 30, 31, 32, 33, 34, 35, 36, 37, 38, 39, 40, 41, 42, 43, 44, 45, 46, 47, 48, 49, 50, 51, 52, 53, 54, 55, 56, 57, 58, 59, 60, 61, 62, 63, 64, 65] (by decide +kernel) (by decide +kernel)
set_option maxRecDepth 20000 in
theorem gX0_invertedBorders_X0_gasAgeAt : GoodIn wsX0_invertedBorders (wsV RX0 139 RX0 yX0_gasAgeAt wsX0_gasAgeAt) := goodIn_app (goodIn_of _ (by decide +kernel)) ggX0_invertedBorders_X0_gasAgeAt
theorem dX0_invertedBorders_0 : decode cX0_invertedBorders 0 = .ok (.iconst 0, 1) := by decide +kernel
theorem dX0_invertedBorders_1 : decode cX0_invertedBorders 1 = .ok (.istore_n 1, 1) := by decide +kernel
theorem dX0_invertedBorders_2 : decode cX0_invertedBorders 2 = .ok (.iconst 0, 1) := by decide +kernel
theorem dX0_invertedBorders_3 : decode cX0_invertedBorders 3 = .ok (.istore_n 2, 1) := by decide +kernel
theorem dX0_invertedBorders_4 : decode cX0_invertedBorders 4 = .ok (.iconst 0, 1) := by decide +kernel
theorem dX0_invertedBorders_5 : decode cX0_invertedBorders 5 = .ok (.istore_n 3, 1) := by decide +kernel
theorem dX0_invertedBorders_6 : decode cX0_invertedBorders 6 = .ok (.iload_n 3, 1) := by decide +kernel
theorem dX0_invertedBorders_7 : decode cX0_invertedBorders 7 = .ok (.aload_n 0, 1) := by decide +kernel
theorem dX0_invertedBorders_8 : decode cX0_invertedBorders 8 = .ok (.getfield 9, 3) := by decide +kernel
theorem dX0_invertedBorders_11 : decode cX0_invertedBorders 11 = .ok (.iconst 1, 1) := by decide +kernel
theorem dX0_invertedBorders_12 : decode cX0_invertedBorders 12 = .ok (.isub, 1) := by decide +kernel
theorem dX0_invertedBorders_13 : decode cX0_invertedBorders 13 = .ok (.if_icmp .ge 36, 3) := by decide +kernel
theorem dX0_invertedBorders_16 : decode cX0_invertedBorders 16 = .ok (.iload_n 2, 1) := by decide +kernel
theorem dX0_invertedBorders_17 : decode cX0_invertedBorders 17 = .ok (.aload_n 0, 1) := by decide +kernel
theorem dX0_invertedBorders_18 : decode cX0_invertedBorders 18 = .ok (.getfield 28, 3) := by decide +kernel
theorem dX0_invertedBorders_21 : decode cX0_invertedBorders 21 = .ok (.iload_n 3, 1) := by decide +kernel
theorem dX0_invertedBorders_22 : decode cX0_invertedBorders 22 = .ok (.iaload, 1) := by decide +kernel
theorem dX0_invertedBorders_23 : decode cX0_invertedBorders 23 = .ok (.iadd, 1) := by decide +kernel
theorem dX0_invertedBorders_24 : decode cX0_invertedBorders 24 = .ok (.istore_n 2, 1) := by decide +kernel
theorem dX0_invertedBorders_25 : decode cX0_invertedBorders 25 = .ok (.aload_n 0, 1) := by decide +kernel
theorem dX0_invertedBorders_26 : decode cX0_invertedBorders 26 = .ok (.iload_n 2, 1) := by decide +kernel
theorem dX0_invertedBorders_27 : decode cX0_invertedBorders 27 = .ok (.invokevirtual 139, 3) := by decide +kernel
theorem dX0_invertedBorders_30 : decode cX0_invertedBorders 30 = .ok (.aload_n 0, 1) := by decide +kernel
theorem dX0_invertedBorders_31 : decode cX0_invertedBorders 31 = .ok (.iload_n 2, 1) := by decide +kernel
theorem dX0_invertedBorders_32 : decode cX0_invertedBorders 32 = .ok (.iconst 1, 1) := by decide +kernel
theorem dX0_invertedBorders_33 : decode cX0_invertedBorders 33 = .ok (.iadd, 1) := by decide +kernel
theorem dX0_invertedBorders_34 : decode cX0_invertedBorders 34 = .ok (.invokevirtual 139, 3) := by decide +kernel
theorem dX0_invertedBorders_37 : decode cX0_invertedBorders 37 = .ok (.if_icmp .le 6, 3) := by decide +kernel
theorem dX0_invertedBorders_40 : decode cX0_invertedBorders 40 = .ok (.iinc 1 1, 3) := by decide +kernel
theorem dX0_invertedBorders_43 : decode cX0_invertedBorders 43 = .ok (.iinc 3 1, 3) := by decide +kernel
theorem dX0_invertedBorders_46 : decode cX0_invertedBorders 46 = .ok (.goto (-40), 3) := by decide +kernel
theorem dX0_invertedBorders_49 : decode cX0_invertedBorders 49 = .ok (.iload_n 1, 1) := by decide +kernel
theorem dX0_invertedBorders_50 : decode cX0_invertedBorders 50 = .ok (.ireturn, 1) := by decide +kernel
set_option maxRecDepth 20000 in
theorem ggX0_fitCorrections_X0_canBeTuned : GoodIn wsX0_fitCorrections wsX0_canBeTuned := goodIn_r _ [8, 2, 3, 9, 10, 11, 7, 12, 13, 14, 15, 16, 17, 18, 19, 20, 91, 92, 93, 94, 95, 96, 97, 98, 99, 100, 101, 102] (by decide +kernel) (by decide +kernel)
set_option maxRecDepth 20000 in
theorem gX0_fitCorrections_X0_canBeTuned : GoodIn wsX0_fitCorrections (wsV RX0 142 RX0 yX0_canBeTuned wsX0_canBeTuned) := goodIn_app (goodIn_of _ (by decide +kernel)) ggX0_fitCorrections_X0_canBeTuned
set_option maxRecDepth 20000 in
theorem ggX0_fitCorrections_X0_hasAsh : GoodIn wsX0_fitCorrections wsX0_hasAsh := goodIn_r _ [12, 3, 13, 14, 15, 7, 16, 2, 91, 92, 93, 94, 95, 96, 97, 98, 99, 100, 101, 102] (by decide +kernel) (by decide +kernel)
set_option maxRecDepth 20000 in
theorem gX0_fitCorrections_X0_hasAsh : GoodIn wsX0_fitCorrections (wsV RX0 60 RX0 yX0_hasAsh wsX0_hasAsh) := goodIn_app (goodIn_of _ (by decide +kernel)) ggX0_fitCorrections_X0_hasAsh
set_option maxRecDepth 20000 in
theorem ggX0_fitCorrections_X0_fitSegment : GoodIn wsX0_fitCorrections wsX0_fitSegment := goodIn_r _ [24, 2, 25, 26, 27, 28, 29, 30, 31, 32, 33, 34, 35, 36, 37, 7, 38, 39, 40, 41, 42, 43, 44, 45, 46, 47, 48, 49, 50, 51, 52, 53, 54, 55, 56, 57, 58, 59, 60, 61, 62, 63, 64, 65, 66, 67, 68, 69, 70, 71, 72, 73, 74, 75, 76, 77, 78, 91, 92, 93, 94, 95, 96, 97, 98, 99, 100, 101, 102, 103, 104, 105] (by decide +kernel) (by decide +kernel)
set_option maxRecDepth 20000 in
theorem gX0_fitCorrections_X0_fitSegment : GoodIn wsX0_fitCorrections (wsV RX0 146 RX0 yX0_fitSegment wsX0_fitSegment) := goodIn_app (goodIn_of _ (by decide +kernel)) ggX0_fitCorrections_X0_fitSegment
set_option maxRecDepth 20000 in
theorem ggX0_fitCorrections_X0_fittingBeds : GoodIn wsX0_fitCorrections wsX0_fittingBeds := goodIn_r _ [82, 2, 26, 27, 3, 83, 84, 52, 85, 86, 87, 88, 89, 7, 90, 25, 28, 41, 42, 43, 44, 45, 46, 40, 47, 48, 49, 50, 51, 53, 54, 55, 56, 57, 58, 59, 60, 35, 36, 37, 38, 39, 9, 10, 11, 12, 13, 14, 15, 16, 91, 92, 93, 94, 95, 96, 97, 98, 99, 100, 101, 102] (by decide +kernel) (by decide +kernel)
set_option maxRecDepth 20000 in
theorem gX0_fitCorrections_X0_fittingBeds : GoodIn wsX0_fitCorrections (wsV RX0 150 RX0 yX0_fittingBeds wsX0_fittingBeds) := goodIn_app (goodIn_of _ (by decide +kernel)) ggX0_fitCorrections_X0_fittingBeds
theorem dX0_fitCorrections_0 : decode cX0_fitCorrections 0 = .ok (.aload_n 0, 1) := by decide +kernel
theorem dX0_fitCorrections_1 : decode cX0_fitCorrections 1 = .ok (.invokevirtual 142, 3) := by decide +kernel
theorem dX0_fitCorrections_4 : decode cX0_fitCorrections 4 = .ok (.ifCond .ne 6, 3) := by decide +kernel
theorem dX0_fitCorrections_7 : decode cX0_fitCorrections 7 = .ok (.ldc 76, 2) := by decide +kernel
theorem dX0_fitCorrections_9 : decode cX0_fitCorrections 9 = .ok (.ireturn, 1) := by decide +kernel
theorem dX0_fitCorrections_10 : decode cX0_fitCorrections 10 = .ok (.iconst 0, 1) := by decide +kernel
theorem dX0_fitCorrections_11 : decode cX0_fitCorrections 11 = .ok (.istore_n 2, 1) := by decide +kernel
theorem dX0_fitCorrections_12 : decode cX0_fitCorrections 12 = .ok (.iconst 0, 1) := by decide +kernel
theorem dX0_fitCorrections_13 : decode cX0_fitCorrections 13 = .ok (.istore_n 3, 1) := by decide +kernel
theorem dX0_fitCorrections_14 : decode cX0_fitCorrections 14 = .ok (.iconst 0, 1) := by decide +kernel
theorem dX0_fitCorrections_15 : decode cX0_fitCorrections 15 = .ok (.istore 4, 2) := by decide +kernel
theorem dX0_fitCorrections_17 : decode cX0_fitCorrections 17 = .ok (.iload 4, 2) := by decide +kernel
theorem dX0_fitCorrections_19 : decode cX0_fitCorrections 19 = .ok (.aload_n 0, 1) := by decide +kernel
theorem dX0_fitCorrections_20 : decode cX0_fitCorrections 20 = .ok (.getfield 9, 3) := by decide +kernel
theorem dX0_fitCorrections_23 : decode cX0_fitCorrections 23 = .ok (.if_icmp .ge 48, 3) := by decide +kernel
theorem dX0_fitCorrections_26 : decode cX0_fitCorrections 26 = .ok (.aload_n 0, 1) := by decide +kernel
theorem dX0_fitCorrections_27 : decode cX0_fitCorrections 27 = .ok (.iload 4, 2) := by decide +kernel
theorem dX0_fitCorrections_29 : decode cX0_fitCorrections 29 = .ok (.invokevirtual 60, 3) := by decide +kernel
theorem dX0_fitCorrections_32 : decode cX0_fitCorrections 32 = .ok (.ifCond .eq 33, 3) := by decide +kernel
theorem dX0_fitCorrections_35 : decode cX0_fitCorrections 35 = .ok (.aload_n 0, 1) := by decide +kernel
theorem dX0_fitCorrections_36 : decode cX0_fitCorrections 36 = .ok (.iload_n 2, 1) := by decide +kernel
theorem dX0_fitCorrections_37 : decode cX0_fitCorrections 37 = .ok (.iload 4, 2) := by decide +kernel
theorem dX0_fitCorrections_39 : decode cX0_fitCorrections 39 = .ok (.aload_n 0, 1) := by decide +kernel
theorem dX0_fitCorrections_40 : decode cX0_fitCorrections 40 = .ok (.getfield 41, 3) := by decide +kernel
theorem dX0_fitCorrections_43 : decode cX0_fitCorrections 43 = .ok (.iload 4, 2) := by decide +kernel
theorem dX0_fitCorrections_45 : decode cX0_fitCorrections 45 = .ok (.iaload, 1) := by decide +kernel
theorem dX0_fitCorrections_46 : decode cX0_fitCorrections 46 = .ok (.iload_n 3, 1) := by decide +kernel
theorem dX0_fitCorrections_47 : decode cX0_fitCorrections 47 = .ok (.isub, 1) := by decide +kernel
theorem dX0_fitCorrections_48 : decode cX0_fitCorrections 48 = .ok (.aload_n 1, 1) := by decide +kernel
theorem dX0_fitCorrections_49 : decode cX0_fitCorrections 49 = .ok (.invokevirtual 146, 3) := by decide +kernel
theorem dX0_fitCorrections_52 : decode cX0_fitCorrections 52 = .ok (.iload 4, 2) := by decide +kernel
theorem dX0_fitCorrections_54 : decode cX0_fitCorrections 54 = .ok (.iconst 1, 1) := by decide +kernel
theorem dX0_fitCorrections_55 : decode cX0_fitCorrections 55 = .ok (.iadd, 1) := by decide +kernel
theorem dX0_fitCorrections_56 : decode cX0_fitCorrections 56 = .ok (.istore_n 2, 1) := by decide +kernel
theorem dX0_fitCorrections_57 : decode cX0_fitCorrections 57 = .ok (.aload_n 0, 1) := by decide +kernel
theorem dX0_fitCorrections_58 : decode cX0_fitCorrections 58 = .ok (.getfield 41, 3) := by decide +kernel
theorem dX0_fitCorrections_61 : decode cX0_fitCorrections 61 = .ok (.iload 4, 2) := by decide +kernel
theorem dX0_fitCorrections_63 : decode cX0_fitCorrections 63 = .ok (.iaload, 1) := by decide +kernel
theorem dX0_fitCorrections_64 : decode cX0_fitCorrections 64 = .ok (.istore_n 3, 1) := by decide +kernel
theorem dX0_fitCorrections_65 : decode cX0_fitCorrections 65 = .ok (.iinc 4 1, 3) := by decide +kernel
theorem dX0_fitCorrections_68 : decode cX0_fitCorrections 68 = .ok (.goto (-51), 3) := by decide +kernel
theorem dX0_fitCorrections_71 : decode cX0_fitCorrections 71 = .ok (.aload_n 0, 1) := by decide +kernel
theorem dX0_fitCorrections_72 : decode cX0_fitCorrections 72 = .ok (.invokevirtual 150, 3) := by decide +kernel
theorem dX0_fitCorrections_75 : decode cX0_fitCorrections 75 = .ok (.ireturn, 1) := by decide +kernel
set_option maxRecDepth 20000 in
theorem ggX0_canBeTuned_X0_hasAsh : GoodIn wsX0_canBeTuned wsX0_hasAsh := goodIn_r _ [7, 2, 8, 9, 10, 6, 11, 1, 16, 17, 18, 19, 20, 21, 22, 23, 24, 25, 26, 27] (by decide +kernel) (by decide +kernel)
set_option maxRecDepth 20000 in
theorem gX0_canBeTuned_X0_hasAsh : GoodIn wsX0_canBeTuned (wsV RX0 60 RX0 yX0_hasAsh wsX0_hasAsh) := goodIn_app (goodIn_of _ (by decide +kernel)) ggX0_canBeTuned_X0_hasAsh
set_option maxRecDepth 20000 in
theorem ggX0_canBeTuned_X0_ashBeds : GoodIn wsX0_canBeTuned wsX0_ashBeds := goodIn_r _ [15, 1, 3, 4, 5, 6, 7, 2, 8, 9, 10, 11, 16, 17, 18, 19, 20, 21, 22, 23, 24, 25, 26, 27] (by decide +kernel) (by decide +kernel)
set_option maxRecDepth 20000 in
theorem gX0_canBeTuned_X0_ashBeds : GoodIn wsX0_canBeTuned (wsV RX0 85 RX0 yX0_ashBeds wsX0_ashBeds) := goodIn_app (goodIn_of _ (by decide +kernel)) ggX0_canBeTuned_X0_ashBeds
theorem dX0_canBeTuned_0 : decode cX0_canBeTuned 0 = .ok (.iconst 0, 1) := by decide +kernel
theorem dX0_canBeTuned_1 : decode cX0_canBeTuned 1 = .ok (.istore_n 1, 1) := by decide +kernel
theorem dX0_canBeTuned_2 : decode cX0_canBeTuned 2 = .ok (.iconst 0, 1) := by decide +kernel
theorem dX0_canBeTuned_3 : decode cX0_canBeTuned 3 = .ok (.istore_n 2, 1) := by decide +kernel
theorem dX0_canBeTuned_4 : decode cX0_canBeTuned 4 = .ok (.iload_n 2, 1) := by decide +kernel
theorem dX0_canBeTuned_5 : decode cX0_canBeTuned 5 = .ok (.aload_n 0, 1) := by decide +kernel
theorem dX0_canBeTuned_6 : decode cX0_canBeTuned 6 = .ok (.getfield 9, 3) := by decide +kernel
theorem dX0_canBeTuned_9 : decode cX0_canBeTuned 9 = .ok (.if_icmp .ge 36, 3) := by decide +kernel
theorem dX0_canBeTuned_12 : decode cX0_canBeTuned 12 = .ok (.aload_n 0, 1) := by decide +kernel
theorem dX0_canBeTuned_13 : decode cX0_canBeTuned 13 = .ok (.iload_n 2, 1) := by decide +kernel
theorem dX0_canBeTuned_14 : decode cX0_canBeTuned 14 = .ok (.invokevirtual 60, 3) := by decide +kernel
theorem dX0_canBeTuned_17 : decode cX0_canBeTuned 17 = .ok (.ifCond .eq 22, 3) := by decide +kernel
theorem dX0_canBeTuned_20 : decode cX0_canBeTuned 20 = .ok (.aload_n 0, 1) := by decide +kernel
theorem dX0_canBeTuned_21 : decode cX0_canBeTuned 21 = .ok (.getfield 41, 3) := by decide +kernel
theorem dX0_canBeTuned_24 : decode cX0_canBeTuned 24 = .ok (.iload_n 2, 1) := by decide +kernel
theorem dX0_canBeTuned_25 : decode cX0_canBeTuned 25 = .ok (.iaload, 1) := by decide +kernel
theorem dX0_canBeTuned_26 : decode cX0_canBeTuned 26 = .ok (.iload_n 1, 1) := by decide +kernel
theorem dX0_canBeTuned_27 : decode cX0_canBeTuned 27 = .ok (.if_icmp .ge 5, 3) := by decide +kernel
theorem dX0_canBeTuned_30 : decode cX0_canBeTuned 30 = .ok (.iconst 0, 1) := by decide +kernel
theorem dX0_canBeTuned_31 : decode cX0_canBeTuned 31 = .ok (.ireturn, 1) := by decide +kernel
theorem dX0_canBeTuned_32 : decode cX0_canBeTuned 32 = .ok (.aload_n 0, 1) := by decide +kernel
theorem dX0_canBeTuned_33 : decode cX0_canBeTuned 33 = .ok (.getfield 41, 3) := by decide +kernel
theorem dX0_canBeTuned_36 : decode cX0_canBeTuned 36 = .ok (.iload_n 2, 1) := by decide +kernel
theorem dX0_canBeTuned_37 : decode cX0_canBeTuned 37 = .ok (.iaload, 1) := by decide +kernel
theorem dX0_canBeTuned_38 : decode cX0_canBeTuned 38 = .ok (.istore_n 1, 1) := by decide +kernel
theorem dX0_canBeTuned_39 : decode cX0_canBeTuned 39 = .ok (.iinc 2 1, 3) := by decide +kernel
theorem dX0_canBeTuned_42 : decode cX0_canBeTuned 42 = .ok (.goto (-38), 3) := by decide +kernel
theorem dX0_canBeTuned_45 : decode cX0_canBeTuned 45 = .ok (.aload_n 0, 1) := by decide +kernel
theorem dX0_canBeTuned_46 : decode cX0_canBeTuned 46 = .ok (.invokevirtual 85, 3) := by decide +kernel
theorem dX0_canBeTuned_49 : decode cX0_canBeTuned 49 = .ok (.ifCond .le 7, 3) := by decide +kernel
theorem dX0_canBeTuned_52 : decode cX0_canBeTuned 52 = .ok (.iconst 1, 1) := by decide +kernel
theorem dX0_canBeTuned_53 : decode cX0_canBeTuned 53 = .ok (.goto 4, 3) := by decide +kernel
theorem dX0_canBeTuned_56 : decode cX0_canBeTuned 56 = .ok (.iconst 0, 1) := by decide +kernel
theorem dX0_canBeTuned_57 : decode cX0_canBeTuned 57 = .ok (.ireturn, 1) := by decide +kernel
set_option maxRecDepth 20000 in
theorem ggX0_fitSegment_X1_clear : GoodIn wsX0_fitSegment wsX1_clear := goodIn_r _ [10, 11, 69, 70, 71] (by decide +kernel) (by decide +kernel)
set_option maxRecDepth 20000 in
theorem gX0_fitSegment_X1_clear : GoodIn wsX0_fitSegment (wsV RX0 153 RX1 yX1_clear wsX1_clear) := goodIn_app (goodIn_of _ (by decide +kernel)) ggX0_fitSegment_X1_clear
set_option maxRecDepth 20000 in
theorem ggX0_fitSegment_X0_yearsDividend : GoodIn wsX0_fitSegment wsX0_yearsDividend := goodIn_r _ [16, 17, 18, 57, 58, 59, 60, 61, 62, 63, 64, 65, 66, 67, 68] (by decide +kernel) (by decide +kernel)
set_option maxRecDepth 20000 in
theorem gX0_fitSegment_X0_yearsDividend : GoodIn wsX0_fitSegment (wsV RX0 113 RX0 yX0_yearsDividend wsX0_yearsDividend) := goodIn_app (goodIn_of _ (by decide +kernel)) ggX0_fitSegment_X0_yearsDividend
set_option maxRecDepth 20000 in
theorem ggX0_fitSegment_X0_thinningOf : GoodIn wsX0_fitSegment wsX0_thinningOf := goodIn_r _ [22, 23, 24, 18, 25, 26, 27, 28, 29, 30, 31, 32, 33, 34, 15, 35, 1, 36, 37, 38, 57, 58, 59, 60, 61, 62, 63, 64, 65, 66, 67, 68] (by decide +kernel) (by decide +kernel)
set_option maxRecDepth 20000 in
theorem gX0_fitSegment_X0_thinningOf : GoodIn wsX0_fitSegment (wsV RX0 109 RX0 yX0_thinningOf wsX0_thinningOf) := goodIn_app (goodIn_of _ (by decide +kernel)) ggX0_fitSegment_X0_thinningOf
set_option maxRecDepth 20000 in
theorem ggX0_fitSegment_X1_add : GoodIn wsX0_fitSegment wsX1_add := goodIn_r _ [42, 11, 43, 44, 69, 70, 71] (by decide +kernel) (by decide +kernel)
set_option maxRecDepth 20000 in
theorem gX0_fitSegment_X1_add : GoodIn wsX0_fitSegment (wsV RX0 158 RX1 yX1_add wsX1_add) := goodIn_app (goodIn_of _ (by decide +kernel)) ggX0_fitSegment_X1_add
set_option maxRecDepth 20000 in
theorem ggX0_fitSegment_X1_nearest : GoodIn wsX0_fitSegment wsX1_nearest := goodIn_r _ [48, 49, 50, 51, 9, 52, 53, 54, 55, 56, 11, 44, 43, 69, 70, 71] (by decide +kernel) (by decide +kernel)
set_option maxRecDepth 20000 in
theorem gX0_fitSegment_X1_nearest : GoodIn wsX0_fitSegment (wsV RX0 162 RX1 yX1_nearest wsX1_nearest) := goodIn_app (goodIn_of _ (by decide +kernel)) ggX0_fitSegment_X1_nearest
theorem dX0_fitSegment_0 : decode cX0_fitSegment 0 = .ok (.aload 4, 2) := by decide +kernel
theorem dX0_fitSegment_2 : decode cX0_fitSegment 2 = .ok (.invokevirtual 153, 3) := by decide +kernel
theorem dX0_fitSegment_5 : decode cX0_fitSegment 5 = .ok (.iload_n 1, 1) := by decide +kernel
theorem dX0_fitSegment_6 : decode cX0_fitSegment 6 = .ok (.istore 5, 2) := by decide +kernel
theorem dX0_fitSegment_8 : decode cX0_fitSegment 8 = .ok (.iload 5, 2) := by decide +kernel
theorem dX0_fitSegment_10 : decode cX0_fitSegment 10 = .ok (.iload_n 2, 1) := by decide +kernel
theorem dX0_fitSegment_11 : decode cX0_fitSegment 11 = .ok (.if_icmp .gt 53, 3) := by decide +kernel
theorem dX0_fitSegment_14 : decode cX0_fitSegment 14 = .ok (.iload 5, 2) := by decide +kernel
theorem dX0_fitSegment_16 : decode cX0_fitSegment 16 = .ok (.aload_n 0, 1) := by decide +kernel
theorem dX0_fitSegment_17 : decode cX0_fitSegment 17 = .ok (.getfield 9, 3) := by decide +kernel
theorem dX0_fitSegment_20 : decode cX0_fitSegment 20 = .ok (.if_icmp .ge 44, 3) := by decide +kernel
theorem dX0_fitSegment_23 : decode cX0_fitSegment 23 = .ok (.aload 4, 2) := by decide +kernel
theorem dX0_fitSegment_25 : decode cX0_fitSegment 25 = .ok (.aload_n 0, 1) := by decide +kernel
theorem dX0_fitSegment_26 : decode cX0_fitSegment 26 = .ok (.iload 5, 2) := by decide +kernel
theorem dX0_fitSegment_28 : decode cX0_fitSegment 28 = .ok (.invokevirtual 113, 3) := by decide +kernel
theorem dX0_fitSegment_31 : decode cX0_fitSegment 31 = .ok (.aload_n 0, 1) := by decide +kernel
theorem dX0_fitSegment_32 : decode cX0_fitSegment 32 = .ok (.getfield 32, 3) := by decide +kernel
theorem dX0_fitSegment_35 : decode cX0_fitSegment 35 = .ok (.iload 5, 2) := by decide +kernel
theorem dX0_fitSegment_37 : decode cX0_fitSegment 37 = .ok (.iaload, 1) := by decide +kernel
theorem dX0_fitSegment_38 : decode cX0_fitSegment 38 = .ok (.i2l, 1) := by decide +kernel
theorem dX0_fitSegment_39 : decode cX0_fitSegment 39 = .ok (.aload_n 0, 1) := by decide +kernel
theorem dX0_fitSegment_40 : decode cX0_fitSegment 40 = .ok (.iload 5, 2) := by decide +kernel
theorem dX0_fitSegment_42 : decode cX0_fitSegment 42 = .ok (.aload_n 0, 1) := by decide +kernel
theorem dX0_fitSegment_43 : decode cX0_fitSegment 43 = .ok (.getfield 19, 3) := by decide +kernel
theorem dX0_fitSegment_46 : decode cX0_fitSegment 46 = .ok (.aload_n 0, 1) := by decide +kernel
theorem dX0_fitSegment_47 : decode cX0_fitSegment 47 = .ok (.getfield 22, 3) := by decide +kernel
theorem dX0_fitSegment_50 : decode cX0_fitSegment 50 = .ok (.invokevirtual 109, 3) := by decide +kernel
theorem dX0_fitSegment_53 : decode cX0_fitSegment 53 = .ok (.i2l, 1) := by decide +kernel
theorem dX0_fitSegment_54 : decode cX0_fitSegment 54 = .ok (.lmul, 1) := by decide +kernel
theorem dX0_fitSegment_55 : decode cX0_fitSegment 55 = .ok (.invokevirtual 158, 3) := by decide +kernel
theorem dX0_fitSegment_58 : decode cX0_fitSegment 58 = .ok (.iinc 5 1, 3) := by decide +kernel
theorem dX0_fitSegment_61 : decode cX0_fitSegment 61 = .ok (.goto (-53), 3) := by decide +kernel
theorem dX0_fitSegment_64 : decode cX0_fitSegment 64 = .ok (.aload 4, 2) := by decide +kernel
theorem dX0_fitSegment_66 : decode cX0_fitSegment 66 = .ok (.sipush 200, 3) := by decide +kernel
theorem dX0_fitSegment_69 : decode cX0_fitSegment 69 = .ok (.sipush 5000, 3) := by decide +kernel
theorem dX0_fitSegment_72 : decode cX0_fitSegment 72 = .ok (.iload_n 3, 1) := by decide +kernel
theorem dX0_fitSegment_73 : decode cX0_fitSegment 73 = .ok (.i2l, 1) := by decide +kernel
theorem dX0_fitSegment_74 : decode cX0_fitSegment 74 = .ok (.invokevirtual 162, 3) := by decide +kernel
theorem dX0_fitSegment_77 : decode cX0_fitSegment 77 = .ok (.istore 5, 2) := by decide +kernel
theorem dX0_fitSegment_79 : decode cX0_fitSegment 79 = .ok (.iload_n 1, 1) := by decide +kernel
theorem dX0_fitSegment_80 : decode cX0_fitSegment 80 = .ok (.istore 6, 2) := by decide +kernel
theorem dX0_fitSegment_82 : decode cX0_fitSegment 82 = .ok (.iload 6, 2) := by decide +kernel
theorem dX0_fitSegment_84 : decode cX0_fitSegment 84 = .ok (.iload_n 2, 1) := by decide +kernel
theorem dX0_fitSegment_85 : decode cX0_fitSegment 85 = .ok (.if_icmp .gt 27, 3) := by decide +kernel
theorem dX0_fitSegment_88 : decode cX0_fitSegment 88 = .ok (.iload 6, 2) := by decide +kernel
theorem dX0_fitSegment_90 : decode cX0_fitSegment 90 = .ok (.aload_n 0, 1) := by decide +kernel
theorem dX0_fitSegment_91 : decode cX0_fitSegment 91 = .ok (.getfield 9, 3) := by decide +kernel
theorem dX0_fitSegment_94 : decode cX0_fitSegment 94 = .ok (.if_icmp .ge 18, 3) := by decide +kernel
theorem dX0_fitSegment_97 : decode cX0_fitSegment 97 = .ok (.aload_n 0, 1) := by decide +kernel
theorem dX0_fitSegment_98 : decode cX0_fitSegment 98 = .ok (.getfield 35, 3) := by decide +kernel
theorem dX0_fitSegment_101 : decode cX0_fitSegment 101 = .ok (.iload 6, 2) := by decide +kernel
theorem dX0_fitSegment_103 : decode cX0_fitSegment 103 = .ok (.iload 5, 2) := by decide +kernel
theorem dX0_fitSegment_105 : decode cX0_fitSegment 105 = .ok (.iastore, 1) := by decide +kernel
theorem dX0_fitSegment_106 : decode cX0_fitSegment 106 = .ok (.iinc 6 1, 3) := by decide +kernel
theorem dX0_fitSegment_109 : decode cX0_fitSegment 109 = .ok (.goto (-27), 3) := by decide +kernel
theorem dX0_fitSegment_112 : decode cX0_fitSegment 112 = .ok (.return_, 1) := by decide +kernel
set_option maxRecDepth 20000 in
theorem ggX0_fitAccumulation_X1_clear : GoodIn wsX0_fitAccumulation wsX1_clear := goodIn_r _ [9, 10, 69, 70, 71] (by decide +kernel) (by decide +kernel)
set_option maxRecDepth 20000 in
theorem gX0_fitAccumulation_X1_clear : GoodIn wsX0_fitAccumulation (wsV RX0 153 RX1 yX1_clear wsX1_clear) := goodIn_app (goodIn_of _ (by decide +kernel)) ggX0_fitAccumulation_X1_clear
set_option maxRecDepth 20000 in
theorem ggX0_fitAccumulation_X0_yearsDividend : GoodIn wsX0_fitAccumulation wsX0_yearsDividend := goodIn_r _ [15, 16, 17, 57, 58, 59, 60, 61, 62, 63, 64, 65, 66, 67, 68] (by decide +kernel) (by decide +kernel)
set_option maxRecDepth 20000 in
theorem gX0_fitAccumulation_X0_yearsDividend : GoodIn wsX0_fitAccumulation (wsV RX0 113 RX0 yX0_yearsDividend wsX0_yearsDividend) := goodIn_app (goodIn_of _ (by decide +kernel)) ggX0_fitAccumulation_X0_yearsDividend
set_option maxRecDepth 20000 in
theorem ggX0_fitAccumulation_X0_thinningOf : GoodIn wsX0_fitAccumulation wsX0_thinningOf := goodIn_r _ [21, 22, 23, 17, 24, 25, 26, 27, 28, 29, 30, 31, 32, 33, 14, 34, 35, 36, 37, 38, 57, 58, 59, 60, 61, 62, 63, 64, 65, 66, 67, 68] (by decide +kernel) (by decide +kernel)
set_option maxRecDepth 20000 in
theorem gX0_fitAccumulation_X0_thinningOf : GoodIn wsX0_fitAccumulation (wsV RX0 109 RX0 yX0_thinningOf wsX0_thinningOf) := goodIn_app (goodIn_of _ (by decide +kernel)) ggX0_fitAccumulation_X0_thinningOf
set_option maxRecDepth 20000 in
theorem ggX0_fitAccumulation_X1_add : GoodIn wsX0_fitAccumulation wsX1_add := goodIn_r _ [42, 10, 43, 44, 69, 70, 71] (by decide +kernel) (by decide +kernel)
set_option maxRecDepth 20000 in
theorem gX0_fitAccumulation_X1_add : GoodIn wsX0_fitAccumulation (wsV RX0 158 RX1 yX1_add wsX1_add) := goodIn_app (goodIn_of _ (by decide +kernel)) ggX0_fitAccumulation_X1_add
set_option maxRecDepth 20000 in
theorem ggX0_fitAccumulation_X1_nearest : GoodIn wsX0_fitAccumulation wsX1_nearest := goodIn_r _ [48, 49, 50, 51, 8, 52, 53, 54, 55, 56, 10, 44, 43, 69, 70, 71] (by decide +kernel) (by decide +kernel)
set_option maxRecDepth 20000 in
theorem gX0_fitAccumulation_X1_nearest : GoodIn wsX0_fitAccumulation (wsV RX0 162 RX1 yX1_nearest wsX1_nearest) := goodIn_app (goodIn_of _ (by decide +kernel)) ggX0_fitAccumulation_X1_nearest
theorem dX0_fitAccumulation_0 : decode cX0_fitAccumulation 0 = .ok (.aload_n 2, 1) := by decide +kernel
theorem dX0_fitAccumulation_1 : decode cX0_fitAccumulation 1 = .ok (.invokevirtual 153, 3) := by decide +kernel
theorem dX0_fitAccumulation_4 : decode cX0_fitAccumulation 4 = .ok (.aload_n 2, 1) := by decide +kernel
theorem dX0_fitAccumulation_5 : decode cX0_fitAccumulation 5 = .ok (.aload_n 0, 1) := by decide +kernel
theorem dX0_fitAccumulation_6 : decode cX0_fitAccumulation 6 = .ok (.iload_n 1, 1) := by decide +kernel
theorem dX0_fitAccumulation_7 : decode cX0_fitAccumulation 7 = .ok (.invokevirtual 113, 3) := by decide +kernel
theorem dX0_fitAccumulation_10 : decode cX0_fitAccumulation 10 = .ok (.aload_n 0, 1) := by decide +kernel
theorem dX0_fitAccumulation_11 : decode cX0_fitAccumulation 11 = .ok (.getfield 35, 3) := by decide +kernel
theorem dX0_fitAccumulation_14 : decode cX0_fitAccumulation 14 = .ok (.iload_n 1, 1) := by decide +kernel
theorem dX0_fitAccumulation_15 : decode cX0_fitAccumulation 15 = .ok (.iaload, 1) := by decide +kernel
theorem dX0_fitAccumulation_16 : decode cX0_fitAccumulation 16 = .ok (.i2l, 1) := by decide +kernel
theorem dX0_fitAccumulation_17 : decode cX0_fitAccumulation 17 = .ok (.aload_n 0, 1) := by decide +kernel
theorem dX0_fitAccumulation_18 : decode cX0_fitAccumulation 18 = .ok (.iload_n 1, 1) := by decide +kernel
theorem dX0_fitAccumulation_19 : decode cX0_fitAccumulation 19 = .ok (.aload_n 0, 1) := by decide +kernel
theorem dX0_fitAccumulation_20 : decode cX0_fitAccumulation 20 = .ok (.getfield 19, 3) := by decide +kernel
theorem dX0_fitAccumulation_23 : decode cX0_fitAccumulation 23 = .ok (.aload_n 0, 1) := by decide +kernel
theorem dX0_fitAccumulation_24 : decode cX0_fitAccumulation 24 = .ok (.getfield 22, 3) := by decide +kernel
theorem dX0_fitAccumulation_27 : decode cX0_fitAccumulation 27 = .ok (.invokevirtual 109, 3) := by decide +kernel
theorem dX0_fitAccumulation_30 : decode cX0_fitAccumulation 30 = .ok (.i2l, 1) := by decide +kernel
theorem dX0_fitAccumulation_31 : decode cX0_fitAccumulation 31 = .ok (.lmul, 1) := by decide +kernel
theorem dX0_fitAccumulation_32 : decode cX0_fitAccumulation 32 = .ok (.invokevirtual 158, 3) := by decide +kernel
theorem dX0_fitAccumulation_35 : decode cX0_fitAccumulation 35 = .ok (.aload_n 2, 1) := by decide +kernel
theorem dX0_fitAccumulation_36 : decode cX0_fitAccumulation 36 = .ok (.bipush 10, 2) := by decide +kernel
theorem dX0_fitAccumulation_38 : decode cX0_fitAccumulation 38 = .ok (.sipush 2000, 3) := by decide +kernel
theorem dX0_fitAccumulation_41 : decode cX0_fitAccumulation 41 = .ok (.aload_n 0, 1) := by decide +kernel
theorem dX0_fitAccumulation_42 : decode cX0_fitAccumulation 42 = .ok (.getfield 47, 3) := by decide +kernel
theorem dX0_fitAccumulation_45 : decode cX0_fitAccumulation 45 = .ok (.iload_n 1, 1) := by decide +kernel
theorem dX0_fitAccumulation_46 : decode cX0_fitAccumulation 46 = .ok (.iaload, 1) := by decide +kernel
theorem dX0_fitAccumulation_47 : decode cX0_fitAccumulation 47 = .ok (.i2l, 1) := by decide +kernel
theorem dX0_fitAccumulation_48 : decode cX0_fitAccumulation 48 = .ok (.invokevirtual 162, 3) := by decide +kernel
theorem dX0_fitAccumulation_51 : decode cX0_fitAccumulation 51 = .ok (.ireturn, 1) := by decide +kernel
end
section
def fX0_has (vC : KC) (p1 : Int32) : Option (Int32) := if p1 < (0 : Int32) then (some (0 : Int32)) else (if vC.1 ≤ p1 then (some (0 : Int32)) else (some (1 : Int32)))
set_option maxHeartbeats 4000000 in
set_option maxRecDepth 100000 in
theorem cX0_has_ok (l : Launch) (D : va_G) (ty : kTy) (adC : Nat → Nat) (sz : Nat) (vC : KC) (p1 : Int32) (res : Int32) (h : fX0_has vC p1 = some res) : kMI l yX0_has wsX0_has { frames := 0, cells := 0, slots := 0, locals := 0 } [.ref (adC 0), .int p1] D ty (wC ty adC vC) sz res (wC ty adC vC) := by
  refine Met.ofW (cc := cX0_has) (maxL := 2) (ret := (some .boolean)) (by decide) rfl ?_
  intro p e s m args below meth c s₁ B hml hv
  obtain ⟨rfl, hsz, hP, hK, hD0⟩ := hv
  have hx := B.exec
  have hb := B.bytes
  have hr := B.returns
  have hts := atoms_spec (ws := wsX0_has) B.pre
  have hown : s.vm.findClass RX0 = some m.cls := findClass_of_methodNamed B.named
  have hlocks := B.notSynchronized
  subst hsz
  have hD := hD0.self (sz := s.heap.size)
  generalize hAe : va_A (wC ty adC vC) s.heap.size = A at hD ⊢
  have hA : ∀ q : Nat, s.heap.size ≤ q → A q := fun q h => by rw [← hAe]; exact Or.inr h
  have hS : va_S A s.heap s.heap [] := va_S.rf
  refine kGenW (fun Q hQ => ?_)
  have wf0 := hts (.fieldLink RX0 9 "IceCoreDater$Core" "size" "I") (by decide +kernel)
  have hinX0 : ∀ w ∈ wsX00, w ∈ wsX0_has := by decide +kernel
  have hl := lv_entry ([.ref (adC 0), .int p1]) (n := 2) (Nat.le_of_ble_eq_true rfl)
  rw [lg_entry_eq]
  generalize (lg_sl ([.ref (adC 0), .int p1]) ++ List.replicate (2 - (lg_sl ([.ref (adC 0), .int p1])).length) Slot.unset).toArray = ls at hl ⊢
  have hl : lv_has ls 2 [(0, .ref (adC 0)), (1, .int p1)] := hl
  unfold fX0_has at h
  have E0 : ∀ (H : Heap) (locs : List Loc) (ls : Array Slot), va_P D vwCl (wC ty adC vC) H → va_D A (wC ty adC vC) → va_S A s.heap H locs → lv_has ls 2 [(0, .ref (adC 0)), (1, .int p1)] → W p l e (headSpec wsX0_has { frames := 0, cells := 0, slots := 0, locals := 0 }).room s m ([.ref (adC 0), .int p1] : List Value).toArray below meth c H locs 0 0 Q (F0 m 0 ls []) := by
    intro H locs ls hP hD hS hl
    refine lv_iload_n hx hb dX0_has_0 rfl (lv_at hl 1 rfl) ?_
    refine lv_if_lt (tgt := 16) hx hb dX0_has_1 (by decide) (fun c1 => ?_) (fun c1 => ?_)
    · have h := kT h c1
      refine lv_iconst (v := 0) hx hb dX0_has_16 (by decide) ?_
      obtain rfl := Option.some.inj h
      subst hQ
      exact W.zret (ty := .boolean) (v := (0 : Int32)) hx hb hr rfl (fun t ht hW => ⟨⟨(0 : Int32), (), rfl, rfl, kEnd ht hP⟩, hS.F ht⟩) hS.2.2 dX0_has_17
    · have h := kF h c1
      refine lv_iload_n hx hb dX0_has_4 rfl (lv_at hl 1 rfl) ?_
      refine lv_aload_n hx hb dX0_has_5 rfl (lv_at hl 0 rfl) ?_
      refine va_get (D := D) (ci := 0) (v := .int vC.1) (C := RX0) (T := TX0) (N := 12) hx hb hts hinX0 hown hK.1 hP 0 rfl rfl 0 (by decide) wf0 (fun _ h9 => h9) rfl dX0_has_6 ?_
      refine lv_icmp_ge (tgt := 16) hx hb dX0_has_9 (by decide) (fun c9 => ?_) (fun c9 => ?_)
      · have h := kT h c9
        refine lv_iconst (v := 0) hx hb dX0_has_16 (by decide) ?_
        obtain rfl := Option.some.inj h
        subst hQ
        exact W.zret (ty := .boolean) (v := (0 : Int32)) hx hb hr rfl (fun t ht hW => ⟨⟨(0 : Int32), (), rfl, rfl, kEnd ht hP⟩, hS.F ht⟩) hS.2.2 dX0_has_17
      · have h := kF h c9
        refine lv_iconst (v := 1) hx hb dX0_has_12 (by decide) ?_
        refine lv_goto (tgt := 17) hx hb dX0_has_13 (by decide) ?_
        obtain rfl := Option.some.inj h
        subst hQ
        exact W.zret (ty := .boolean) (v := (1 : Int32)) hx hb hr rfl (fun t ht hW => ⟨⟨(1 : Int32), (), rfl, rfl, kEnd ht hP⟩, hS.F ht⟩) hS.2.2 dX0_has_17
  exact E0 s.heap [] ls hP hD hS hl
def fX0_hasAsh (vC : KC) (p1 : Int32) : Option (Int32) := (fX0_has vC p1).bind fun r2 => if r2 = (0 : Int32) then (some (0 : Int32)) else (if kIn p1 16 = true then (if (vC.2.2.2.2.2.2.2.2.2.1 p1.toNatClampNeg) = (-1 : Int32) then (some (0 : Int32)) else (some (1 : Int32))) else none)
set_option maxHeartbeats 4000000 in
set_option maxRecDepth 100000 in
theorem cX0_hasAsh_ok (l : Launch) (D : va_G) (ty : kTy) (adC : Nat → Nat) (sz : Nat) (vC : KC) (p1 : Int32) (res : Int32) (h : fX0_hasAsh vC p1 = some res) : kMI l yX0_hasAsh wsX0_hasAsh { frames := 1, cells := 0, slots := 0, locals := 21 } [.ref (adC 0), .int p1] D ty (wC ty adC vC) sz res (wC ty adC vC) := by
  refine Met.ofW (cc := cX0_hasAsh) (maxL := 2) (ret := (some .boolean)) (by decide) rfl ?_
  intro p e s m args below meth c s₁ B hml hv
  obtain ⟨rfl, hsz, hP, hK, hD0⟩ := hv
  have hx := B.exec
  have hb := B.bytes
  have hr := B.returns
  have hts := atoms_spec (ws := wsX0_hasAsh) B.pre
  have hown : s.vm.findClass RX0 = some m.cls := findClass_of_methodNamed B.named
  have hlocks := B.notSynchronized
  subst hsz
  have hD := hD0.self (sz := s.heap.size)
  generalize hAe : va_A (wC ty adC vC) s.heap.size = A at hD ⊢
  have hA : ∀ q : Nat, s.heap.size ≤ q → A q := fun q h => by rw [← hAe]; exact Or.inr h
  have hS : va_S A s.heap s.heap [] := va_S.rf
  refine kGenW (fun Q hQ => ?_)
  have wf0 := hts (.fieldLink RX0 41 "IceCoreDater$Core" "ashAge" "[I") (by decide +kernel)
  have hinX0 : ∀ w ∈ wsX00, w ∈ wsX0_hasAsh := by decide +kernel
  have hl := lv_entry ([.ref (adC 0), .int p1]) (n := 2) (Nat.le_of_ble_eq_true rfl)
  rw [lg_entry_eq]
  generalize (lg_sl ([.ref (adC 0), .int p1]) ++ List.replicate (2 - (lg_sl ([.ref (adC 0), .int p1])).length) Slot.unset).toArray = ls at hl ⊢
  have hl : lv_has ls 2 [(0, .ref (adC 0)), (1, .int p1)] := hl
  unfold fX0_hasAsh at h
  have E0 : ∀ (H : Heap) (locs : List Loc) (ls : Array Slot), va_P D vwCl (wC ty adC vC) H → va_D A (wC ty adC vC) → va_S A s.heap H locs → lv_has ls 2 [(0, .ref (adC 0)), (1, .int p1)] → W p l e (headSpec wsX0_hasAsh { frames := 1, cells := 0, slots := 0, locals := 21 }).room s m ([.ref (adC 0), .int p1] : List Value).toArray below meth c H locs 0 0 Q (F0 m 0 ls []) := by
    intro H locs ls hP hD hS hl
    refine lv_aload_n hx hb dX0_hasAsh_0 rfl (lv_at hl 0 rfl) ?_
    refine lv_iload_n hx hb dX0_hasAsh_1 rfl (lv_at hl 1 rfl) ?_
    obtain ⟨r2, e2, h⟩ := kBd h
    refine kCallVI (As := [.int p1]) (rest := []) (wc := wC ty adC vC) (w1 := wC ty adC vC) (wn := wC ty adC vC) ⟨hx, hb, hml, hown, hts⟩ (cX0_has_ok l D ty adC H.size vC p1 r2 e2) (cwV 1 hts gX0_hasAsh_X0_has rfl rfl rfl (by decide +kernel) ⟨Nat.le_of_ble_eq_true rfl, Nat.le_of_ble_eq_true rfl⟩) hP hK hD hS hA [0, 1, 2, 3, 4, 5, 6, 7] (by decide) rfl 0 0 rfl rfl rfl rfl hl.1 rfl (Nat.le_of_ble_eq_true rfl) dX0_hasAsh_2 ⟨Nat.le_of_ble_eq_true rfl, Nat.le_of_ble_eq_true rfl⟩ rfl rfl (fun H locs hP hD hS => ?_)
    refine lv_if_eq (tgt := 22) hx hb dX0_hasAsh_5 (by decide) (fun c5 => ?_) (fun c5 => ?_)
    · have h := kT h c5
      refine lv_iconst (v := 0) hx hb dX0_hasAsh_22 (by decide) ?_
      obtain rfl := Option.some.inj h
      subst hQ
      exact W.zret (ty := .boolean) (v := (0 : Int32)) hx hb hr rfl (fun t ht hW => ⟨⟨(0 : Int32), (), rfl, rfl, kEnd ht hP⟩, hS.F ht⟩) hS.2.2 dX0_hasAsh_23
    · have h := kF h c5
      refine lv_aload_n hx hb dX0_hasAsh_8 rfl (lv_at hl 0 rfl) ?_
      refine va_get (D := D) (ci := 0) (v := .ref (adC 5)) (C := RX0) (T := TX0) (N := 12) hx hb hts hinX0 hown hK.1 hP 0 rfl rfl 9 (by decide) wf0 (fun _ h9 => h9) rfl dX0_hasAsh_9 ?_
      refine lv_iload_n hx hb dX0_hasAsh_12 rfl (lv_at hl 1 rfl) ?_
      obtain ⟨b13, h⟩ := kIf h
      refine va_iald (f := vC.2.2.2.2.2.2.2.2.2.1) (n := 16) hx hb hK.1 hP 5 0 rfl rfl (kIn_ok b13) dX0_hasAsh_13 ?_
      refine lv_iconst (v := (-1)) hx hb dX0_hasAsh_14 (by decide) ?_
      refine lv_icmp_eq (tgt := 22) hx hb dX0_hasAsh_15 (by decide) (fun c15 => ?_) (fun c15 => ?_)
      · have h := kT h c15
        refine lv_iconst (v := 0) hx hb dX0_hasAsh_22 (by decide) ?_
        obtain rfl := Option.some.inj h
        subst hQ
        exact W.zret (ty := .boolean) (v := (0 : Int32)) hx hb hr rfl (fun t ht hW => ⟨⟨(0 : Int32), (), rfl, rfl, kEnd ht hP⟩, hS.F ht⟩) hS.2.2 dX0_hasAsh_23
      · have h := kF h c15
        refine lv_iconst (v := 1) hx hb dX0_hasAsh_18 (by decide) ?_
        refine lv_goto (tgt := 23) hx hb dX0_hasAsh_19 (by decide) ?_
        obtain rfl := Option.some.inj h
        subst hQ
        exact W.zret (ty := .boolean) (v := (1 : Int32)) hx hb hr rfl (fun t ht hW => ⟨⟨(1 : Int32), (), rfl, rfl, kEnd ht hP⟩, hS.F ht⟩) hS.2.2 dX0_hasAsh_23
  exact E0 s.heap [] ls hP hD hS hl
def fX0_hasCount (vC : KC) (p1 : Int32) : Option (Int32) := (fX0_has vC p1).bind fun r2 => if r2 = (0 : Int32) then (some (0 : Int32)) else (if kIn p1 16 = true then (if (vC.2.2.2.2.2.2.2.2.2.2.2 p1.toNatClampNeg) = (0 : Int32) then (some (0 : Int32)) else (some (1 : Int32))) else none)
set_option maxHeartbeats 4000000 in
set_option maxRecDepth 100000 in
theorem cX0_hasCount_ok (l : Launch) (D : va_G) (ty : kTy) (adC : Nat → Nat) (sz : Nat) (vC : KC) (p1 : Int32) (res : Int32) (h : fX0_hasCount vC p1 = some res) : kMI l yX0_hasCount wsX0_hasCount { frames := 1, cells := 0, slots := 0, locals := 21 } [.ref (adC 0), .int p1] D ty (wC ty adC vC) sz res (wC ty adC vC) := by
  refine Met.ofW (cc := cX0_hasCount) (maxL := 2) (ret := (some .boolean)) (by decide) rfl ?_
  intro p e s m args below meth c s₁ B hml hv
  obtain ⟨rfl, hsz, hP, hK, hD0⟩ := hv
  have hx := B.exec
  have hb := B.bytes
  have hr := B.returns
  have hts := atoms_spec (ws := wsX0_hasCount) B.pre
  have hown : s.vm.findClass RX0 = some m.cls := findClass_of_methodNamed B.named
  have hlocks := B.notSynchronized
  subst hsz
  have hD := hD0.self (sz := s.heap.size)
  generalize hAe : va_A (wC ty adC vC) s.heap.size = A at hD ⊢
  have hA : ∀ q : Nat, s.heap.size ≤ q → A q := fun q h => by rw [← hAe]; exact Or.inr h
  have hS : va_S A s.heap s.heap [] := va_S.rf
  refine kGenW (fun Q hQ => ?_)
  have wf0 := hts (.fieldLink RX0 47 "IceCoreDater$Core" "count" "[I") (by decide +kernel)
  have hinX0 : ∀ w ∈ wsX00, w ∈ wsX0_hasCount := by decide +kernel
  have hl := lv_entry ([.ref (adC 0), .int p1]) (n := 2) (Nat.le_of_ble_eq_true rfl)
  rw [lg_entry_eq]
  generalize (lg_sl ([.ref (adC 0), .int p1]) ++ List.replicate (2 - (lg_sl ([.ref (adC 0), .int p1])).length) Slot.unset).toArray = ls at hl ⊢
  have hl : lv_has ls 2 [(0, .ref (adC 0)), (1, .int p1)] := hl
  unfold fX0_hasCount at h
  have E0 : ∀ (H : Heap) (locs : List Loc) (ls : Array Slot), va_P D vwCl (wC ty adC vC) H → va_D A (wC ty adC vC) → va_S A s.heap H locs → lv_has ls 2 [(0, .ref (adC 0)), (1, .int p1)] → W p l e (headSpec wsX0_hasCount { frames := 1, cells := 0, slots := 0, locals := 21 }).room s m ([.ref (adC 0), .int p1] : List Value).toArray below meth c H locs 0 0 Q (F0 m 0 ls []) := by
    intro H locs ls hP hD hS hl
    refine lv_aload_n hx hb dX0_hasCount_0 rfl (lv_at hl 0 rfl) ?_
    refine lv_iload_n hx hb dX0_hasCount_1 rfl (lv_at hl 1 rfl) ?_
    obtain ⟨r2, e2, h⟩ := kBd h
    refine kCallVI (As := [.int p1]) (rest := []) (wc := wC ty adC vC) (w1 := wC ty adC vC) (wn := wC ty adC vC) ⟨hx, hb, hml, hown, hts⟩ (cX0_has_ok l D ty adC H.size vC p1 r2 e2) (cwV 1 hts gX0_hasCount_X0_has rfl rfl rfl (by decide +kernel) ⟨Nat.le_of_ble_eq_true rfl, Nat.le_of_ble_eq_true rfl⟩) hP hK hD hS hA [0, 1, 2, 3, 4, 5, 6, 7] (by decide) rfl 0 0 rfl rfl rfl rfl hl.1 rfl (Nat.le_of_ble_eq_true rfl) dX0_hasCount_2 ⟨Nat.le_of_ble_eq_true rfl, Nat.le_of_ble_eq_true rfl⟩ rfl rfl (fun H locs hP hD hS => ?_)
    refine lv_if_eq (tgt := 21) hx hb dX0_hasCount_5 (by decide) (fun c5 => ?_) (fun c5 => ?_)
    · have h := kT h c5
      refine lv_iconst (v := 0) hx hb dX0_hasCount_21 (by decide) ?_
      obtain rfl := Option.some.inj h
      subst hQ
      exact W.zret (ty := .boolean) (v := (0 : Int32)) hx hb hr rfl (fun t ht hW => ⟨⟨(0 : Int32), (), rfl, rfl, kEnd ht hP⟩, hS.F ht⟩) hS.2.2 dX0_hasCount_22
    · have h := kF h c5
      refine lv_aload_n hx hb dX0_hasCount_8 rfl (lv_at hl 0 rfl) ?_
      refine va_get (D := D) (ci := 0) (v := .ref (adC 7)) (C := RX0) (T := TX0) (N := 12) hx hb hts hinX0 hown hK.1 hP 0 rfl rfl 11 (by decide) wf0 (fun _ h9 => h9) rfl dX0_hasCount_9 ?_
      refine lv_iload_n hx hb dX0_hasCount_12 rfl (lv_at hl 1 rfl) ?_
      obtain ⟨b13, h⟩ := kIf h
      refine va_iald (f := vC.2.2.2.2.2.2.2.2.2.2.2) (n := 16) hx hb hK.1 hP 7 0 rfl rfl (kIn_ok b13) dX0_hasCount_13 ?_
      refine lv_if_eq (tgt := 21) hx hb dX0_hasCount_14 (by decide) (fun c14 => ?_) (fun c14 => ?_)
      · have h := kT h c14
        refine lv_iconst (v := 0) hx hb dX0_hasCount_21 (by decide) ?_
        obtain rfl := Option.some.inj h
        subst hQ
        exact W.zret (ty := .boolean) (v := (0 : Int32)) hx hb hr rfl (fun t ht hW => ⟨⟨(0 : Int32), (), rfl, rfl, kEnd ht hP⟩, hS.F ht⟩) hS.2.2 dX0_hasCount_22
      · have h := kF h c14
        refine lv_iconst (v := 1) hx hb dX0_hasCount_17 (by decide) ?_
        refine lv_goto (tgt := 22) hx hb dX0_hasCount_18 (by decide) ?_
        obtain rfl := Option.some.inj h
        subst hQ
        exact W.zret (ty := .boolean) (v := (1 : Int32)) hx hb hr rfl (fun t ht hW => ⟨⟨(1 : Int32), (), rfl, rfl, kEnd ht hP⟩, hS.F ht⟩) hS.2.2 dX0_hasCount_22
  exact E0 s.heap [] ls hP hD hS hl
def fX0_ashBeds_c4 (vC : KC) (x1 : Int32) (x2 : Int32) (nx4 : Int32 × Int32 → Option (Int32)) : Option (Int32) := if vC.1 ≤ x2 then some x1 else ((fX0_hasAsh vC x2).bind fun r14 => if r14 = (0 : Int32) then (nx4 (x1, (x2 + 1))) else (nx4 ((x1 + 1), (x2 + 1))))
def fX0_ashBeds (vC : KC) : Option (Int32) := kLoopC kFu (fun q nx4 => fX0_ashBeds_c4 vC q.1 q.2 nx4) ((0 : Int32), (0 : Int32))
set_option maxHeartbeats 4000000 in
set_option maxRecDepth 100000 in
theorem cX0_ashBeds_ok (l : Launch) (D : va_G) (ty : kTy) (adC : Nat → Nat) (sz : Nat) (vC : KC) (res : Int32) (h : fX0_ashBeds vC = some res) : kMI l yX0_ashBeds wsX0_ashBeds { frames := 2, cells := 0, slots := 0, locals := 42 } [.ref (adC 0)] D ty (wC ty adC vC) sz res (wC ty adC vC) := by
  refine Met.ofW (cc := cX0_ashBeds) (maxL := 3) (ret := (some .int)) (by decide) rfl ?_
  intro p e s m args below meth c s₁ B hml hv
  obtain ⟨rfl, hsz, hP, hK, hD0⟩ := hv
  have hx := B.exec
  have hb := B.bytes
  have hr := B.returns
  have hts := atoms_spec (ws := wsX0_ashBeds) B.pre
  have hown : s.vm.findClass RX0 = some m.cls := findClass_of_methodNamed B.named
  have hlocks := B.notSynchronized
  subst hsz
  have hD := hD0.self (sz := s.heap.size)
  generalize hAe : va_A (wC ty adC vC) s.heap.size = A at hD ⊢
  have hA : ∀ q : Nat, s.heap.size ≤ q → A q := fun q h => by rw [← hAe]; exact Or.inr h
  have hS : va_S A s.heap s.heap [] := va_S.rf
  refine kGenW (fun Q hQ => ?_)
  have wf0 := hts (.fieldLink RX0 9 "IceCoreDater$Core" "size" "I") (by decide +kernel)
  have hinX0 : ∀ w ∈ wsX00, w ∈ wsX0_ashBeds := by decide +kernel
  have B4 : ∀ (nx4 : Int32 × Int32 → Option (Int32)) (hn4 : ∀ (x1 : Int32) (x2 : Int32), nx4 (x1, x2) = some res → ∀ (H : Heap) (locs : List Loc) (ls : Array Slot), va_P D vwCl (wC ty adC vC) H → va_D A (wC ty adC vC) → va_S A s.heap H locs → lv_has ls 3 [(0, .ref (adC 0)), (1, .int x1), (2, .int x2)] → W p l e (headSpec wsX0_ashBeds { frames := 2, cells := 0, slots := 0, locals := 42 }).room s m ([.ref (adC 0)] : List Value).toArray below meth c H locs 0 0 Q (F0 m 4 ls [])) (x1 : Int32) (x2 : Int32), fX0_ashBeds_c4 vC x1 x2 nx4 = some res → ∀ (H : Heap) (locs : List Loc) (ls : Array Slot), va_P D vwCl (wC ty adC vC) H → va_D A (wC ty adC vC) → va_S A s.heap H locs → lv_has ls 3 [(0, .ref (adC 0)), (1, .int x1), (2, .int x2)] → W p l e (headSpec wsX0_ashBeds { frames := 2, cells := 0, slots := 0, locals := 42 }).room s m ([.ref (adC 0)] : List Value).toArray below meth c H locs 0 0 Q (F0 m 4 ls []) := by
    intro  nx4 hn4 x1 x2 h H locs ls hP hD hS hl
    unfold fX0_ashBeds_c4 at h
    refine lv_iload_n hx hb dX0_ashBeds_4 rfl (lv_at hl 2 rfl) ?_
    refine lv_aload_n hx hb dX0_ashBeds_5 rfl (lv_at hl 0 rfl) ?_
    refine va_get (D := D) (ci := 0) (v := .int vC.1) (C := RX0) (T := TX0) (N := 12) hx hb hts hinX0 hown hK.1 hP 0 rfl rfl 0 (by decide) wf0 (fun _ h9 => h9) rfl dX0_ashBeds_6 ?_
    refine lv_icmp_ge (tgt := 29) hx hb dX0_ashBeds_9 (by decide) (fun c9 => ?_) (fun c9 => ?_)
    · have h := kT h c9
      refine lv_iload_n hx hb dX0_ashBeds_29 rfl (lv_at hl 1 rfl) ?_
      obtain rfl := Option.some.inj h
      subst hQ
      exact W.iret (v := x1) hx hb hr (fun t ht hW => ⟨⟨x1, (), rfl, rfl, kEnd ht hP⟩, hS.F ht⟩) hS.2.2 dX0_ashBeds_30
    · have h := kF h c9
      refine lv_aload_n hx hb dX0_ashBeds_12 rfl (lv_at hl 0 rfl) ?_
      refine lv_iload_n hx hb dX0_ashBeds_13 rfl (lv_at hl 2 rfl) ?_
      obtain ⟨r14, e14, h⟩ := kBd h
      refine kCallVI (As := [.int x2]) (rest := []) (wc := wC ty adC vC) (w1 := wC ty adC vC) (wn := wC ty adC vC) ⟨hx, hb, hml, hown, hts⟩ (cX0_hasAsh_ok l D ty adC H.size vC x2 r14 e14) (cwV 1 hts gX0_ashBeds_X0_hasAsh rfl rfl rfl (by decide +kernel) ⟨Nat.le_of_ble_eq_true rfl, Nat.le_of_ble_eq_true rfl⟩) hP hK hD hS hA [0, 1, 2, 3, 4, 5, 6, 7] (by decide) rfl 0 0 rfl rfl rfl rfl hl.1 rfl (Nat.le_of_ble_eq_true rfl) dX0_ashBeds_14 ⟨Nat.le_of_ble_eq_true rfl, Nat.le_of_ble_eq_true rfl⟩ rfl rfl (fun H locs hP hD hS => ?_)
      refine lv_if_eq (tgt := 23) hx hb dX0_ashBeds_17 (by decide) (fun c17 => ?_) (fun c17 => ?_)
      · have h := kT h c17
        refine lv_iinc (v := (x2 + 1)) (lv' := [(2, .int (x2 + 1)), (0, .ref (adC 0)), (1, .int x1)]) hx hb dX0_ashBeds_23 hl (k := 2) rfl rfl (by decide) rfl (fun ls hl => ?_)
        refine lv_goto (tgt := 4) hx hb dX0_ashBeds_26 (by decide) ?_
        exact hn4 x1 (x2 + 1) h H locs ls hP hD hS (lv_sub hl [1, 2, 0] rfl)
      · have h := kF h c17
        refine lv_iinc (v := (x1 + 1)) (lv' := [(1, .int (x1 + 1)), (0, .ref (adC 0)), (2, .int x2)]) hx hb dX0_ashBeds_20 hl (k := 1) rfl rfl (by decide) rfl (fun ls hl => ?_)
        refine lv_iinc (v := (x2 + 1)) (lv' := [(2, .int (x2 + 1)), (1, .int (x1 + 1)), (0, .ref (adC 0))]) hx hb dX0_ashBeds_23 hl (k := 2) rfl rfl (by decide) rfl (fun ls hl => ?_)
        refine lv_goto (tgt := 4) hx hb dX0_ashBeds_26 (by decide) ?_
        exact hn4 (x1 + 1) (x2 + 1) h H locs ls hP hD hS (lv_sub hl [2, 1, 0] rfl)
  have L4 : ∀  (n : Nat) (x1 : Int32) (x2 : Int32), kLoopC n (fun q nx4 => fX0_ashBeds_c4 vC q.1 q.2 nx4) (x1, x2) = some res → ∀ (H : Heap) (locs : List Loc) (ls : Array Slot), va_P D vwCl (wC ty adC vC) H → va_D A (wC ty adC vC) → va_S A s.heap H locs → lv_has ls 3 [(0, .ref (adC 0)), (1, .int x1), (2, .int x2)] → W p l e (headSpec wsX0_ashBeds { frames := 2, cells := 0, slots := 0, locals := 42 }).room s m ([.ref (adC 0)] : List Value).toArray below meth c H locs 0 0 Q (F0 m 4 ls []) := by
    intro  n
    induction n with
    | zero => intro x1 x2 h; exact absurd h (by simp [kLoopC])
    | succ n ih => intro x1 x2 h; exact B4  (kLoopC n (fun q nx4 => fX0_ashBeds_c4 vC q.1 q.2 nx4)) ih x1 x2 h
  have hl := lv_entry ([.ref (adC 0)]) (n := 3) (Nat.le_of_ble_eq_true rfl)
  rw [lg_entry_eq]
  generalize (lg_sl ([.ref (adC 0)]) ++ List.replicate (3 - (lg_sl ([.ref (adC 0)])).length) Slot.unset).toArray = ls at hl ⊢
  have hl : lv_has ls 3 [(0, .ref (adC 0))] := hl
  unfold fX0_ashBeds at h
  have E0 : ∀ (H : Heap) (locs : List Loc) (ls : Array Slot), va_P D vwCl (wC ty adC vC) H → va_D A (wC ty adC vC) → va_S A s.heap H locs → lv_has ls 3 [(0, .ref (adC 0))] → W p l e (headSpec wsX0_ashBeds { frames := 2, cells := 0, slots := 0, locals := 42 }).room s m ([.ref (adC 0)] : List Value).toArray below meth c H locs 0 0 Q (F0 m 0 ls []) := by
    intro H locs ls hP hD hS hl
    refine lv_iconst (v := 0) hx hb dX0_ashBeds_0 (by decide) ?_
    refine lv_istore_n (lv' := [(1, .int (0 : Int32)), (0, .ref (adC 0))]) hx hb dX0_ashBeds_1 rfl hl (by decide) rfl (fun ls hl => ?_)
    refine lv_iconst (v := 0) hx hb dX0_ashBeds_2 (by decide) ?_
    refine lv_istore_n (lv' := [(2, .int (0 : Int32)), (1, .int (0 : Int32)), (0, .ref (adC 0))]) hx hb dX0_ashBeds_3 rfl hl (by decide) rfl (fun ls hl => ?_)
    exact L4   kFu (0 : Int32) (0 : Int32) h H locs ls hP hD hS (lv_sub hl [2, 1, 0] rfl)
  exact E0 s.heap [] ls hP hD hS hl
def fX0_topOf_c4 (vC : KC) (x1 : Int32) (x2 : Int32) (x3 : Int32) (nx4 : Int32 × Int32 → Option (Int32)) : Option (Int32) := if x1 ≤ x3 then some x2 else (if vC.1 ≤ x3 then some x2 else (if kIn x3 16 = true then (nx4 ((x2 + (vC.2.2.2.2.2.1 x3.toNatClampNeg)), (x3 + 1))) else none))
def fX0_topOf (vC : KC) (p1 : Int32) : Option (Int32) := kLoopC kFu (fun q nx4 => fX0_topOf_c4 vC p1 q.1 q.2 nx4) ((0 : Int32), (0 : Int32))
set_option maxHeartbeats 4000000 in
set_option maxRecDepth 100000 in
theorem cX0_topOf_ok (l : Launch) (D : va_G) (ty : kTy) (adC : Nat → Nat) (sz : Nat) (vC : KC) (p1 : Int32) (res : Int32) (h : fX0_topOf vC p1 = some res) : kMI l yX0_topOf wsX0_topOf { frames := 0, cells := 0, slots := 0, locals := 0 } [.ref (adC 0), .int p1] D ty (wC ty adC vC) sz res (wC ty adC vC) := by
  refine Met.ofW (cc := cX0_topOf) (maxL := 4) (ret := (some .int)) (by decide) rfl ?_
  intro p e s m args below meth c s₁ B hml hv
  obtain ⟨rfl, hsz, hP, hK, hD0⟩ := hv
  have hx := B.exec
  have hb := B.bytes
  have hr := B.returns
  have hts := atoms_spec (ws := wsX0_topOf) B.pre
  have hown : s.vm.findClass RX0 = some m.cls := findClass_of_methodNamed B.named
  have hlocks := B.notSynchronized
  subst hsz
  have hD := hD0.self (sz := s.heap.size)
  generalize hAe : va_A (wC ty adC vC) s.heap.size = A at hD ⊢
  have hA : ∀ q : Nat, s.heap.size ≤ q → A q := fun q h => by rw [← hAe]; exact Or.inr h
  have hS : va_S A s.heap s.heap [] := va_S.rf
  refine kGenW (fun Q hQ => ?_)
  have wf0 := hts (.fieldLink RX0 9 "IceCoreDater$Core" "size" "I") (by decide +kernel)
  have hinX0 : ∀ w ∈ wsX00, w ∈ wsX0_topOf := by decide +kernel
  have wf2 := hts (.fieldLink RX0 28 "IceCoreDater$Core" "thickness" "[I") (by decide +kernel)
  have B4 : ∀ (x1 : Int32) (nx4 : Int32 × Int32 → Option (Int32)) (hn4 : ∀ (x2 : Int32) (x3 : Int32), nx4 (x2, x3) = some res → ∀ (H : Heap) (locs : List Loc) (ls : Array Slot), va_P D vwCl (wC ty adC vC) H → va_D A (wC ty adC vC) → va_S A s.heap H locs → lv_has ls 4 [(0, .ref (adC 0)), (1, .int x1), (2, .int x2), (3, .int x3)] → W p l e (headSpec wsX0_topOf { frames := 0, cells := 0, slots := 0, locals := 0 }).room s m ([.ref (adC 0), .int p1] : List Value).toArray below meth c H locs 0 0 Q (F0 m 4 ls [])) (x2 : Int32) (x3 : Int32), fX0_topOf_c4 vC x1 x2 x3 nx4 = some res → ∀ (H : Heap) (locs : List Loc) (ls : Array Slot), va_P D vwCl (wC ty adC vC) H → va_D A (wC ty adC vC) → va_S A s.heap H locs → lv_has ls 4 [(0, .ref (adC 0)), (1, .int x1), (2, .int x2), (3, .int x3)] → W p l e (headSpec wsX0_topOf { frames := 0, cells := 0, slots := 0, locals := 0 }).room s m ([.ref (adC 0), .int p1] : List Value).toArray below meth c H locs 0 0 Q (F0 m 4 ls []) := by
    intro x1 nx4 hn4 x2 x3 h H locs ls hP hD hS hl
    unfold fX0_topOf_c4 at h
    refine lv_iload_n hx hb dX0_topOf_4 rfl (lv_at hl 3 rfl) ?_
    refine lv_iload_n hx hb dX0_topOf_5 rfl (lv_at hl 1 rfl) ?_
    refine lv_icmp_ge (tgt := 32) hx hb dX0_topOf_6 (by decide) (fun c6 => ?_) (fun c6 => ?_)
    · have h := kT h c6
      refine lv_iload_n hx hb dX0_topOf_32 rfl (lv_at hl 2 rfl) ?_
      obtain rfl := Option.some.inj h
      subst hQ
      exact W.iret (v := x2) hx hb hr (fun t ht hW => ⟨⟨x2, (), rfl, rfl, kEnd ht hP⟩, hS.F ht⟩) hS.2.2 dX0_topOf_33
    · have h := kF h c6
      refine lv_iload_n hx hb dX0_topOf_9 rfl (lv_at hl 3 rfl) ?_
      refine lv_aload_n hx hb dX0_topOf_10 rfl (lv_at hl 0 rfl) ?_
      refine va_get (D := D) (ci := 0) (v := .int vC.1) (C := RX0) (T := TX0) (N := 12) hx hb hts hinX0 hown hK.1 hP 0 rfl rfl 0 (by decide) wf0 (fun _ h9 => h9) rfl dX0_topOf_11 ?_
      refine lv_icmp_ge (tgt := 32) hx hb dX0_topOf_14 (by decide) (fun c14 => ?_) (fun c14 => ?_)
      · have h := kT h c14
        refine lv_iload_n hx hb dX0_topOf_32 rfl (lv_at hl 2 rfl) ?_
        obtain rfl := Option.some.inj h
        subst hQ
        exact W.iret (v := x2) hx hb hr (fun t ht hW => ⟨⟨x2, (), rfl, rfl, kEnd ht hP⟩, hS.F ht⟩) hS.2.2 dX0_topOf_33
      · have h := kF h c14
        refine lv_iload_n hx hb dX0_topOf_17 rfl (lv_at hl 2 rfl) ?_
        refine lv_aload_n hx hb dX0_topOf_18 rfl (lv_at hl 0 rfl) ?_
        refine va_get (D := D) (ci := 0) (v := .ref (adC 1)) (C := RX0) (T := TX0) (N := 12) hx hb hts hinX0 hown hK.1 hP 0 rfl rfl 5 (by decide) wf2 (fun _ h9 => h9) rfl dX0_topOf_19 ?_
        refine lv_iload_n hx hb dX0_topOf_22 rfl (lv_at hl 3 rfl) ?_
        obtain ⟨b23, h⟩ := kIf h
        refine va_iald (f := vC.2.2.2.2.2.1) (n := 16) hx hb hK.1 hP 1 0 rfl rfl (kIn_ok b23) dX0_topOf_23 ?_
        refine lv_iadd hx hb dX0_topOf_24 ?_
        refine lv_istore_n (lv' := [(2, .int (x2 + (vC.2.2.2.2.2.1 x3.toNatClampNeg))), (0, .ref (adC 0)), (1, .int x1), (3, .int x3)]) hx hb dX0_topOf_25 rfl hl (by decide) rfl (fun ls hl => ?_)
        refine lv_iinc (v := (x3 + 1)) (lv' := [(3, .int (x3 + 1)), (2, .int (x2 + (vC.2.2.2.2.2.1 x3.toNatClampNeg))), (0, .ref (adC 0)), (1, .int x1)]) hx hb dX0_topOf_26 hl (k := 3) rfl rfl (by decide) rfl (fun ls hl => ?_)
        refine lv_goto (tgt := 4) hx hb dX0_topOf_29 (by decide) ?_
        exact hn4 (x2 + (vC.2.2.2.2.2.1 x3.toNatClampNeg)) (x3 + 1) h H locs ls hP hD hS (lv_sub hl [2, 3, 1, 0] rfl)
  have L4 : ∀ (x1 : Int32) (n : Nat) (x2 : Int32) (x3 : Int32), kLoopC n (fun q nx4 => fX0_topOf_c4 vC x1 q.1 q.2 nx4) (x2, x3) = some res → ∀ (H : Heap) (locs : List Loc) (ls : Array Slot), va_P D vwCl (wC ty adC vC) H → va_D A (wC ty adC vC) → va_S A s.heap H locs → lv_has ls 4 [(0, .ref (adC 0)), (1, .int x1), (2, .int x2), (3, .int x3)] → W p l e (headSpec wsX0_topOf { frames := 0, cells := 0, slots := 0, locals := 0 }).room s m ([.ref (adC 0), .int p1] : List Value).toArray below meth c H locs 0 0 Q (F0 m 4 ls []) := by
    intro x1 n
    induction n with
    | zero => intro x2 x3 h; exact absurd h (by simp [kLoopC])
    | succ n ih => intro x2 x3 h; exact B4 x1 (kLoopC n (fun q nx4 => fX0_topOf_c4 vC x1 q.1 q.2 nx4)) ih x2 x3 h
  have hl := lv_entry ([.ref (adC 0), .int p1]) (n := 4) (Nat.le_of_ble_eq_true rfl)
  rw [lg_entry_eq]
  generalize (lg_sl ([.ref (adC 0), .int p1]) ++ List.replicate (4 - (lg_sl ([.ref (adC 0), .int p1])).length) Slot.unset).toArray = ls at hl ⊢
  have hl : lv_has ls 4 [(0, .ref (adC 0)), (1, .int p1)] := hl
  unfold fX0_topOf at h
  have E0 : ∀ (H : Heap) (locs : List Loc) (ls : Array Slot), va_P D vwCl (wC ty adC vC) H → va_D A (wC ty adC vC) → va_S A s.heap H locs → lv_has ls 4 [(0, .ref (adC 0)), (1, .int p1)] → W p l e (headSpec wsX0_topOf { frames := 0, cells := 0, slots := 0, locals := 0 }).room s m ([.ref (adC 0), .int p1] : List Value).toArray below meth c H locs 0 0 Q (F0 m 0 ls []) := by
    intro H locs ls hP hD hS hl
    refine lv_iconst (v := 0) hx hb dX0_topOf_0 (by decide) ?_
    refine lv_istore_n (lv' := [(2, .int (0 : Int32)), (0, .ref (adC 0)), (1, .int p1)]) hx hb dX0_topOf_1 rfl hl (by decide) rfl (fun ls hl => ?_)
    refine lv_iconst (v := 0) hx hb dX0_topOf_2 (by decide) ?_
    refine lv_istore_n (lv' := [(3, .int (0 : Int32)), (2, .int (0 : Int32)), (0, .ref (adC 0)), (1, .int p1)]) hx hb dX0_topOf_3 rfl hl (by decide) rfl (fun ls hl => ?_)
    exact L4 p1  kFu (0 : Int32) (0 : Int32) h H locs ls hP hD hS (lv_sub hl [2, 3, 1, 0] rfl)
  exact E0 s.heap [] ls hP hD hS hl
def fX0_bottom (vC : KC) : Option (Int32) := (fX0_topOf vC vC.1).bind fun r5 => some r5
set_option maxHeartbeats 4000000 in
set_option maxRecDepth 100000 in
theorem cX0_bottom_ok (l : Launch) (D : va_G) (ty : kTy) (adC : Nat → Nat) (sz : Nat) (vC : KC) (res : Int32) (h : fX0_bottom vC = some res) : kMI l yX0_bottom wsX0_bottom { frames := 1, cells := 0, slots := 0, locals := 23 } [.ref (adC 0)] D ty (wC ty adC vC) sz res (wC ty adC vC) := by
  refine Met.ofW (cc := cX0_bottom) (maxL := 1) (ret := (some .int)) (by decide) rfl ?_
  intro p e s m args below meth c s₁ B hml hv
  obtain ⟨rfl, hsz, hP, hK, hD0⟩ := hv
  have hx := B.exec
  have hb := B.bytes
  have hr := B.returns
  have hts := atoms_spec (ws := wsX0_bottom) B.pre
  have hown : s.vm.findClass RX0 = some m.cls := findClass_of_methodNamed B.named
  have hlocks := B.notSynchronized
  subst hsz
  have hD := hD0.self (sz := s.heap.size)
  generalize hAe : va_A (wC ty adC vC) s.heap.size = A at hD ⊢
  have hA : ∀ q : Nat, s.heap.size ≤ q → A q := fun q h => by rw [← hAe]; exact Or.inr h
  have hS : va_S A s.heap s.heap [] := va_S.rf
  refine kGenW (fun Q hQ => ?_)
  have wf0 := hts (.fieldLink RX0 9 "IceCoreDater$Core" "size" "I") (by decide +kernel)
  have hinX0 : ∀ w ∈ wsX00, w ∈ wsX0_bottom := by decide +kernel
  have hl := lv_entry ([.ref (adC 0)]) (n := 1) (Nat.le_of_ble_eq_true rfl)
  rw [lg_entry_eq]
  generalize (lg_sl ([.ref (adC 0)]) ++ List.replicate (1 - (lg_sl ([.ref (adC 0)])).length) Slot.unset).toArray = ls at hl ⊢
  have hl : lv_has ls 1 [(0, .ref (adC 0))] := hl
  unfold fX0_bottom at h
  have E0 : ∀ (H : Heap) (locs : List Loc) (ls : Array Slot), va_P D vwCl (wC ty adC vC) H → va_D A (wC ty adC vC) → va_S A s.heap H locs → lv_has ls 1 [(0, .ref (adC 0))] → W p l e (headSpec wsX0_bottom { frames := 1, cells := 0, slots := 0, locals := 23 }).room s m ([.ref (adC 0)] : List Value).toArray below meth c H locs 0 0 Q (F0 m 0 ls []) := by
    intro H locs ls hP hD hS hl
    refine lv_aload_n hx hb dX0_bottom_0 rfl (lv_at hl 0 rfl) ?_
    refine lv_aload_n hx hb dX0_bottom_1 rfl (lv_at hl 0 rfl) ?_
    refine va_get (D := D) (ci := 0) (v := .int vC.1) (C := RX0) (T := TX0) (N := 12) hx hb hts hinX0 hown hK.1 hP 0 rfl rfl 0 (by decide) wf0 (fun _ h9 => h9) rfl dX0_bottom_2 ?_
    obtain ⟨r5, e5, h⟩ := kBd h
    refine kCallVI (As := [.int vC.1]) (rest := []) (wc := wC ty adC vC) (w1 := wC ty adC vC) (wn := wC ty adC vC) ⟨hx, hb, hml, hown, hts⟩ (cX0_topOf_ok l D ty adC H.size vC vC.1 r5 e5) (cwV 1 hts gX0_bottom_X0_topOf rfl rfl rfl (by decide +kernel) ⟨Nat.le_of_ble_eq_true rfl, Nat.le_of_ble_eq_true rfl⟩) hP hK hD hS hA [0, 1, 2, 3, 4, 5, 6, 7] (by decide) rfl 0 0 rfl rfl rfl rfl hl.1 rfl (Nat.le_of_ble_eq_true rfl) dX0_bottom_5 ⟨Nat.le_of_ble_eq_true rfl, Nat.le_of_ble_eq_true rfl⟩ rfl rfl (fun H locs hP hD hS => ?_)
    obtain rfl := Option.some.inj h
    subst hQ
    exact W.iret (v := r5) hx hb hr (fun t ht hW => ⟨⟨r5, (), rfl, rfl, kEnd ht hP⟩, hS.F ht⟩) hS.2.2 dX0_bottom_8
  exact E0 s.heap [] ls hP hD hS hl
def fX0_dropLowest (vC : KC) : Option (Int32 × KC) := if ¬ vC.1 = (0 : Int32) then (some ((vC.1 - (1 : Int32)), ((vC.1 - (1 : Int32)), vC.2))) else (some ((-1000000003 : Int32), vC))
set_option maxHeartbeats 4000000 in
set_option maxRecDepth 100000 in
theorem cX0_dropLowest_ok (l : Launch) (D : va_G) (ty : kTy) (adC : Nat → Nat) (sz : Nat) (vC : KC) (res : Int32 × KC) (h : fX0_dropLowest vC = some res) : kMI l yX0_dropLowest wsX0_dropLowest { frames := 0, cells := 0, slots := 0, locals := 0 } [.ref (adC 0)] D ty (wC ty adC vC) sz res.1 (wC ty adC res.2) := by
  refine Met.ofW (cc := cX0_dropLowest) (maxL := 1) (ret := (some .int)) (by decide) rfl ?_
  intro p e s m args below meth c s₁ B hml hv
  obtain ⟨rfl, hsz, hP, hK, hD0⟩ := hv
  have hx := B.exec
  have hb := B.bytes
  have hr := B.returns
  have hts := atoms_spec (ws := wsX0_dropLowest) B.pre
  have hown : s.vm.findClass RX0 = some m.cls := findClass_of_methodNamed B.named
  have hlocks := B.notSynchronized
  subst hsz
  have hD := hD0.self (sz := s.heap.size)
  generalize hAe : va_A (wC ty adC vC) s.heap.size = A at hD ⊢
  have hA : ∀ q : Nat, s.heap.size ≤ q → A q := fun q h => by rw [← hAe]; exact Or.inr h
  have hS : va_S A s.heap s.heap [] := va_S.rf
  refine kGenW (fun Q hQ => ?_)
  have wf0 := hts (.fieldLink RX0 9 "IceCoreDater$Core" "size" "I") (by decide +kernel)
  have hinX0 : ∀ w ∈ wsX00, w ∈ wsX0_dropLowest := by decide +kernel
  have wf2 := hts (.constant RX0 76 (-1000000003)) (by decide +kernel)
  have hl := lv_entry ([.ref (adC 0)]) (n := 1) (Nat.le_of_ble_eq_true rfl)
  rw [lg_entry_eq]
  generalize (lg_sl ([.ref (adC 0)]) ++ List.replicate (1 - (lg_sl ([.ref (adC 0)])).length) Slot.unset).toArray = ls at hl ⊢
  have hl : lv_has ls 1 [(0, .ref (adC 0))] := hl
  unfold fX0_dropLowest at h
  have E0 : ∀ (H : Heap) (locs : List Loc) (ls : Array Slot), va_P D vwCl (wC ty adC vC) H → va_D A (wC ty adC vC) → va_S A s.heap H locs → lv_has ls 1 [(0, .ref (adC 0))] → W p l e (headSpec wsX0_dropLowest { frames := 0, cells := 0, slots := 0, locals := 0 }).room s m ([.ref (adC 0)] : List Value).toArray below meth c H locs 0 0 Q (F0 m 0 ls []) := by
    intro H locs ls hP hD hS hl
    refine lv_aload_n hx hb dX0_dropLowest_0 rfl (lv_at hl 0 rfl) ?_
    refine va_get (D := D) (ci := 0) (v := .int vC.1) (C := RX0) (T := TX0) (N := 12) hx hb hts hinX0 hown hK.1 hP 0 rfl rfl 0 (by decide) wf0 (fun _ h9 => h9) rfl dX0_dropLowest_1 ?_
    refine lv_if_ne (tgt := 10) hx hb dX0_dropLowest_4 (by decide) (fun c4 => ?_) (fun c4 => ?_)
    · have h := kT h c4
      refine lv_aload_n hx hb dX0_dropLowest_10 rfl (lv_at hl 0 rfl) ?_
      refine lv_dup hx hb dX0_dropLowest_11 rfl ?_
      refine va_get (D := D) (ci := 0) (v := .int vC.1) (C := RX0) (T := TX0) (N := 12) hx hb hts hinX0 hown hK.1 hP 0 rfl rfl 0 (by decide) wf0 (fun _ h9 => h9) rfl dX0_dropLowest_12 ?_
      refine lv_iconst (v := 1) hx hb dX0_dropLowest_15 (by decide) ?_
      refine lv_isub hx hb dX0_dropLowest_16 ?_
      refine va_put (D := D) (ci := 0) (v := .int (vC.1 - (1 : Int32))) (ty := .int) (C := RX0) (T := TX0) (N := 12) hx hb hts hinX0 tyX0 tyX0_ok nmX0 hown hK.1 hP hD hS 0 rfl rfl 0 (by decide) wf0 (fun _ h9 => h9) rfl (by decide +kernel) rfl rfl (Nat.le_of_ble_eq_true rfl) dX0_dropLowest_17 (fun H locs hP hD hS => ?_)
      have hP : va_P D vwCl (wC ty adC ((vC.1 - (1 : Int32)), vC.2)) H := hP
      have hD : va_D A (wC ty adC ((vC.1 - (1 : Int32)), vC.2)) := hD
      refine lv_aload_n hx hb dX0_dropLowest_20 rfl (lv_at hl 0 rfl) ?_
      refine va_get (D := D) (ci := 0) (v := .int (vC.1 - (1 : Int32))) (C := RX0) (T := TX0) (N := 12) hx hb hts hinX0 hown hK.1 hP 0 rfl rfl 0 (by decide) wf0 (fun _ h9 => h9) rfl dX0_dropLowest_21 ?_
      obtain rfl := Option.some.inj h
      subst hQ
      exact W.iret (v := (vC.1 - (1 : Int32))) hx hb hr (fun t ht hW => ⟨⟨(vC.1 - (1 : Int32)), (), rfl, rfl, kEnd ht hP⟩, hS.F ht⟩) hS.2.2 dX0_dropLowest_24
    · have h := kF h (fun z => z c4)
      refine lv_ldc hx hb hown wf2 dX0_dropLowest_7 ?_
      obtain rfl := Option.some.inj h
      subst hQ
      exact W.iret (v := (-1000000003 : Int32)) hx hb hr (fun t ht hW => ⟨⟨(-1000000003 : Int32), (), rfl, rfl, kEnd ht hP⟩, hS.F ht⟩) hS.2.2 dX0_dropLowest_9
  exact E0 s.heap [] ls hP hD hS hl
def fX0_copyLayer (vC : KC) (p1 : Int32) (p2 : Int32) : Option (KC) := if kIn p1 16 = true then (if kIn p2 16 = true then (if kIn p1 16 = true then (if kIn p2 16 = true then (if kIn p1 16 = true then (if kIn p2 16 = true then (if kIn p1 16 = true then (if kIn p2 16 = true then (if kIn p1 16 = true then (if kIn p2 16 = true then (if kIn p1 16 = true then (if kIn p2 16 = true then (if kIn p1 16 = true then (if kIn p2 16 = true then (some (vC.1, vC.2.1, vC.2.2.1, vC.2.2.2.1, vC.2.2.2.2.1, (upd vC.2.2.2.2.2.1 p2.toNatClampNeg (vC.2.2.2.2.2.1 p1.toNatClampNeg)), (upd vC.2.2.2.2.2.2.1 p2.toNatClampNeg (vC.2.2.2.2.2.2.1 p1.toNatClampNeg)), (upd vC.2.2.2.2.2.2.2.1 p2.toNatClampNeg (vC.2.2.2.2.2.2.2.1 p1.toNatClampNeg)), (upd vC.2.2.2.2.2.2.2.2.1 p2.toNatClampNeg (vC.2.2.2.2.2.2.2.2.1 p1.toNatClampNeg)), (upd vC.2.2.2.2.2.2.2.2.2.1 p2.toNatClampNeg (vC.2.2.2.2.2.2.2.2.2.1 p1.toNatClampNeg)), (upd vC.2.2.2.2.2.2.2.2.2.2.1 p2.toNatClampNeg (vC.2.2.2.2.2.2.2.2.2.2.1 p1.toNatClampNeg)), (upd vC.2.2.2.2.2.2.2.2.2.2.2 p2.toNatClampNeg (vC.2.2.2.2.2.2.2.2.2.2.2 p1.toNatClampNeg)))) else none) else none) else none) else none) else none) else none) else none) else none) else none) else none) else none) else none) else none) else none
set_option maxHeartbeats 4000000 in
set_option maxRecDepth 100000 in
theorem cX0_copyLayer_ok (l : Launch) (D : va_G) (ty : kTy) (adC : Nat → Nat) (sz : Nat) (vC : KC) (p1 : Int32) (p2 : Int32) (res : KC) (h : fX0_copyLayer vC p1 p2 = some res) : kMV l yX0_copyLayer wsX0_copyLayer { frames := 0, cells := 0, slots := 0, locals := 0 } [.ref (adC 0), .int p1, .int p2] D ty (wC ty adC vC) sz (wC ty adC res) := by
  refine Met.ofW (cc := cX0_copyLayer) (maxL := 3) (ret := none) (by decide) rfl ?_
  intro p e s m args below meth c s₁ B hml hv
  obtain ⟨rfl, hsz, hP, hK, hD0⟩ := hv
  have hx := B.exec
  have hb := B.bytes
  have hr := B.returns
  have hts := atoms_spec (ws := wsX0_copyLayer) B.pre
  have hown : s.vm.findClass RX0 = some m.cls := findClass_of_methodNamed B.named
  have hlocks := B.notSynchronized
  subst hsz
  have hD := hD0.self (sz := s.heap.size)
  generalize hAe : va_A (wC ty adC vC) s.heap.size = A at hD ⊢
  have hA : ∀ q : Nat, s.heap.size ≤ q → A q := fun q h => by rw [← hAe]; exact Or.inr h
  have hS : va_S A s.heap s.heap [] := va_S.rf
  refine kGenW (fun Q hQ => ?_)
  have wf0 := hts (.fieldLink RX0 28 "IceCoreDater$Core" "thickness" "[I") (by decide +kernel)
  have hinX0 : ∀ w ∈ wsX00, w ∈ wsX0_copyLayer := by decide +kernel
  have wf2 := hts (.fieldLink RX0 32 "IceCoreDater$Core" "accumulation" "[I") (by decide +kernel)
  have wf3 := hts (.fieldLink RX0 35 "IceCoreDater$Core" "correction" "[I") (by decide +kernel)
  have wf4 := hts (.fieldLink RX0 38 "IceCoreDater$Core" "told" "[I") (by decide +kernel)
  have wf5 := hts (.fieldLink RX0 41 "IceCoreDater$Core" "ashAge" "[I") (by decide +kernel)
  have wf6 := hts (.fieldLink RX0 44 "IceCoreDater$Core" "ashTolerance" "[I") (by decide +kernel)
  have wf7 := hts (.fieldLink RX0 47 "IceCoreDater$Core" "count" "[I") (by decide +kernel)
  have hl := lv_entry ([.ref (adC 0), .int p1, .int p2]) (n := 3) (Nat.le_of_ble_eq_true rfl)
  rw [lg_entry_eq]
  generalize (lg_sl ([.ref (adC 0), .int p1, .int p2]) ++ List.replicate (3 - (lg_sl ([.ref (adC 0), .int p1, .int p2])).length) Slot.unset).toArray = ls at hl ⊢
  have hl : lv_has ls 3 [(0, .ref (adC 0)), (1, .int p1), (2, .int p2)] := hl
  unfold fX0_copyLayer at h
  have E0 : ∀ (H : Heap) (locs : List Loc) (ls : Array Slot), va_P D vwCl (wC ty adC vC) H → va_D A (wC ty adC vC) → va_S A s.heap H locs → lv_has ls 3 [(0, .ref (adC 0)), (1, .int p1), (2, .int p2)] → W p l e (headSpec wsX0_copyLayer { frames := 0, cells := 0, slots := 0, locals := 0 }).room s m ([.ref (adC 0), .int p1, .int p2] : List Value).toArray below meth c H locs 0 0 Q (F0 m 0 ls []) := by
    intro H locs ls hP hD hS hl
    refine lv_aload_n hx hb dX0_copyLayer_0 rfl (lv_at hl 0 rfl) ?_
    refine va_get (D := D) (ci := 0) (v := .ref (adC 1)) (C := RX0) (T := TX0) (N := 12) hx hb hts hinX0 hown hK.1 hP 0 rfl rfl 5 (by decide) wf0 (fun _ h9 => h9) rfl dX0_copyLayer_1 ?_
    refine lv_iload_n hx hb dX0_copyLayer_4 rfl (lv_at hl 2 rfl) ?_
    refine lv_aload_n hx hb dX0_copyLayer_5 rfl (lv_at hl 0 rfl) ?_
    refine va_get (D := D) (ci := 0) (v := .ref (adC 1)) (C := RX0) (T := TX0) (N := 12) hx hb hts hinX0 hown hK.1 hP 0 rfl rfl 5 (by decide) wf0 (fun _ h9 => h9) rfl dX0_copyLayer_6 ?_
    refine lv_iload_n hx hb dX0_copyLayer_9 rfl (lv_at hl 1 rfl) ?_
    obtain ⟨b10, h⟩ := kIf h
    refine va_iald (f := vC.2.2.2.2.2.1) (n := 16) hx hb hK.1 hP 1 0 rfl rfl (kIn_ok b10) dX0_copyLayer_10 ?_
    obtain ⟨b11, h⟩ := kIf h
    refine va_iast (f := vC.2.2.2.2.2.1) (n := 16) hx hb hK.1 hP hD hS 1 0 rfl rfl (kIn_ok b11) dX0_copyLayer_11 (fun H locs hP hD hS => ?_)
    have hP : va_P D vwCl (wC ty adC (vC.1, vC.2.1, vC.2.2.1, vC.2.2.2.1, vC.2.2.2.2.1, (upd vC.2.2.2.2.2.1 p2.toNatClampNeg (vC.2.2.2.2.2.1 p1.toNatClampNeg)), vC.2.2.2.2.2.2)) H := hP
    have hD : va_D A (wC ty adC (vC.1, vC.2.1, vC.2.2.1, vC.2.2.2.1, vC.2.2.2.2.1, (upd vC.2.2.2.2.2.1 p2.toNatClampNeg (vC.2.2.2.2.2.1 p1.toNatClampNeg)), vC.2.2.2.2.2.2)) := hD
    refine lv_aload_n hx hb dX0_copyLayer_12 rfl (lv_at hl 0 rfl) ?_
    refine va_get (D := D) (ci := 0) (v := .ref (adC 2)) (C := RX0) (T := TX0) (N := 12) hx hb hts hinX0 hown hK.1 hP 0 rfl rfl 6 (by decide) wf2 (fun _ h9 => h9) rfl dX0_copyLayer_13 ?_
    refine lv_iload_n hx hb dX0_copyLayer_16 rfl (lv_at hl 2 rfl) ?_
    refine lv_aload_n hx hb dX0_copyLayer_17 rfl (lv_at hl 0 rfl) ?_
    refine va_get (D := D) (ci := 0) (v := .ref (adC 2)) (C := RX0) (T := TX0) (N := 12) hx hb hts hinX0 hown hK.1 hP 0 rfl rfl 6 (by decide) wf2 (fun _ h9 => h9) rfl dX0_copyLayer_18 ?_
    refine lv_iload_n hx hb dX0_copyLayer_21 rfl (lv_at hl 1 rfl) ?_
    obtain ⟨b22, h⟩ := kIf h
    refine va_iald (f := vC.2.2.2.2.2.2.1) (n := 16) hx hb hK.1 hP 2 0 rfl rfl (kIn_ok b22) dX0_copyLayer_22 ?_
    obtain ⟨b23, h⟩ := kIf h
    refine va_iast (f := vC.2.2.2.2.2.2.1) (n := 16) hx hb hK.1 hP hD hS 2 0 rfl rfl (kIn_ok b23) dX0_copyLayer_23 (fun H locs hP hD hS => ?_)
    have hP : va_P D vwCl (wC ty adC (vC.1, vC.2.1, vC.2.2.1, vC.2.2.2.1, vC.2.2.2.2.1, (upd vC.2.2.2.2.2.1 p2.toNatClampNeg (vC.2.2.2.2.2.1 p1.toNatClampNeg)), (upd vC.2.2.2.2.2.2.1 p2.toNatClampNeg (vC.2.2.2.2.2.2.1 p1.toNatClampNeg)), vC.2.2.2.2.2.2.2)) H := hP
    have hD : va_D A (wC ty adC (vC.1, vC.2.1, vC.2.2.1, vC.2.2.2.1, vC.2.2.2.2.1, (upd vC.2.2.2.2.2.1 p2.toNatClampNeg (vC.2.2.2.2.2.1 p1.toNatClampNeg)), (upd vC.2.2.2.2.2.2.1 p2.toNatClampNeg (vC.2.2.2.2.2.2.1 p1.toNatClampNeg)), vC.2.2.2.2.2.2.2)) := hD
    refine lv_aload_n hx hb dX0_copyLayer_24 rfl (lv_at hl 0 rfl) ?_
    refine va_get (D := D) (ci := 0) (v := .ref (adC 3)) (C := RX0) (T := TX0) (N := 12) hx hb hts hinX0 hown hK.1 hP 0 rfl rfl 7 (by decide) wf3 (fun _ h9 => h9) rfl dX0_copyLayer_25 ?_
    refine lv_iload_n hx hb dX0_copyLayer_28 rfl (lv_at hl 2 rfl) ?_
    refine lv_aload_n hx hb dX0_copyLayer_29 rfl (lv_at hl 0 rfl) ?_
    refine va_get (D := D) (ci := 0) (v := .ref (adC 3)) (C := RX0) (T := TX0) (N := 12) hx hb hts hinX0 hown hK.1 hP 0 rfl rfl 7 (by decide) wf3 (fun _ h9 => h9) rfl dX0_copyLayer_30 ?_
    refine lv_iload_n hx hb dX0_copyLayer_33 rfl (lv_at hl 1 rfl) ?_
    obtain ⟨b34, h⟩ := kIf h
    refine va_iald (f := vC.2.2.2.2.2.2.2.1) (n := 16) hx hb hK.1 hP 3 0 rfl rfl (kIn_ok b34) dX0_copyLayer_34 ?_
    obtain ⟨b35, h⟩ := kIf h
    refine va_iast (f := vC.2.2.2.2.2.2.2.1) (n := 16) hx hb hK.1 hP hD hS 3 0 rfl rfl (kIn_ok b35) dX0_copyLayer_35 (fun H locs hP hD hS => ?_)
    have hP : va_P D vwCl (wC ty adC (vC.1, vC.2.1, vC.2.2.1, vC.2.2.2.1, vC.2.2.2.2.1, (upd vC.2.2.2.2.2.1 p2.toNatClampNeg (vC.2.2.2.2.2.1 p1.toNatClampNeg)), (upd vC.2.2.2.2.2.2.1 p2.toNatClampNeg (vC.2.2.2.2.2.2.1 p1.toNatClampNeg)), (upd vC.2.2.2.2.2.2.2.1 p2.toNatClampNeg (vC.2.2.2.2.2.2.2.1 p1.toNatClampNeg)), vC.2.2.2.2.2.2.2.2)) H := hP
    have hD : va_D A (wC ty adC (vC.1, vC.2.1, vC.2.2.1, vC.2.2.2.1, vC.2.2.2.2.1, (upd vC.2.2.2.2.2.1 p2.toNatClampNeg (vC.2.2.2.2.2.1 p1.toNatClampNeg)), (upd vC.2.2.2.2.2.2.1 p2.toNatClampNeg (vC.2.2.2.2.2.2.1 p1.toNatClampNeg)), (upd vC.2.2.2.2.2.2.2.1 p2.toNatClampNeg (vC.2.2.2.2.2.2.2.1 p1.toNatClampNeg)), vC.2.2.2.2.2.2.2.2)) := hD
    refine lv_aload_n hx hb dX0_copyLayer_36 rfl (lv_at hl 0 rfl) ?_
    refine va_get (D := D) (ci := 0) (v := .ref (adC 4)) (C := RX0) (T := TX0) (N := 12) hx hb hts hinX0 hown hK.1 hP 0 rfl rfl 8 (by decide) wf4 (fun _ h9 => h9) rfl dX0_copyLayer_37 ?_
    refine lv_iload_n hx hb dX0_copyLayer_40 rfl (lv_at hl 2 rfl) ?_
    refine lv_aload_n hx hb dX0_copyLayer_41 rfl (lv_at hl 0 rfl) ?_
    refine va_get (D := D) (ci := 0) (v := .ref (adC 4)) (C := RX0) (T := TX0) (N := 12) hx hb hts hinX0 hown hK.1 hP 0 rfl rfl 8 (by decide) wf4 (fun _ h9 => h9) rfl dX0_copyLayer_42 ?_
    refine lv_iload_n hx hb dX0_copyLayer_45 rfl (lv_at hl 1 rfl) ?_
    obtain ⟨b46, h⟩ := kIf h
    refine va_iald (f := vC.2.2.2.2.2.2.2.2.1) (n := 16) hx hb hK.1 hP 4 0 rfl rfl (kIn_ok b46) dX0_copyLayer_46 ?_
    obtain ⟨b47, h⟩ := kIf h
    refine va_iast (f := vC.2.2.2.2.2.2.2.2.1) (n := 16) hx hb hK.1 hP hD hS 4 0 rfl rfl (kIn_ok b47) dX0_copyLayer_47 (fun H locs hP hD hS => ?_)
    have hP : va_P D vwCl (wC ty adC (vC.1, vC.2.1, vC.2.2.1, vC.2.2.2.1, vC.2.2.2.2.1, (upd vC.2.2.2.2.2.1 p2.toNatClampNeg (vC.2.2.2.2.2.1 p1.toNatClampNeg)), (upd vC.2.2.2.2.2.2.1 p2.toNatClampNeg (vC.2.2.2.2.2.2.1 p1.toNatClampNeg)), (upd vC.2.2.2.2.2.2.2.1 p2.toNatClampNeg (vC.2.2.2.2.2.2.2.1 p1.toNatClampNeg)), (upd vC.2.2.2.2.2.2.2.2.1 p2.toNatClampNeg (vC.2.2.2.2.2.2.2.2.1 p1.toNatClampNeg)), vC.2.2.2.2.2.2.2.2.2)) H := hP
    have hD : va_D A (wC ty adC (vC.1, vC.2.1, vC.2.2.1, vC.2.2.2.1, vC.2.2.2.2.1, (upd vC.2.2.2.2.2.1 p2.toNatClampNeg (vC.2.2.2.2.2.1 p1.toNatClampNeg)), (upd vC.2.2.2.2.2.2.1 p2.toNatClampNeg (vC.2.2.2.2.2.2.1 p1.toNatClampNeg)), (upd vC.2.2.2.2.2.2.2.1 p2.toNatClampNeg (vC.2.2.2.2.2.2.2.1 p1.toNatClampNeg)), (upd vC.2.2.2.2.2.2.2.2.1 p2.toNatClampNeg (vC.2.2.2.2.2.2.2.2.1 p1.toNatClampNeg)), vC.2.2.2.2.2.2.2.2.2)) := hD
    refine lv_aload_n hx hb dX0_copyLayer_48 rfl (lv_at hl 0 rfl) ?_
    refine va_get (D := D) (ci := 0) (v := .ref (adC 5)) (C := RX0) (T := TX0) (N := 12) hx hb hts hinX0 hown hK.1 hP 0 rfl rfl 9 (by decide) wf5 (fun _ h9 => h9) rfl dX0_copyLayer_49 ?_
    refine lv_iload_n hx hb dX0_copyLayer_52 rfl (lv_at hl 2 rfl) ?_
    refine lv_aload_n hx hb dX0_copyLayer_53 rfl (lv_at hl 0 rfl) ?_
    refine va_get (D := D) (ci := 0) (v := .ref (adC 5)) (C := RX0) (T := TX0) (N := 12) hx hb hts hinX0 hown hK.1 hP 0 rfl rfl 9 (by decide) wf5 (fun _ h9 => h9) rfl dX0_copyLayer_54 ?_
    refine lv_iload_n hx hb dX0_copyLayer_57 rfl (lv_at hl 1 rfl) ?_
    obtain ⟨b58, h⟩ := kIf h
    refine va_iald (f := vC.2.2.2.2.2.2.2.2.2.1) (n := 16) hx hb hK.1 hP 5 0 rfl rfl (kIn_ok b58) dX0_copyLayer_58 ?_
    obtain ⟨b59, h⟩ := kIf h
    refine va_iast (f := vC.2.2.2.2.2.2.2.2.2.1) (n := 16) hx hb hK.1 hP hD hS 5 0 rfl rfl (kIn_ok b59) dX0_copyLayer_59 (fun H locs hP hD hS => ?_)
    have hP : va_P D vwCl (wC ty adC (vC.1, vC.2.1, vC.2.2.1, vC.2.2.2.1, vC.2.2.2.2.1, (upd vC.2.2.2.2.2.1 p2.toNatClampNeg (vC.2.2.2.2.2.1 p1.toNatClampNeg)), (upd vC.2.2.2.2.2.2.1 p2.toNatClampNeg (vC.2.2.2.2.2.2.1 p1.toNatClampNeg)), (upd vC.2.2.2.2.2.2.2.1 p2.toNatClampNeg (vC.2.2.2.2.2.2.2.1 p1.toNatClampNeg)), (upd vC.2.2.2.2.2.2.2.2.1 p2.toNatClampNeg (vC.2.2.2.2.2.2.2.2.1 p1.toNatClampNeg)), (upd vC.2.2.2.2.2.2.2.2.2.1 p2.toNatClampNeg (vC.2.2.2.2.2.2.2.2.2.1 p1.toNatClampNeg)), vC.2.2.2.2.2.2.2.2.2.2)) H := hP
    have hD : va_D A (wC ty adC (vC.1, vC.2.1, vC.2.2.1, vC.2.2.2.1, vC.2.2.2.2.1, (upd vC.2.2.2.2.2.1 p2.toNatClampNeg (vC.2.2.2.2.2.1 p1.toNatClampNeg)), (upd vC.2.2.2.2.2.2.1 p2.toNatClampNeg (vC.2.2.2.2.2.2.1 p1.toNatClampNeg)), (upd vC.2.2.2.2.2.2.2.1 p2.toNatClampNeg (vC.2.2.2.2.2.2.2.1 p1.toNatClampNeg)), (upd vC.2.2.2.2.2.2.2.2.1 p2.toNatClampNeg (vC.2.2.2.2.2.2.2.2.1 p1.toNatClampNeg)), (upd vC.2.2.2.2.2.2.2.2.2.1 p2.toNatClampNeg (vC.2.2.2.2.2.2.2.2.2.1 p1.toNatClampNeg)), vC.2.2.2.2.2.2.2.2.2.2)) := hD
    refine lv_aload_n hx hb dX0_copyLayer_60 rfl (lv_at hl 0 rfl) ?_
    refine va_get (D := D) (ci := 0) (v := .ref (adC 6)) (C := RX0) (T := TX0) (N := 12) hx hb hts hinX0 hown hK.1 hP 0 rfl rfl 10 (by decide) wf6 (fun _ h9 => h9) rfl dX0_copyLayer_61 ?_
    refine lv_iload_n hx hb dX0_copyLayer_64 rfl (lv_at hl 2 rfl) ?_
    refine lv_aload_n hx hb dX0_copyLayer_65 rfl (lv_at hl 0 rfl) ?_
    refine va_get (D := D) (ci := 0) (v := .ref (adC 6)) (C := RX0) (T := TX0) (N := 12) hx hb hts hinX0 hown hK.1 hP 0 rfl rfl 10 (by decide) wf6 (fun _ h9 => h9) rfl dX0_copyLayer_66 ?_
    refine lv_iload_n hx hb dX0_copyLayer_69 rfl (lv_at hl 1 rfl) ?_
    obtain ⟨b70, h⟩ := kIf h
    refine va_iald (f := vC.2.2.2.2.2.2.2.2.2.2.1) (n := 16) hx hb hK.1 hP 6 0 rfl rfl (kIn_ok b70) dX0_copyLayer_70 ?_
    obtain ⟨b71, h⟩ := kIf h
    refine va_iast (f := vC.2.2.2.2.2.2.2.2.2.2.1) (n := 16) hx hb hK.1 hP hD hS 6 0 rfl rfl (kIn_ok b71) dX0_copyLayer_71 (fun H locs hP hD hS => ?_)
    have hP : va_P D vwCl (wC ty adC (vC.1, vC.2.1, vC.2.2.1, vC.2.2.2.1, vC.2.2.2.2.1, (upd vC.2.2.2.2.2.1 p2.toNatClampNeg (vC.2.2.2.2.2.1 p1.toNatClampNeg)), (upd vC.2.2.2.2.2.2.1 p2.toNatClampNeg (vC.2.2.2.2.2.2.1 p1.toNatClampNeg)), (upd vC.2.2.2.2.2.2.2.1 p2.toNatClampNeg (vC.2.2.2.2.2.2.2.1 p1.toNatClampNeg)), (upd vC.2.2.2.2.2.2.2.2.1 p2.toNatClampNeg (vC.2.2.2.2.2.2.2.2.1 p1.toNatClampNeg)), (upd vC.2.2.2.2.2.2.2.2.2.1 p2.toNatClampNeg (vC.2.2.2.2.2.2.2.2.2.1 p1.toNatClampNeg)), (upd vC.2.2.2.2.2.2.2.2.2.2.1 p2.toNatClampNeg (vC.2.2.2.2.2.2.2.2.2.2.1 p1.toNatClampNeg)), vC.2.2.2.2.2.2.2.2.2.2.2)) H := hP
    have hD : va_D A (wC ty adC (vC.1, vC.2.1, vC.2.2.1, vC.2.2.2.1, vC.2.2.2.2.1, (upd vC.2.2.2.2.2.1 p2.toNatClampNeg (vC.2.2.2.2.2.1 p1.toNatClampNeg)), (upd vC.2.2.2.2.2.2.1 p2.toNatClampNeg (vC.2.2.2.2.2.2.1 p1.toNatClampNeg)), (upd vC.2.2.2.2.2.2.2.1 p2.toNatClampNeg (vC.2.2.2.2.2.2.2.1 p1.toNatClampNeg)), (upd vC.2.2.2.2.2.2.2.2.1 p2.toNatClampNeg (vC.2.2.2.2.2.2.2.2.1 p1.toNatClampNeg)), (upd vC.2.2.2.2.2.2.2.2.2.1 p2.toNatClampNeg (vC.2.2.2.2.2.2.2.2.2.1 p1.toNatClampNeg)), (upd vC.2.2.2.2.2.2.2.2.2.2.1 p2.toNatClampNeg (vC.2.2.2.2.2.2.2.2.2.2.1 p1.toNatClampNeg)), vC.2.2.2.2.2.2.2.2.2.2.2)) := hD
    refine lv_aload_n hx hb dX0_copyLayer_72 rfl (lv_at hl 0 rfl) ?_
    refine va_get (D := D) (ci := 0) (v := .ref (adC 7)) (C := RX0) (T := TX0) (N := 12) hx hb hts hinX0 hown hK.1 hP 0 rfl rfl 11 (by decide) wf7 (fun _ h9 => h9) rfl dX0_copyLayer_73 ?_
    refine lv_iload_n hx hb dX0_copyLayer_76 rfl (lv_at hl 2 rfl) ?_
    refine lv_aload_n hx hb dX0_copyLayer_77 rfl (lv_at hl 0 rfl) ?_
    refine va_get (D := D) (ci := 0) (v := .ref (adC 7)) (C := RX0) (T := TX0) (N := 12) hx hb hts hinX0 hown hK.1 hP 0 rfl rfl 11 (by decide) wf7 (fun _ h9 => h9) rfl dX0_copyLayer_78 ?_
    refine lv_iload_n hx hb dX0_copyLayer_81 rfl (lv_at hl 1 rfl) ?_
    obtain ⟨b82, h⟩ := kIf h
    refine va_iald (f := vC.2.2.2.2.2.2.2.2.2.2.2) (n := 16) hx hb hK.1 hP 7 0 rfl rfl (kIn_ok b82) dX0_copyLayer_82 ?_
    obtain ⟨b83, h⟩ := kIf h
    refine va_iast (f := vC.2.2.2.2.2.2.2.2.2.2.2) (n := 16) hx hb hK.1 hP hD hS 7 0 rfl rfl (kIn_ok b83) dX0_copyLayer_83 (fun H locs hP hD hS => ?_)
    have hP : va_P D vwCl (wC ty adC (vC.1, vC.2.1, vC.2.2.1, vC.2.2.2.1, vC.2.2.2.2.1, (upd vC.2.2.2.2.2.1 p2.toNatClampNeg (vC.2.2.2.2.2.1 p1.toNatClampNeg)), (upd vC.2.2.2.2.2.2.1 p2.toNatClampNeg (vC.2.2.2.2.2.2.1 p1.toNatClampNeg)), (upd vC.2.2.2.2.2.2.2.1 p2.toNatClampNeg (vC.2.2.2.2.2.2.2.1 p1.toNatClampNeg)), (upd vC.2.2.2.2.2.2.2.2.1 p2.toNatClampNeg (vC.2.2.2.2.2.2.2.2.1 p1.toNatClampNeg)), (upd vC.2.2.2.2.2.2.2.2.2.1 p2.toNatClampNeg (vC.2.2.2.2.2.2.2.2.2.1 p1.toNatClampNeg)), (upd vC.2.2.2.2.2.2.2.2.2.2.1 p2.toNatClampNeg (vC.2.2.2.2.2.2.2.2.2.2.1 p1.toNatClampNeg)), (upd vC.2.2.2.2.2.2.2.2.2.2.2 p2.toNatClampNeg (vC.2.2.2.2.2.2.2.2.2.2.2 p1.toNatClampNeg)))) H := hP
    have hD : va_D A (wC ty adC (vC.1, vC.2.1, vC.2.2.1, vC.2.2.2.1, vC.2.2.2.2.1, (upd vC.2.2.2.2.2.1 p2.toNatClampNeg (vC.2.2.2.2.2.1 p1.toNatClampNeg)), (upd vC.2.2.2.2.2.2.1 p2.toNatClampNeg (vC.2.2.2.2.2.2.1 p1.toNatClampNeg)), (upd vC.2.2.2.2.2.2.2.1 p2.toNatClampNeg (vC.2.2.2.2.2.2.2.1 p1.toNatClampNeg)), (upd vC.2.2.2.2.2.2.2.2.1 p2.toNatClampNeg (vC.2.2.2.2.2.2.2.2.1 p1.toNatClampNeg)), (upd vC.2.2.2.2.2.2.2.2.2.1 p2.toNatClampNeg (vC.2.2.2.2.2.2.2.2.2.1 p1.toNatClampNeg)), (upd vC.2.2.2.2.2.2.2.2.2.2.1 p2.toNatClampNeg (vC.2.2.2.2.2.2.2.2.2.2.1 p1.toNatClampNeg)), (upd vC.2.2.2.2.2.2.2.2.2.2.2 p2.toNatClampNeg (vC.2.2.2.2.2.2.2.2.2.2.2 p1.toNatClampNeg)))) := hD
    obtain rfl := Option.some.inj h
    subst hQ
    exact W.vret hx hb hr (fun t ht hW => ⟨⟨(), rfl, trivial, kEnd ht hP⟩, hS.F ht⟩) hS.2.2 dX0_copyLayer_84
  exact E0 s.heap [] ls hP hD hS hl
end
