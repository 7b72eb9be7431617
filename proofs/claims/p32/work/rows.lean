section
-- ===== PART A: goes FIRST, ahead of the names: the tables' words, and 'selects' of the private methods out of them =====
/-- a private method of a class that the tables say can be made, by its rows of tables_1 -/
def lw_okq (q : MethodName × Nat) : Prop := (q.1.cls ≠ "java/lang/invoke/MethodHandle" ∧ q.1.cls ≠ "java/lang/invoke/VarHandle") ∧ Cond.instantiable q.1.cls q.2 ∈ tables_1 ∧ Cond.privateMethod q.1 ∈ tables_1 ∧ Cond.instanceMethod q.1 ∈ tables_1
theorem lw_p0 : lw_okq (⟨"java/lang/Throwable", "fillInStackTrace", "(I)Ljava/lang/Throwable;"⟩, 6) := ⟨⟨by decide +kernel, by decide +kernel⟩, List.mem_of_getElem? (i := 294) (by decide +kernel), List.mem_of_getElem? (i := 292) (by decide +kernel), List.mem_of_getElem? (i := 293) (by decide +kernel)⟩
theorem lw_p1 : lw_okq (⟨"LossHouse", "cedeNow", "(LLossHouse$Cession;ZI)V"⟩, 15) := ⟨⟨by decide +kernel, by decide +kernel⟩, List.mem_of_getElem? (i := 37) (by decide +kernel), List.mem_of_getElem? (i := 323) (by decide +kernel), List.mem_of_getElem? (i := 324) (by decide +kernel)⟩
theorem lw_p2 : lw_okq (⟨"LossHouse", "tellAmounts", "(LLossHouse$Cession;Z)V"⟩, 15) := ⟨⟨by decide +kernel, by decide +kernel⟩, List.mem_of_getElem? (i := 37) (by decide +kernel), List.mem_of_getElem? (i := 327) (by decide +kernel), List.mem_of_getElem? (i := 328) (by decide +kernel)⟩
theorem lw_p3 : lw_okq (⟨"LossHouse$Cession", "subject", "(LLossHouse$Layer;II)I"⟩, 6) := ⟨⟨by decide +kernel, by decide +kernel⟩, List.mem_of_getElem? (i := 161) (by decide +kernel), List.mem_of_getElem? (i := 379) (by decide +kernel), List.mem_of_getElem? (i := 380) (by decide +kernel)⟩
theorem lw_p4 : lw_okq (⟨"LossHouse$Formula", "join", "(LLossHouse$Sign;II)I"⟩, 3) := ⟨⟨by decide +kernel, by decide +kernel⟩, List.mem_of_getElem? (i := 409) (by decide +kernel), List.mem_of_getElem? (i := 407) (by decide +kernel), List.mem_of_getElem? (i := 408) (by decide +kernel)⟩
theorem lw_p5 : lw_okq (⟨"LossHouse$Formula", "leaf", "(LLossHouse$Sign;IIII)I"⟩, 3) := ⟨⟨by decide +kernel, by decide +kernel⟩, List.mem_of_getElem? (i := 409) (by decide +kernel), List.mem_of_getElem? (i := 422) (by decide +kernel), List.mem_of_getElem? (i := 423) (by decide +kernel)⟩
theorem lw_p6 : lw_okq (⟨"LossHouse", "countOf", "(I)I"⟩, 15) := ⟨⟨by decide +kernel, by decide +kernel⟩, List.mem_of_getElem? (i := 37) (by decide +kernel), List.mem_of_getElem? (i := 438) (by decide +kernel), List.mem_of_getElem? (i := 439) (by decide +kernel)⟩
theorem lw_p7 : lw_okq (⟨"LossHouse", "openClaims", "()I"⟩, 15) := ⟨⟨by decide +kernel, by decide +kernel⟩, List.mem_of_getElem? (i := 37) (by decide +kernel), List.mem_of_getElem? (i := 442) (by decide +kernel), List.mem_of_getElem? (i := 443) (by decide +kernel)⟩
theorem lw_p8 : lw_okq (⟨"LossHouse", "allPaid", "()I"⟩, 15) := ⟨⟨by decide +kernel, by decide +kernel⟩, List.mem_of_getElem? (i := 37) (by decide +kernel), List.mem_of_getElem? (i := 446) (by decide +kernel), List.mem_of_getElem? (i := 447) (by decide +kernel)⟩
theorem lw_p9 : lw_okq (⟨"LossHouse", "allReserves", "()I"⟩, 15) := ⟨⟨by decide +kernel, by decide +kernel⟩, List.mem_of_getElem? (i := 37) (by decide +kernel), List.mem_of_getElem? (i := 450) (by decide +kernel), List.mem_of_getElem? (i := 451) (by decide +kernel)⟩
theorem lw_p10 : lw_okq (⟨"LossHouse", "hasLayer", "(I)Z"⟩, 15) := ⟨⟨by decide +kernel, by decide +kernel⟩, List.mem_of_getElem? (i := 37) (by decide +kernel), List.mem_of_getElem? (i := 489) (by decide +kernel), List.mem_of_getElem? (i := 490) (by decide +kernel)⟩
theorem lw_p11 : lw_okq (⟨"LossHouse", "isYear", "(I)Z"⟩, 15) := ⟨⟨by decide +kernel, by decide +kernel⟩, List.mem_of_getElem? (i := 37) (by decide +kernel), List.mem_of_getElem? (i := 493) (by decide +kernel), List.mem_of_getElem? (i := 494) (by decide +kernel)⟩
theorem lw_p12 : lw_okq (⟨"LossHouse", "hasClaim", "(I)Z"⟩, 15) := ⟨⟨by decide +kernel, by decide +kernel⟩, List.mem_of_getElem? (i := 37) (by decide +kernel), List.mem_of_getElem? (i := 508) (by decide +kernel), List.mem_of_getElem? (i := 509) (by decide +kernel)⟩
theorem lw_p13 : lw_okq (⟨"LossHouse", "claimOf", "(II)I"⟩, 15) := ⟨⟨by decide +kernel, by decide +kernel⟩, List.mem_of_getElem? (i := 37) (by decide +kernel), List.mem_of_getElem? (i := 513) (by decide +kernel), List.mem_of_getElem? (i := 514) (by decide +kernel)⟩
theorem lw_p14 : lw_okq (⟨"LossHouse", "usedOf", "(III)I"⟩, 15) := ⟨⟨by decide +kernel, by decide +kernel⟩, List.mem_of_getElem? (i := 37) (by decide +kernel), List.mem_of_getElem? (i := 533) (by decide +kernel), List.mem_of_getElem? (i := 534) (by decide +kernel)⟩
theorem lw_p15 : lw_okq (⟨"LossHouse", "isKind", "(I)Z"⟩, 15) := ⟨⟨by decide +kernel, by decide +kernel⟩, List.mem_of_getElem? (i := 37) (by decide +kernel), List.mem_of_getElem? (i := 551) (by decide +kernel), List.mem_of_getElem? (i := 552) (by decide +kernel)⟩
def lw_privs_1 : List (MethodName × Nat) := [(⟨"java/lang/Throwable", "fillInStackTrace", "(I)Ljava/lang/Throwable;"⟩, 6), (⟨"LossHouse", "cedeNow", "(LLossHouse$Cession;ZI)V"⟩, 15), (⟨"LossHouse", "tellAmounts", "(LLossHouse$Cession;Z)V"⟩, 15), (⟨"LossHouse$Cession", "subject", "(LLossHouse$Layer;II)I"⟩, 6), (⟨"LossHouse$Formula", "join", "(LLossHouse$Sign;II)I"⟩, 3), (⟨"LossHouse$Formula", "leaf", "(LLossHouse$Sign;IIII)I"⟩, 3), (⟨"LossHouse", "countOf", "(I)I"⟩, 15), (⟨"LossHouse", "openClaims", "()I"⟩, 15), (⟨"LossHouse", "allPaid", "()I"⟩, 15), (⟨"LossHouse", "allReserves", "()I"⟩, 15), (⟨"LossHouse", "hasLayer", "(I)Z"⟩, 15), (⟨"LossHouse", "isYear", "(I)Z"⟩, 15), (⟨"LossHouse", "hasClaim", "(I)Z"⟩, 15), (⟨"LossHouse", "claimOf", "(II)I"⟩, 15), (⟨"LossHouse", "usedOf", "(III)I"⟩, 15), (⟨"LossHouse", "isKind", "(I)Z"⟩, 15)]
theorem lw_r1 : ∀ q ∈ lw_privs_1, lw_okq q := List.forall_mem_cons.mpr ⟨lw_p0, List.forall_mem_cons.mpr ⟨lw_p1, List.forall_mem_cons.mpr ⟨lw_p2, List.forall_mem_cons.mpr ⟨lw_p3, List.forall_mem_cons.mpr ⟨lw_p4, List.forall_mem_cons.mpr ⟨lw_p5, List.forall_mem_cons.mpr ⟨lw_p6, List.forall_mem_cons.mpr ⟨lw_p7, List.forall_mem_cons.mpr ⟨lw_p8, List.forall_mem_cons.mpr ⟨lw_p9, List.forall_mem_cons.mpr ⟨lw_p10, List.forall_mem_cons.mpr ⟨lw_p11, List.forall_mem_cons.mpr ⟨lw_p12, List.forall_mem_cons.mpr ⟨lw_p13, List.forall_mem_cons.mpr ⟨lw_p14, List.forall_mem_cons.mpr ⟨lw_p15, fun _ h => absurd h List.not_mem_nil⟩⟩⟩⟩⟩⟩⟩⟩⟩⟩⟩⟩⟩⟩⟩⟩
theorem lw_p16 : lw_okq (⟨"LossHouse", "isYearSoFar", "(I)Z"⟩, 15) := ⟨⟨by decide +kernel, by decide +kernel⟩, List.mem_of_getElem? (i := 37) (by decide +kernel), List.mem_of_getElem? (i := 555) (by decide +kernel), List.mem_of_getElem? (i := 556) (by decide +kernel)⟩
theorem lw_p17 : lw_okq (⟨"LossHouse", "fillTriangle", "(I)V"⟩, 15) := ⟨⟨by decide +kernel, by decide +kernel⟩, List.mem_of_getElem? (i := 37) (by decide +kernel), List.mem_of_getElem? (i := 560) (by decide +kernel), List.mem_of_getElem? (i := 561) (by decide +kernel)⟩
theorem lw_p18 : lw_okq (⟨"LossHouse", "tellAmountsAt", "(IZ)V"⟩, 15) := ⟨⟨by decide +kernel, by decide +kernel⟩, List.mem_of_getElem? (i := 37) (by decide +kernel), List.mem_of_getElem? (i := 568) (by decide +kernel), List.mem_of_getElem? (i := 569) (by decide +kernel)⟩
theorem lw_p19 : lw_okq (⟨"LossHouse$Triangle", "grown", "(JII)I"⟩, 2) := ⟨⟨by decide +kernel, by decide +kernel⟩, List.mem_of_getElem? (i := 191) (by decide +kernel), List.mem_of_getElem? (i := 582) (by decide +kernel), List.mem_of_getElem? (i := 583) (by decide +kernel)⟩
theorem lw_p20 : lw_okq (⟨"LossHouse", "isMethod", "(I)Z"⟩, 15) := ⟨⟨by decide +kernel, by decide +kernel⟩, List.mem_of_getElem? (i := 37) (by decide +kernel), List.mem_of_getElem? (i := 605) (by decide +kernel), List.mem_of_getElem? (i := 606) (by decide +kernel)⟩
theorem lw_p21 : lw_okq (⟨"LossHouse", "reserveOf", "(II)I"⟩, 15) := ⟨⟨by decide +kernel, by decide +kernel⟩, List.mem_of_getElem? (i := 37) (by decide +kernel), List.mem_of_getElem? (i := 610) (by decide +kernel), List.mem_of_getElem? (i := 611) (by decide +kernel)⟩
theorem lw_p22 : lw_okq (⟨"LossHouse", "isReserve", "(I)Z"⟩, 15) := ⟨⟨by decide +kernel, by decide +kernel⟩, List.mem_of_getElem? (i := 37) (by decide +kernel), List.mem_of_getElem? (i := 624) (by decide +kernel), List.mem_of_getElem? (i := 625) (by decide +kernel)⟩
theorem lw_p23 : lw_okq (⟨"LossHouse", "mix", "(JJ)J"⟩, 15) := ⟨⟨by decide +kernel, by decide +kernel⟩, List.mem_of_getElem? (i := 37) (by decide +kernel), List.mem_of_getElem? (i := 669) (by decide +kernel), List.mem_of_getElem? (i := 670) (by decide +kernel)⟩
theorem lw_p24 : lw_okq (⟨"LossHouse", "mixLayers", "(J)J"⟩, 15) := ⟨⟨by decide +kernel, by decide +kernel⟩, List.mem_of_getElem? (i := 37) (by decide +kernel), List.mem_of_getElem? (i := 674) (by decide +kernel), List.mem_of_getElem? (i := 675) (by decide +kernel)⟩
theorem lw_p25 : lw_okq (⟨"LossHouse", "mixClaims", "(J)J"⟩, 15) := ⟨⟨by decide +kernel, by decide +kernel⟩, List.mem_of_getElem? (i := 37) (by decide +kernel), List.mem_of_getElem? (i := 682) (by decide +kernel), List.mem_of_getElem? (i := 683) (by decide +kernel)⟩
theorem lw_p26 : lw_okq (⟨"LossHouse", "mixYears", "(J)J"⟩, 15) := ⟨⟨by decide +kernel, by decide +kernel⟩, List.mem_of_getElem? (i := 37) (by decide +kernel), List.mem_of_getElem? (i := 686) (by decide +kernel), List.mem_of_getElem? (i := 687) (by decide +kernel)⟩
theorem lw_p27 : lw_okq (⟨"LossHouse", "mixFactors", "(J)J"⟩, 15) := ⟨⟨by decide +kernel, by decide +kernel⟩, List.mem_of_getElem? (i := 37) (by decide +kernel), List.mem_of_getElem? (i := 690) (by decide +kernel), List.mem_of_getElem? (i := 691) (by decide +kernel)⟩
theorem lw_p28 : lw_okq (⟨"LossHouse$Tokens", "endOf", "(LLossHouse$Tape;I)I"⟩, 5) := ⟨⟨by decide +kernel, by decide +kernel⟩, List.mem_of_getElem? (i := 61) (by decide +kernel), List.mem_of_getElem? (i := 797) (by decide +kernel), List.mem_of_getElem? (i := 798) (by decide +kernel)⟩
theorem lw_p29 : lw_okq (⟨"LossHouse$Tokens", "keyword", "(LLossHouse$Tape;II)LLossHouse$Sign;"⟩, 5) := ⟨⟨by decide +kernel, by decide +kernel⟩, List.mem_of_getElem? (i := 61) (by decide +kernel), List.mem_of_getElem? (i := 819) (by decide +kernel), List.mem_of_getElem? (i := 820) (by decide +kernel)⟩
theorem lw_p30 : lw_okq (⟨"LossHouse$Tokens", "signOf", "(LLossHouse$Tape;II)LLossHouse$Sign;"⟩, 5) := ⟨⟨by decide +kernel, by decide +kernel⟩, List.mem_of_getElem? (i := 61) (by decide +kernel), List.mem_of_getElem? (i := 832) (by decide +kernel), List.mem_of_getElem? (i := 833) (by decide +kernel)⟩
theorem lw_p31 : lw_okq (⟨"LossHouse$Parser", "takes", "(LLossHouse$Sign;)Z"⟩, 6) := ⟨⟨by decide +kernel, by decide +kernel⟩, List.mem_of_getElem? (i := 88) (by decide +kernel), List.mem_of_getElem? (i := 863) (by decide +kernel), List.mem_of_getElem? (i := 864) (by decide +kernel)⟩
def lw_privs_2 : List (MethodName × Nat) := [(⟨"LossHouse", "isYearSoFar", "(I)Z"⟩, 15), (⟨"LossHouse", "fillTriangle", "(I)V"⟩, 15), (⟨"LossHouse", "tellAmountsAt", "(IZ)V"⟩, 15), (⟨"LossHouse$Triangle", "grown", "(JII)I"⟩, 2), (⟨"LossHouse", "isMethod", "(I)Z"⟩, 15), (⟨"LossHouse", "reserveOf", "(II)I"⟩, 15), (⟨"LossHouse", "isReserve", "(I)Z"⟩, 15), (⟨"LossHouse", "mix", "(JJ)J"⟩, 15), (⟨"LossHouse", "mixLayers", "(J)J"⟩, 15), (⟨"LossHouse", "mixClaims", "(J)J"⟩, 15), (⟨"LossHouse", "mixYears", "(J)J"⟩, 15), (⟨"LossHouse", "mixFactors", "(J)J"⟩, 15), (⟨"LossHouse$Tokens", "endOf", "(LLossHouse$Tape;I)I"⟩, 5), (⟨"LossHouse$Tokens", "keyword", "(LLossHouse$Tape;II)LLossHouse$Sign;"⟩, 5), (⟨"LossHouse$Tokens", "signOf", "(LLossHouse$Tape;II)LLossHouse$Sign;"⟩, 5), (⟨"LossHouse$Parser", "takes", "(LLossHouse$Sign;)Z"⟩, 6)]
theorem lw_r2 : ∀ q ∈ lw_privs_2, lw_okq q := List.forall_mem_cons.mpr ⟨lw_p16, List.forall_mem_cons.mpr ⟨lw_p17, List.forall_mem_cons.mpr ⟨lw_p18, List.forall_mem_cons.mpr ⟨lw_p19, List.forall_mem_cons.mpr ⟨lw_p20, List.forall_mem_cons.mpr ⟨lw_p21, List.forall_mem_cons.mpr ⟨lw_p22, List.forall_mem_cons.mpr ⟨lw_p23, List.forall_mem_cons.mpr ⟨lw_p24, List.forall_mem_cons.mpr ⟨lw_p25, List.forall_mem_cons.mpr ⟨lw_p26, List.forall_mem_cons.mpr ⟨lw_p27, List.forall_mem_cons.mpr ⟨lw_p28, List.forall_mem_cons.mpr ⟨lw_p29, List.forall_mem_cons.mpr ⟨lw_p30, List.forall_mem_cons.mpr ⟨lw_p31, fun _ h => absurd h List.not_mem_nil⟩⟩⟩⟩⟩⟩⟩⟩⟩⟩⟩⟩⟩⟩⟩⟩
theorem lw_p32 : lw_okq (⟨"LossHouse$Parser", "readLayer", "()LLossHouse$Layer;"⟩, 6) := ⟨⟨by decide +kernel, by decide +kernel⟩, List.mem_of_getElem? (i := 88) (by decide +kernel), List.mem_of_getElem? (i := 867) (by decide +kernel), List.mem_of_getElem? (i := 868) (by decide +kernel)⟩
theorem lw_p33 : lw_okq (⟨"LossHouse$Parser", "need", "(LLossHouse$Sign;)V"⟩, 6) := ⟨⟨by decide +kernel, by decide +kernel⟩, List.mem_of_getElem? (i := 88) (by decide +kernel), List.mem_of_getElem? (i := 872) (by decide +kernel), List.mem_of_getElem? (i := 873) (by decide +kernel)⟩
theorem lw_p34 : lw_okq (⟨"LossHouse$Parser", "readSum", "()LLossHouse$Formula;"⟩, 6) := ⟨⟨by decide +kernel, by decide +kernel⟩, List.mem_of_getElem? (i := 88) (by decide +kernel), List.mem_of_getElem? (i := 876) (by decide +kernel), List.mem_of_getElem? (i := 877) (by decide +kernel)⟩
theorem lw_p35 : lw_okq (⟨"LossHouse$Parser", "sum", "(I)V"⟩, 6) := ⟨⟨by decide +kernel, by decide +kernel⟩, List.mem_of_getElem? (i := 88) (by decide +kernel), List.mem_of_getElem? (i := 880) (by decide +kernel), List.mem_of_getElem? (i := 881) (by decide +kernel)⟩
theorem lw_p36 : lw_okq (⟨"LossHouse$Parser", "product", "(I)V"⟩, 6) := ⟨⟨by decide +kernel, by decide +kernel⟩, List.mem_of_getElem? (i := 88) (by decide +kernel), List.mem_of_getElem? (i := 884) (by decide +kernel), List.mem_of_getElem? (i := 885) (by decide +kernel)⟩
theorem lw_p37 : lw_okq (⟨"LossHouse$Parser", "value", "(I)V"⟩, 6) := ⟨⟨by decide +kernel, by decide +kernel⟩, List.mem_of_getElem? (i := 88) (by decide +kernel), List.mem_of_getElem? (i := 888) (by decide +kernel), List.mem_of_getElem? (i := 889) (by decide +kernel)⟩
theorem lw_p38 : lw_okq (⟨"LossHouse$Parser", "step", "(LLossHouse$Sign;I)V"⟩, 6) := ⟨⟨by decide +kernel, by decide +kernel⟩, List.mem_of_getElem? (i := 88) (by decide +kernel), List.mem_of_getElem? (i := 903) (by decide +kernel), List.mem_of_getElem? (i := 904) (by decide +kernel)⟩
theorem lw_p39 : lw_okq (⟨"LossHouse$Parser", "takesDeeper", "(LLossHouse$Sign;I)Z"⟩, 6) := ⟨⟨by decide +kernel, by decide +kernel⟩, List.mem_of_getElem? (i := 88) (by decide +kernel), List.mem_of_getElem? (i := 909) (by decide +kernel), List.mem_of_getElem? (i := 910) (by decide +kernel)⟩
theorem lw_p40 : lw_okq (⟨"LossHouse$Parser", "pair", "(I)V"⟩, 6) := ⟨⟨by decide +kernel, by decide +kernel⟩, List.mem_of_getElem? (i := 88) (by decide +kernel), List.mem_of_getElem? (i := 923) (by decide +kernel), List.mem_of_getElem? (i := 924) (by decide +kernel)⟩
theorem lw_p41 : lw_okq (⟨"LossHouse$Parser", "needEach", "(LLossHouse$Sign;LLossHouse$Sign;)V"⟩, 6) := ⟨⟨by decide +kernel, by decide +kernel⟩, List.mem_of_getElem? (i := 88) (by decide +kernel), List.mem_of_getElem? (i := 1018) (by decide +kernel), List.mem_of_getElem? (i := 1019) (by decide +kernel)⟩
theorem lw_p42 : lw_okq (⟨"LossHouse$Parser", "readTest", "()LLossHouse$Formula;"⟩, 6) := ⟨⟨by decide +kernel, by decide +kernel⟩, List.mem_of_getElem? (i := 88) (by decide +kernel), List.mem_of_getElem? (i := 1028) (by decide +kernel), List.mem_of_getElem? (i := 1029) (by decide +kernel)⟩
theorem lw_p43 : lw_okq (⟨"LossHouse$Parser", "test", "(I)V"⟩, 6) := ⟨⟨by decide +kernel, by decide +kernel⟩, List.mem_of_getElem? (i := 88) (by decide +kernel), List.mem_of_getElem? (i := 1032) (by decide +kernel), List.mem_of_getElem? (i := 1033) (by decide +kernel)⟩
theorem lw_p44 : lw_okq (⟨"LossHouse$Parser", "both", "(I)V"⟩, 6) := ⟨⟨by decide +kernel, by decide +kernel⟩, List.mem_of_getElem? (i := 88) (by decide +kernel), List.mem_of_getElem? (i := 1036) (by decide +kernel), List.mem_of_getElem? (i := 1037) (by decide +kernel)⟩
theorem lw_p45 : lw_okq (⟨"LossHouse$Parser", "single", "(I)V"⟩, 6) := ⟨⟨by decide +kernel, by decide +kernel⟩, List.mem_of_getElem? (i := 88) (by decide +kernel), List.mem_of_getElem? (i := 1040) (by decide +kernel), List.mem_of_getElem? (i := 1041) (by decide +kernel)⟩
theorem lw_p46 : lw_okq (⟨"java/util/ArrayList", "add", "(Ljava/lang/Object;[Ljava/lang/Object;I)V"⟩, 3) := ⟨⟨by decide +kernel, by decide +kernel⟩, List.mem_of_getElem? (i := 135) (by decide +kernel), List.mem_of_getElem? (i := 1073) (by decide +kernel), List.mem_of_getElem? (i := 1074) (by decide +kernel)⟩
theorem lw_p47 : lw_okq (⟨"java/util/ArrayList", "grow", "()[Ljava/lang/Object;"⟩, 3) := ⟨⟨by decide +kernel, by decide +kernel⟩, List.mem_of_getElem? (i := 135) (by decide +kernel), List.mem_of_getElem? (i := 1077) (by decide +kernel), List.mem_of_getElem? (i := 1078) (by decide +kernel)⟩
def lw_privs_3 : List (MethodName × Nat) := [(⟨"LossHouse$Parser", "readLayer", "()LLossHouse$Layer;"⟩, 6), (⟨"LossHouse$Parser", "need", "(LLossHouse$Sign;)V"⟩, 6), (⟨"LossHouse$Parser", "readSum", "()LLossHouse$Formula;"⟩, 6), (⟨"LossHouse$Parser", "sum", "(I)V"⟩, 6), (⟨"LossHouse$Parser", "product", "(I)V"⟩, 6), (⟨"LossHouse$Parser", "value", "(I)V"⟩, 6), (⟨"LossHouse$Parser", "step", "(LLossHouse$Sign;I)V"⟩, 6), (⟨"LossHouse$Parser", "takesDeeper", "(LLossHouse$Sign;I)Z"⟩, 6), (⟨"LossHouse$Parser", "pair", "(I)V"⟩, 6), (⟨"LossHouse$Parser", "needEach", "(LLossHouse$Sign;LLossHouse$Sign;)V"⟩, 6), (⟨"LossHouse$Parser", "readTest", "()LLossHouse$Formula;"⟩, 6), (⟨"LossHouse$Parser", "test", "(I)V"⟩, 6), (⟨"LossHouse$Parser", "both", "(I)V"⟩, 6), (⟨"LossHouse$Parser", "single", "(I)V"⟩, 6), (⟨"java/util/ArrayList", "add", "(Ljava/lang/Object;[Ljava/lang/Object;I)V"⟩, 3), (⟨"java/util/ArrayList", "grow", "()[Ljava/lang/Object;"⟩, 3)]
theorem lw_r3 : ∀ q ∈ lw_privs_3, lw_okq q := List.forall_mem_cons.mpr ⟨lw_p32, List.forall_mem_cons.mpr ⟨lw_p33, List.forall_mem_cons.mpr ⟨lw_p34, List.forall_mem_cons.mpr ⟨lw_p35, List.forall_mem_cons.mpr ⟨lw_p36, List.forall_mem_cons.mpr ⟨lw_p37, List.forall_mem_cons.mpr ⟨lw_p38, List.forall_mem_cons.mpr ⟨lw_p39, List.forall_mem_cons.mpr ⟨lw_p40, List.forall_mem_cons.mpr ⟨lw_p41, List.forall_mem_cons.mpr ⟨lw_p42, List.forall_mem_cons.mpr ⟨lw_p43, List.forall_mem_cons.mpr ⟨lw_p44, List.forall_mem_cons.mpr ⟨lw_p45, List.forall_mem_cons.mpr ⟨lw_p46, List.forall_mem_cons.mpr ⟨lw_p47, fun _ h => absurd h List.not_mem_nil⟩⟩⟩⟩⟩⟩⟩⟩⟩⟩⟩⟩⟩⟩⟩⟩
theorem lw_p48 : lw_okq (⟨"java/util/ArrayList", "grow", "(I)[Ljava/lang/Object;"⟩, 3) := ⟨⟨by decide +kernel, by decide +kernel⟩, List.mem_of_getElem? (i := 135) (by decide +kernel), List.mem_of_getElem? (i := 1081) (by decide +kernel), List.mem_of_getElem? (i := 1082) (by decide +kernel)⟩
theorem lw_p49 : lw_okq (⟨"LossHouse$Checker", "errorOf", "(ILjava/util/List;)I"⟩, 4) := ⟨⟨by decide +kernel, by decide +kernel⟩, List.mem_of_getElem? (i := 116) (by decide +kernel), List.mem_of_getElem? (i := 1138) (by decide +kernel), List.mem_of_getElem? (i := 1139) (by decide +kernel)⟩
theorem lw_p50 : lw_okq (⟨"LossHouse$Checker", "nameLayer", "(J)I"⟩, 4) := ⟨⟨by decide +kernel, by decide +kernel⟩, List.mem_of_getElem? (i := 116) (by decide +kernel), List.mem_of_getElem? (i := 1149) (by decide +kernel), List.mem_of_getElem? (i := 1150) (by decide +kernel)⟩
theorem lw_p51 : lw_okq (⟨"LossHouse$Checker", "layerNamed", "(JI)I"⟩, 4) := ⟨⟨by decide +kernel, by decide +kernel⟩, List.mem_of_getElem? (i := 116) (by decide +kernel), List.mem_of_getElem? (i := 1153) (by decide +kernel), List.mem_of_getElem? (i := 1154) (by decide +kernel)⟩
theorem lw_p52 : lw_okq (⟨"LossHouse$Checker", "netError", "(LLossHouse$Layer;J)I"⟩, 4) := ⟨⟨by decide +kernel, by decide +kernel⟩, List.mem_of_getElem? (i := 116) (by decide +kernel), List.mem_of_getElem? (i := 1162) (by decide +kernel), List.mem_of_getElem? (i := 1163) (by decide +kernel)⟩
theorem lw_p53 : lw_okq (⟨"LossHouse", "adopt", "(Ljava/util/List;)V"⟩, 15) := ⟨⟨by decide +kernel, by decide +kernel⟩, List.mem_of_getElem? (i := 37) (by decide +kernel), List.mem_of_getElem? (i := 1189) (by decide +kernel), List.mem_of_getElem? (i := 1190) (by decide +kernel)⟩
theorem lw_p54 : lw_okq (⟨"LossHouse$Layer", "boundOf", "(I)J"⟩, 14) := ⟨⟨by decide +kernel, by decide +kernel⟩, List.mem_of_getElem? (i := 955) (by decide +kernel), List.mem_of_getElem? (i := 1210) (by decide +kernel), List.mem_of_getElem? (i := 1211) (by decide +kernel)⟩
def lw_privs_4 : List (MethodName × Nat) := [(⟨"java/util/ArrayList", "grow", "(I)[Ljava/lang/Object;"⟩, 3), (⟨"LossHouse$Checker", "errorOf", "(ILjava/util/List;)I"⟩, 4), (⟨"LossHouse$Checker", "nameLayer", "(J)I"⟩, 4), (⟨"LossHouse$Checker", "layerNamed", "(JI)I"⟩, 4), (⟨"LossHouse$Checker", "netError", "(LLossHouse$Layer;J)I"⟩, 4), (⟨"LossHouse", "adopt", "(Ljava/util/List;)V"⟩, 15), (⟨"LossHouse$Layer", "boundOf", "(I)J"⟩, 14)]
theorem lw_r4 : ∀ q ∈ lw_privs_4, lw_okq q := List.forall_mem_cons.mpr ⟨lw_p48, List.forall_mem_cons.mpr ⟨lw_p49, List.forall_mem_cons.mpr ⟨lw_p50, List.forall_mem_cons.mpr ⟨lw_p51, List.forall_mem_cons.mpr ⟨lw_p52, List.forall_mem_cons.mpr ⟨lw_p53, List.forall_mem_cons.mpr ⟨lw_p54, fun _ h => absurd h List.not_mem_nil⟩⟩⟩⟩⟩⟩⟩
def lw_privs : List (MethodName × Nat) := lw_privs_1 ++ (lw_privs_2 ++ (lw_privs_3 ++ (lw_privs_4)))
def lw_tbl : List Cond := k2_sels lw_privs ++ tables_1
theorem lw_privs_ok : ∀ q ∈ lw_privs, lw_okq q := by
  show ∀ q ∈ lw_privs_1 ++ (lw_privs_2 ++ (lw_privs_3 ++ (lw_privs_4))), lw_okq q
  exact List.forall_mem_append.mpr ⟨lw_r1, List.forall_mem_append.mpr ⟨lw_r2, List.forall_mem_append.mpr ⟨lw_r3, lw_r4⟩⟩⟩
/-- the streams that the claim lets the run draw from -/
abbrev lw_cs : List Choice := [Jvm.Choice.named "NaN.bits"]
theorem lw_bits : nanBits ∈ lw_cs := by first | decide | exact List.mem_cons_self | simp [lw_cs, nanBits]
-- ===== end of PART A; then your names; then what follows =====
end
section
def va_AOA (ty : FieldType) (U : State) : Prop := (Cond.arrayOver (.array ty)).before #[] U = true
theorem va_AOA.use {ty : FieldType} {A : Array Value} {U : State} (h : va_AOA ty U) : (Cond.arrayOver (.array ty)).before A U = true := h
/-! ===== BEGIN new T[n][m]: the outer array a place, the inner ones among the pooled ===== -/
/-- f, but v at every address of l -/
def vr_up {α : Type} (f : Nat → α) (l : List Nat) (v : α) : Nat → α := fun a => if a ∈ l then v else f a
theorem vr_up_in {α : Type} {f : Nat → α} {l : List Nat} {v : α} {a : Nat} (h : a ∈ l) : vr_up f l v a = v := if_pos h
theorem vr_up_ne {α : Type} {f : Nat → α} {l : List Nat} {v : α} {a : Nat} (h : a ∉ l) : vr_up f l v a = f a := if_neg h
theorem vr_rows {L l : List Nat} {f : Nat → va_E} {e : va_E} (h : ∀ a, a ∈ l → a ∉ L) : va_pl L f ++ l.map (fun a => (a, e)) = va_pl (L ++ l) (vr_up f l e) := by
  unfold va_pl
  rw [List.map_append]
  congr 1
  · apply List.map_congr_left
    intro a ha
    rw [vr_up_ne (fun q => h a q ha)]
  · apply List.map_congr_left
    intro a ha
    rw [vr_up_in ha]
theorem vr_lay {X rows : va_W} {x : Nat × va_E} {pl : va_W} {D : va_G} {cl : List vw_C} {H : Heap} (hP : va_P D cl (((X ++ pl) ++ [x]) ++ rows) H) : va_P D cl ((X ++ [x]) ++ (pl ++ rows)) H := by
  rw [List.append_assoc (X ++ pl)] at hP
  have h := va_P.swap hP
  rw [← List.append_assoc X] at h
  have h2 := va_P.swap h
  rw [List.append_assoc (X ++ [x])] at h2
  exact h2
theorem vr_layD {X rows : va_W} {x : Nat × va_E} {pl : va_W} {A : Nat → Prop} (hD : va_D A (((X ++ pl) ++ [x]) ++ rows)) : va_D A ((X ++ [x]) ++ (pl ++ rows)) := by
  rw [List.append_assoc (X ++ pl)] at hD
  have h := va_D.swap hD
  rw [← List.append_assoc X] at h
  have h2 := va_D.swap h
  rw [List.append_assoc (X ++ [x])] at h2
  exact h2
theorem vr_outer (c : ClassId) (N h0 : Nat) : ∀ i : Nat, Jvm.Free.Multi.outerC c N h0 i = arrV c N (fun j => va_rf (if j < i then some (h0 + 1 + j) else none))
  | 0 => by
    show ({ cls := c, slots := Array.replicate N .null, vm := .none } : Cell) = _
    rw [arrV_new]
    refine congrArg (arrV c N) (funext fun j => ?_)
    simp [va_rf]
  | i + 1 => by
    show (Jvm.Free.Multi.outerC c N h0 i).setSlot i (.ref (h0 + 1 + i)) = _
    rw [vr_outer c N h0 i, arrV_store]
    refine congrArg (arrV c N) (funext fun j => ?_)
    by_cases e : j = i
    · subst e
      simp [updV, va_rf]
    · by_cases h : j < i
      · simp [updV, e, h, Nat.lt_succ_of_lt h]
      · simp [updV, e, h, show ¬ j < i + 1 by omega]
section VGM
variable {p : Program} {l : Launch} {e : Env} {R : Room} {s : State} {m : MethodId} {args : Array Value} {below : List Frame} {meth : Method} {c : Code} {H : Heap} {locs : List Loc} {cells slots : Nat} {Q : State → Prop}
variable {cc : ByteArray} {pc : Nat} {ls : Array Slot} {rest : List Value} {D : va_G} {cl : List vw_C} {A : Nat → Prop} {a : Nat} {tys : List (ClassId × FieldType)} {ws : va_W} {H0 : Heap}
theorem va_mna {X : va_W} {L : List Nat} {f : Nat → va_E} {cc : ByteArray} (hexec : p.tables.exec = Jvm.exec) (hb : c.code = cc) {own : String} {index : Nat} {ty : FieldType} {cy : ClassId} (hown : s.vm.findClass own = some m.cls) (hclink : (Cond.classLink own index ("[" ++ (FieldType.array ty).toString)).before args s = true) (hover : va_AOA ty s) (harr : (Cond.arrayClass ty).before args s = true) (hcy : s.vm.findClass (FieldType.array ty).toString = some cy)
    (hK : va_K D cl tys s) (hP : va_P D cl (X ++ va_pl L f) H) (hD : va_D A (X ++ va_pl L f)) (hS : va_S A H0 H locs) (hA : ∀ q, H0.size ≤ q → A q) {n k : Int32} {N' K' : Nat} {z : vp_A} (hn : ¬ n < 0) (hk : ¬ k < 0) (hN : n.toNatClampNeg = N') (hM : k.toNatClampNeg = K')
    (hb1 : N' * 4 ≤ 536870912) (hb2 : K' * componentBytes ty ≤ 536870912) (hb3 : K' ≤ 536870912) (hdf : fits ty (defaultValue ty) = true) (hdd : (defaultValue ty).isDefault = true) (hcells : cells + (1 + N') ≤ R.cells) (hslots : slots + (N' + N' * K') ≤ R.slots) (hz : ∀ c : ClassId, Jvm.Free.Multi.innerC c K' (defaultValue ty) = vp_cell c z) (hdg : decode cc pc = .ok (.multianewarray index 2, 4))
    (kk : ∀ (q : Nat) (r : Nat → Nat) (cA : ClassId) (H1 : Heap), (∀ i j : Nat, i < N' → j < N' → r i = r j → i = j) → (∀ i : Nat, i < N' → r i ∉ L) → va_K D cl (tys ++ [(cA, .array ty)]) s →
      va_P D cl ((X ++ [(q, .inl (cA, N', .inr (.inr (.inr (.inr (fun i => if i < N' then some (r i) else none))))))]) ++ va_pl (L ++ (List.range N').map r) (vr_up f ((List.range N').map r) (.inl (cy, z)))) H1 → va_D A ((X ++ [(q, .inl (cA, N', .inr (.inr (.inr (.inr (fun i => if i < N' then some (r i) else none))))))]) ++ va_pl (L ++ (List.range N').map r) (vr_up f ((List.range N').map r) (.inl (cy, z)))) → va_S A H0 H1 locs →
      W p l e R s m args below meth c H1 locs (cells + 1 + N') (slots + N' + N' * K') Q (F0 m (pc + 4) ls (.ref q :: rest))) : W p l e R s m args below meth c H locs cells slots Q (F0 m pc ls (.int k :: .int n :: rest)) := by
  subst hN
  subst hM
  intro T hT Xs
  obtain ⟨vm₁, cA, comp, -, fA, fC, hO, -, X', step⟩ := Xs.multianewarray2F hexec hown hclink (va_AOA.use hover) harr (g := F0 m pc ls (.int k :: .int n :: rest)) rfl (by rw [hb]; exact hdg) rfl hn hk hb1 hb2 hb3 hdf hdd hcells hslots
  have ec : some cy = some comp := hcy.symm.trans fC
  cases ec
  generalize hF : Jvm.Free.Multi.fill (T.setVm vm₁) cA cy n.toNatClampNeg k.toNatClampNeg (defaultValue ty) n.toNatClampNeg = F at X' step
  have hTh : (T.setVm vm₁).heap = H := hT
  obtain ⟨f1, f2, -, -⟩ := Jvm.Free.Multi.fill_facts (T.setVm vm₁) cA cy n.toNatClampNeg k.toNatClampNeg (defaultValue ty) n.toNatClampNeg
  rw [hF, hTh] at f1 f2
  have hold : ∀ x : Nat, x < H.size → F.heap[x]? = H[x]? := fun x hx => by
    have := Jvm.Free.Multi.fill_old (T.setVm vm₁) cA cy n.toNatClampNeg k.toNatClampNeg (defaultValue ty) (a := x) (by rw [hTh]; exact hx) n.toNatClampNeg
    rw [hF, hTh] at this
    exact this
  have hrow : ∀ j : Nat, j < n.toNatClampNeg → F.heap[H.size + 1 + j]? = some (vp_cell cy z) := fun j hj => by
    have := Jvm.Free.Multi.fill_inner (T.setVm vm₁) cA cy n.toNatClampNeg k.toNatClampNeg (defaultValue ty) n.toNatClampNeg j hj
    rw [hF, hTh, hz] at this
    exact this
  have hout : Jvm.Free.Multi.outerC cA n.toNatClampNeg H.size n.toNatClampNeg = vp_cell cA (n.toNatClampNeg, .inr (.inr (.inr (.inr (fun i => if i < n.toNatClampNeg then some (H.size + 1 + i) else none))))) := by
    rw [vp_cell_q]
    exact vr_outer cA n.toNatClampNeg H.size n.toNatClampNeg
  rw [hout] at f2
  have hlt : ∀ a, a ∈ L → a < H.size := fun a ha => by
    obtain ⟨k9, hk9⟩ := va_pl_get (X := X) (f := f) ha
    exact (hP k9 _ hk9).lt
  have hnl : ∀ i : Nat, i < n.toNatClampNeg → H.size + 1 + i ∉ L := fun i _ h => by
    have := hlt _ h
    omega
  have hnm : ∀ a, a ∈ (List.range n.toNatClampNeg).map (fun i => H.size + 1 + i) → a ∉ L := fun a ha h => by
    obtain ⟨i, -, rfl⟩ := List.mem_map.mp ha
    have := hlt _ h
    omega
  have hP0 : va_P D cl (X ++ va_pl L f) F.heap := hP.kept (fun k9 x hx => hold x.1 ((hP k9 x hx).lt))
  have hP1 : va_P D cl ((X ++ va_pl L f) ++ [(H.size, .inl (cA, n.toNatClampNeg, .inr (.inr (.inr (.inr (fun i => if i < n.toNatClampNeg then some (H.size + 1 + i) else none))))))]) F.heap := hP0.app (fun k9 x hx => by
    have h0 : k9 < 1 := (List.getElem?_eq_some_iff.mp hx).1
    rw [show k9 = 0 by omega] at hx
    cases hx
    exact f2)
  have hP2 : va_P D cl (((X ++ va_pl L f) ++ [(H.size, .inl (cA, n.toNatClampNeg, .inr (.inr (.inr (.inr (fun i => if i < n.toNatClampNeg then some (H.size + 1 + i) else none))))))]) ++ ((List.range n.toNatClampNeg).map (fun i => H.size + 1 + i)).map (fun a => (a, .inl (cy, z)))) F.heap := hP1.app (fun k9 x hx => by
    obtain ⟨a, ha, rfl⟩ := List.mem_map.mp (List.mem_of_getElem? hx)
    obtain ⟨i, hi, rfl⟩ := List.mem_map.mp ha
    exact hrow i (List.mem_range.mp hi))
  have hD2 : va_D A (((X ++ va_pl L f) ++ [(H.size, .inl (cA, n.toNatClampNeg, .inr (.inr (.inr (.inr (fun i => if i < n.toNatClampNeg then some (H.size + 1 + i) else none))))))]) ++ ((List.range n.toNatClampNeg).map (fun i => H.size + 1 + i)).map (fun a => (a, .inl (cy, z)))) := by
    have hD1 := hD.push (e := .inl (cA, n.toNatClampNeg, .inr (.inr (.inr (.inr (fun i => if i < n.toNatClampNeg then some (H.size + 1 + i) else none)))))) hP rfl (hA _ hS.1)
    generalize hW1 : (X ++ va_pl L f) ++ [(H.size, .inl (cA, n.toNatClampNeg, .inr (.inr (.inr (.inr (fun i => if i < n.toNatClampNeg then some (H.size + 1 + i) else none))))))] = W1 at hD1 hP1 ⊢
    have hle : ∀ (k9 : Nat) (x : Nat × va_E), W1[k9]? = some x → x.1 ≤ H.size := fun k9 x hx => by
      rw [← hW1] at hx
      by_cases hl : k9 < (X ++ va_pl L f).length
      · rw [List.getElem?_append_left hl] at hx
        exact Nat.le_of_lt ((hP k9 x hx).lt)
      · rw [List.getElem?_append_right (by omega)] at hx
        have h0 : k9 - (X ++ va_pl L f).length < 1 := (List.getElem?_eq_some_iff.mp hx).1
        rw [show k9 - (X ++ va_pl L f).length = 0 by omega] at hx
        cases hx
        exact Nat.le_refl _
    have hr : ∀ (k9 : Nat) (x : Nat × va_E), (((List.range n.toNatClampNeg).map (fun i => H.size + 1 + i)).map (fun a => ((a, .inl (cy, z)) : Nat × va_E)))[k9]? = some x → x.1 = H.size + 1 + k9 := fun k9 x hx => by
      rw [List.getElem?_map, List.getElem?_map] at hx
      by_cases h9 : k9 < n.toNatClampNeg
      · rw [List.getElem?_range h9] at hx
        cases hx
        rfl
      · have hn0 : (List.range n.toNatClampNeg)[k9]? = none := List.getElem?_eq_none (by rw [List.length_range]; omega)
        rw [hn0] at hx
        cases hx
    refine ⟨fun i j x y hi hj hxy => ?_, fun k9 x hx => ?_⟩
    · by_cases h1 : i < W1.length <;> by_cases h2 : j < W1.length
      · rw [List.getElem?_append_left h1] at hi
        rw [List.getElem?_append_left h2] at hj
        exact hD1.1 i j x y hi hj hxy
      · rw [List.getElem?_append_left h1] at hi
        rw [List.getElem?_append_right (by omega)] at hj
        have := hle _ _ hi
        have := hr _ _ hj
        omega
      · rw [List.getElem?_append_right (by omega)] at hi
        rw [List.getElem?_append_left h2] at hj
        have := hle _ _ hj
        have := hr _ _ hi
        omega
      · rw [List.getElem?_append_right (by omega)] at hi hj
        have := hr _ _ hi
        have := hr _ _ hj
        omega
    · by_cases h1 : k9 < W1.length
      · rw [List.getElem?_append_left h1] at hx
        exact hD1.2 k9 x hx
      · rw [List.getElem?_append_right (by omega)] at hx
        have := hr _ _ hx
        exact hA _ (by have := hS.1; omega)
  have hAr : ArrOfT s cA (.array ty) := fun N9 z9 => by
    obtain ⟨-, k9, hk9, cm9, hkk9⟩ := (hO 0 0 0).1
    exact ⟨(fun q hq => by cases hq), k9, hk9, cm9, hkk9⟩
  have hK2 : va_K D cl (tys ++ [(cA, .array ty)]) s := ⟨hK.1, fun k9 x hx => by
    by_cases hl : k9 < tys.length
    · rw [List.getElem?_append_left hl] at hx
      exact hK.2 k9 x hx
    · rw [List.getElem?_append_right (by omega)] at hx
      have h0 : k9 - tys.length < 1 := (List.getElem?_eq_some_iff.mp hx).1
      rw [show k9 - tys.length = 0 by omega] at hx
      cases hx
      exact ⟨hAr, fA⟩⟩
  obtain ⟨t, a1, b1⟩ := kk H.size (fun i => H.size + 1 + i) cA F.heap (fun i j _ _ h => by have h9 : H.size + 1 + i = H.size + 1 + j := h; omega) hnl hK2 (by rw [← vr_rows hnm]; exact vr_lay hP2) (by rw [← vr_rows hnm]; exact vr_layD hD2) ⟨by rw [f1]; have := hS.1; omega, fun x h1 h2 => (hold x (Nat.lt_of_lt_of_le h1 hS.1)).trans (hS.2.1 x h1 h2), hS.2.2⟩ F rfl X'
  refine ⟨t, step t ?_, b1⟩
  have e : T.heap.size = H.size := by rw [hT]
  rw [e]
  exact a1
end VGM
/-! ===== END ===== -/

/-! ===== BEGIN exceptions that leave a method, and their catching by the caller (launches without stack traces) ===== -/
section VXA
/-! The laws vx_back, vx_callV, vx_callS, vx_callSW, vx_throw0, vx_throwS follow proofs of the library, with one case more: JvmDerived/Free/Laws.lean (Back.of_free), Shelf42/LK1.lean (callV, callS), Shelf/KitTraced.lean (throwNew0V, throwNewS). -/
/-- where a method has thrown q: the class by its name, the cell, what was written, the world -/
def vx_T (XC : String → State → State → Prop) (st : State) (q : Addr) (t : State) (mc ms : Nat) (free : Addr → Prop) : Prop :=
  ∃ (E : String) (ce : Cell) (L : List Loc), XC E st t ∧ t.heap[q]? = some ce ∧ ce.vm = .none ∧ st.vm.findClass E = some ce.cls ∧ st.WarmedH t.vm ∧ st.sameButNew ({ t with vm := st.vm } : State) L mc ms ∧ ∀ z ∈ L, free z.base
def vx_Q (Qc : Array Value → State → Outcome → State → Prop) (XC : String → State → State → Prop) (mc ms : Nat) (free : Addr → Prop) : Array Value → State → Outcome → State → Prop := fun a st o t =>
  (Qc a st o t ∧ ∃ L, FrameEnd st o t L mc ms ∧ ∀ q ∈ L, free q.base) ∨ ∃ q, o = .threw q ∧ vx_T XC st q t mc ms free
/-- a callee that returns or throws -/
def vx_Met (l : Launch) (y : MethodName) (ws : List Cond) (rm : Room) (Pc : Array Value → State → Prop) (Qc : Array Value → State → Outcome → State → Prop) (XC : String → State → State → Prop) (mc ms : Nat) (free : Addr → Prop) : Prop :=
  MetFree l y (headSpec ws rm) Pc (fun _ _ _ _ _ => True) (vx_Q Qc XC mc ms free)
def vx_Post (XC : String → State → State → Prop) (mc ms : Nat) (free : Addr → Prop) : Pt → Array Value → Addr → Pt → Prop := fun A a q B =>
  ∃ (g : JFrame) (mk : MethodId) (t : State) (L : List Loc) (E : String) (ce : Cell), B.U.heap = t.heap ∧ B.U.vm = t.vm ∧ XC E (A.U.calling g mk a) t ∧ t.heap[q]? = some ce ∧ ce.vm = .none ∧ A.U.vm.findClass E = some ce.cls ∧ B.locs = A.locs ++ L ∧ (∀ z ∈ L, free z.base) ∧ B.cells = A.cells + mc ∧ B.slots = A.slots + ms
def vx_Back (l : Launch) (R : Room) (p : Program) (e : Env) (below : List Frame) (s : State) (sargs : Array Value) (y : MethodName) (len W9 : Nat)
    (Pre : Pt → Array Value → Prop) (Post : Pt → Array Value → Option Value → Pt → Prop) (PostX : Pt → Array Value → Addr → Pt → Prop) : Prop :=
  ∀ (m : MethodId) (meth : Method) (c : Code) (A : Pt) (g : JFrame) (ig : Instr) (mk : MethodId) (a : Array Value),
    Stand p l e R s m sargs below meth c A.U A.locs A.cells A.slots → g.method = m → g.locals.size = c.maxLocals → decode c.code g.pc = .ok (ig, len) →
    2 * g.monitorRoom + (g.stack.map fun v => v.category).sum ≤ W9 → A.U.methodNamed? y = some mk → Pre A a →
    (∃ (v : Option Value) (B : Pt), Stand p l e R s m sargs below meth c B.U B.locs B.cells B.slots ∧ Post A a v B ∧
      Steps p.tables e below (doInvoke e (A.U.setTop g) [] mk a).1 (B.U.setTop { g with pc := g.pc + len, stack := v.toList ++ g.stack })) ∨
    (∃ (q : Addr) (B : Pt), Stand p l e R s m sargs below meth c B.U B.locs B.cells B.slots ∧ PostX A a q B ∧
      Steps p.tables e below (doInvoke e (A.U.setTop g) [] mk a).1 ((B.U.setTop g).pushFrame (.throwing q)))
section Payer
variable {l : Launch} {R : Room} {p : Program} {e : Env} {below : List Frame} {s : State} {sargs : Array Value} {y : MethodName} {len W9 : Nat}
theorem vx_back {ws : List Cond} {rm : Room} {Pc : Array Value → State → Prop} {Qc : Array Value → State → Outcome → State → Prop} {XC : String → State → State → Prop} {mc ms : Nat} {free : Addr → Prop} {bytes : ByteArray} {maxL : Nat} {ret : Option FieldType}
    (hM : vx_Met l y ws rm Pc Qc XC mc ms free) (hblind : FrameBlind Pc) (hrc : rm.cells = mc) (hrs : rm.slots = ms)
    (hframes : rm.frames + 1 ≤ R.frames) (hlocals : W9 + (maxL + 11) + rm.locals ≤ R.locals)
    (hws : ∀ w ∈ ws, ∀ a' U, s.WarmedH U.vm → w.before a' U = true) (hcode : Cond.code y bytes maxL ret ∈ ws) (hinit : ∀ a' U, s.WarmedH U.vm → (Cond.initialized y.cls).before a' U = true) :
    vx_Back l R p e below s sargs y len W9 (PreOf R mc ms Pc) (PostOf Qc mc ms free) (vx_Post XC mc ms free) := by
  intro m meth c A g ig mk a X hg hsize hdg hW hn hp
  have h1 : (headSpec ws rm).pre.before a A.U = true := atoms_intro fun w hw => hws w hw _ _ X.warmed
  have h2 : (Cond.code y bytes maxL ret).before a A.U = true := hws _ hcode _ _ X.warmed
  have h3 : (Cond.initialized y.cls).before a A.U = true := hinit _ _ X.warmed
  have h4 : A.cells + (headSpec ws rm).room.cells ≤ R.cells := by rw [show (headSpec ws rm).room.cells = mc from hrc]; exact hp.1
  have h5 : A.slots + (headSpec ws rm).room.slots ≤ R.slots := by rw [show (headSpec ws rm).room.slots = ms from hrs]; exact hp.2.1
  have hPc : Pc a (A.U.calling g mk a) := hblind _ _ _ _ hp.2.2
  obtain ⟨U, Ls, c0, s0⟩ := A
  dsimp only [Pt.U, Pt.locs, Pt.cells, Pt.slots] at h1 h2 h3 h4 h5 X hn hPc ⊢
  obtain ⟨methY, cY, hmY, hcY, -, hlY, -, -, -, -⟩ := Cond.code_spec hn h2
  obtain ⟨kY, hkY, -⟩ := className_of_methodNamed hn
  have hinitY : kY.init = .initialized := Cond.initialized_spec (findClass_of_methodNamed hn) hkY h3
  have h : At U g.method c below := by rw [hg]; exact X.here
  have hlocals9 : W9 + (maxL + 11) + (headSpec ws rm).room.locals ≤ R.locals := hlocals
  have happ : (headSpec ws rm).appliesLoose y e.platform (U.calling g mk a) = true :=
    Spec.appliesLoose_calling (g := g) h hdg hn hkY hinitY
      (X.room_calling (g := g) (R' := (headSpec ws rm).room) hsize hmY hcY hframes (by rw [hlY]; omega) h4 h5) h1
  obtain ⟨mid, hmid⟩ := h.above
  have hfr : (U.setTop g).frames = (.java g :: mid) ++ below := by rw [State.frames_setTop' g h.top, hmid]; rfl
  obtain ⟨o, s₂, hsteps, -, hend, hq⟩ := Steps.callFree hM p X.admits X.cas X.clock (acts := []) hfr happ hPc trivial
  have hq' : vx_Q Qc XC mc ms free a (U.calling g mk a) o s₂ := hq
  rw [State.frames_setTop' g h.top] at hend
  obtain ⟨g₀, hg0⟩ := Option.isSome_iff_exists.mp h.top
  obtain ⟨r, hr⟩ := State.topJava?_eq_some.mp hg0
  have hr' : (({ U with heap := s₂.heap, slotsUsed := s₂.slotsUsed } : State).setVm s₂.vm).frames = .java g₀ :: r := hr
  rcases hq' with ⟨hqc, L, hfe, hL⟩ | ⟨q, rfl, E, ce, L, hx, hce, hcv, hcl, hW₂, hsm, hL⟩
  · obtain ⟨⟨v, rfl⟩, hW₂, e2, q2, q3, q4, q5, q6⟩ := id hfe
    have e3 : s₂ = ({ (U.calling g mk a).setFrames s₂.frames with heap := s₂.heap, slotsUsed := s₂.slotsUsed } : State).setVm s₂.vm := by
      have : s₂ = ({ s₂ with vm := (U.calling g mk a).vm } : State).setVm s₂.vm := rfl
      rw [e2] at this
      exact this
    obtain ⟨c₂, i₂, len₂, hc₂, hd₂, hf₂⟩ := hend
    have hW' : U.WarmedH s₂.vm := hW₂
    have hcc : c₂ = c := by
      have h1 : s₂.code? g.method = U.code? g.method := by
        rw [State.code?_eq, State.code?_eq, hW'.alike.method?]
      exact Option.some.inj (hc₂.symm.trans (h1.trans h.code))
    subst hcc
    have hlen : len₂ = len := by rw [hdg] at hd₂; cases hd₂; rfl
    subst hlen
    have hs₂ : s₂ = (({ U with heap := s₂.heap, slotsUsed := s₂.slotsUsed } : State).setVm s₂.vm).setTop { g with pc := g.pc + len₂, stack := v.toList ++ g.stack } := by
      refine e3.trans ?_
      rw [hf₂, State.calling_eq h.top, State.setFrames_setFrames, State.setTop_of_frames _ hr', hr]
      rfl
    have hsame : U.sameButNew ({ U with heap := s₂.heap, slotsUsed := s₂.slotsUsed } : State) L mc ms := by
      refine ⟨?_, q2, q3, q4, q5, q6⟩
      obtain ⟨t, ht, -⟩ := State.frames_cons hr
      show ({ U with heap := s₂.heap, slotsUsed := s₂.slotsUsed } : State) = { U.setFrames U.frames with heap := s₂.heap, slotsUsed := s₂.slotsUsed }
      rw [State.setFrames_self ht]
    subst hg
    refine Or.inl ⟨v, ⟨(({ U with heap := s₂.heap, slotsUsed := s₂.slotsUsed } : State).setVm s₂.vm), Ls ++ L, c0 + mc, s0 + ms⟩,
      ⟨X.admits, X.cas, X.clock, X.frames, X.room, X.hears, X.method, X.code, (X.here.setHeapUsed s₂.heap s₂.slotsUsed).setVm hW'.alike, X.tail, State.WarmedH.trans X.warmed hW', X.limits, X.bytes, X.same.trans (hsame.setVm s.vm)⟩,
      ⟨g, mk, s₂, L, rfl, rfl, hqc, rfl, hL, rfl, rfl⟩, ?_⟩
    show Steps p.tables e below _ ((({ U with heap := s₂.heap, slotsUsed := s₂.slotsUsed } : State).setVm s₂.vm).setTop { g with pc := g.pc + len₂, stack := v.toList ++ g.stack })
    rw [← hs₂]
    exact hsteps
  · obtain ⟨e2, q2, q3, q4, q5, q6⟩ := id hsm
    have e3 : s₂ = ({ (U.calling g mk a).setFrames s₂.frames with heap := s₂.heap, slotsUsed := s₂.slotsUsed } : State).setVm s₂.vm := by
      have : s₂ = ({ s₂ with vm := (U.calling g mk a).vm } : State).setVm s₂.vm := rfl
      rw [e2] at this
      exact this
    have hf₂ : s₂.frames = .throwing q :: .java g :: U.frames.tail := hend
    have hW' : U.WarmedH s₂.vm := hW₂
    have hs₂ : s₂ = ((({ U with heap := s₂.heap, slotsUsed := s₂.slotsUsed } : State).setVm s₂.vm).setTop g).pushFrame (.throwing q) := by
      refine e3.trans ?_
      rw [hf₂, State.calling_eq h.top, State.setFrames_setFrames, State.pushFrame, State.frames_setTop _ hr', State.setTop_of_frames _ hr', State.setFrames_setFrames, hr]
      rfl
    have hsame : U.sameButNew ({ U with heap := s₂.heap, slotsUsed := s₂.slotsUsed } : State) L mc ms := by
      refine ⟨?_, q2, q3, q4, q5, q6⟩
      obtain ⟨t, ht, -⟩ := State.frames_cons hr
      show ({ U with heap := s₂.heap, slotsUsed := s₂.slotsUsed } : State) = { U.setFrames U.frames with heap := s₂.heap, slotsUsed := s₂.slotsUsed }
      rw [State.setFrames_self ht]
    subst hg
    refine Or.inr ⟨q, ⟨(({ U with heap := s₂.heap, slotsUsed := s₂.slotsUsed } : State).setVm s₂.vm), Ls ++ L, c0 + mc, s0 + ms⟩,
      ⟨X.admits, X.cas, X.clock, X.frames, X.room, X.hears, X.method, X.code, (X.here.setHeapUsed s₂.heap s₂.slotsUsed).setVm hW'.alike, X.tail, State.WarmedH.trans X.warmed hW', X.limits, X.bytes, X.same.trans (hsame.setVm s.vm)⟩,
      ⟨g, mk, s₂, L, E, ce, rfl, rfl, hx, hce, hcv, hcl, rfl, hL, rfl, rfl⟩, ?_⟩
    show Steps p.tables e below _ (((({ U with heap := s₂.heap, slotsUsed := s₂.slotsUsed } : State).setVm s₂.vm).setTop g).pushFrame (.throwing q))
    rw [← hs₂]
    exact hsteps
end Payer
section Calls
variable {p : Program} {l : Launch} {e : Env} {R : Room} {s : State} {m : MethodId} {args : Array Value} {below : List Frame} {meth : Method} {c : Code} {T : State} {locs : List Loc} {cells slots : Nat}
theorem vx_callV (X : Stand p l e R s m args below meth c T locs cells slots) (hexec : p.tables.exec = Jvm.exec) {own C : String} {index : Nat} {y : MethodName} {bytes : ByteArray} {maxL : Nat} {ret : Option FieldType}
    (hown : s.vm.findClass own = some m.cls) (hlink : (Cond.methodLink own index y).before args s = true) (hinst : (Cond.instanceMethod y).before args s = true) (hsel : (Cond.selects C y y).before args s = true)
    (hcode : (Cond.code y bytes maxL ret).before args s = true) (hy : y.cls ≠ "java/lang/invoke/MethodHandle" ∧ y.cls ≠ "java/lang/invoke/VarHandle")
    {W9 : Nat} {Pre : Pt → Array Value → Prop} {Post : Pt → Array Value → Option Value → Pt → Prop} {PostX : Pt → Array Value → Addr → Pt → Prop} (hK : vx_Back l R p e below s args y 3 W9 Pre Post PostX)
    {b : Addr} {cellB : Cell} (hcell : T.heap[b]? = some cellB) (hobj : cellB.vm.isStatics = false) (hcls : s.vm.findClass C = some cellB.cls)
    {g : JFrame} (hg : g.method = m) (hsize : g.locals.size = c.maxLocals) {argsL rest : List Value} (hlen : ∀ sig, parseMethodDescriptor y.desc = some sig → argsL.length = sig.parameters.length)
    (hstack : g.stack = argsL.reverse ++ .ref b :: rest) (hW : 2 * g.monitorRoom + (rest.map fun v => v.category).sum ≤ W9) (hdg : decode c.code g.pc = .ok (.invokevirtual index, 3))
    (hpre : ∀ vm₁, s.WarmedH vm₁ → Pre ⟨T.setVm vm₁, locs, cells, slots⟩ (Value.ref b :: argsL).toArray) :
    (∃ (v : Option Value) (vm₁ : Vm) (B : Pt), s.WarmedH vm₁ ∧ Stand p l e R s m args below meth c B.U B.locs B.cells B.slots ∧ Post ⟨T.setVm vm₁, locs, cells, slots⟩ (Value.ref b :: argsL).toArray v B ∧
      ∀ target, Steps p.tables e below (B.U.setTop { g with pc := g.pc + 3, stack := v.toList ++ rest }) target → Steps p.tables e below (T.setTop g) target) ∨
    (∃ (q : Addr) (vm₁ : Vm) (B : Pt), s.WarmedH vm₁ ∧ Stand p l e R s m args below meth c B.U B.locs B.cells B.slots ∧ PostX ⟨T.setVm vm₁, locs, cells, slots⟩ (Value.ref b :: argsL).toArray q B ∧
      Steps p.tables e below (T.setTop g) ((B.U.setTop { g with stack := rest }).pushFrame (.throwing q))) := by
  obtain ⟨mk, methM, hnamed, hmethM, hstM, habM⟩ := Cond.instanceMethod_spec hinst
  obtain ⟨methM', cM, hmethM', -, -, -, -, -, -, hsigM⟩ := Cond.code_spec hnamed hcode
  cases hmethM.symm.trans hmethM'
  obtain ⟨c2, r2, m2, q1, q2, q3, q4, kP, hkP, hkPi⟩ := Cond.selects_spec hsel
  cases hcls.symm.trans q1
  cases (State.methodFound?_of_named hnamed hy).symm.trans q2
  cases hnamed.symm.trans q3
  have hselP : selectMethod e.platform s.vm cellB.cls mk = .method mk := by rw [Launch.admits_selectMethod X.admits]; exact q4
  obtain ⟨vm₁, X₁, hstep₁⟩ := X.invokevirtual hexec hown hlink hnamed hmethM hstM hkP hkPi hy (a := b) (cell := cellB) hcell
    (fun z h => by rw [h] at hobj; cases hobj) hselP hmethM habM hkP hkPi (g := g) hg (argsL := argsL) (rest := rest) (hlen _ hsigM) hstack hdg
  rcases hK m meth c ⟨T.setVm vm₁, locs, cells, slots⟩ { g with stack := rest } (.invokevirtual index) mk (Value.ref b :: argsL).toArray X₁ hg hsize hdg hW (X₁.named hnamed) (hpre vm₁ X₁.warmed) with ⟨v, B, X', hpost, hsteps⟩ | ⟨q, B, X', hpost, hsteps⟩
  · exact Or.inl ⟨v, vm₁, B, X₁.warmed, X', hpost, fun target h => hstep₁ _ fun acts => by rw [doInvoke_state]; exact hsteps.trans h⟩
  · exact Or.inr ⟨q, vm₁, B, X₁.warmed, X', hpost, hstep₁ _ fun acts => by rw [doInvoke_state]; exact hsteps⟩
theorem vx_callS (X : Stand p l e R s m args below meth c T locs cells slots) (hexec : p.tables.exec = Jvm.exec) {own : String} {index : Nat} {y : MethodName} {bytes : ByteArray} {maxL : Nat} {ret : Option FieldType}
    (hown : s.vm.findClass own = some m.cls) (hlink : (Cond.methodLink own index y).before args s = true) (hstat : (Cond.static y).before args s = true) (hinit : (Cond.initialized y.cls).before args s = true)
    (hcode : (Cond.code y bytes maxL ret).before args s = true) (hy : y.cls ≠ "java/lang/invoke/MethodHandle" ∧ y.cls ≠ "java/lang/invoke/VarHandle")
    {W9 : Nat} {Pre : Pt → Array Value → Prop} {Post : Pt → Array Value → Option Value → Pt → Prop} {PostX : Pt → Array Value → Addr → Pt → Prop} (hK : vx_Back l R p e below s args y 3 W9 Pre Post PostX)
    {g : JFrame} (hg : g.method = m) (hsize : g.locals.size = c.maxLocals) {argsL rest : List Value} (hlen : ∀ sig, parseMethodDescriptor y.desc = some sig → argsL.length = sig.parameters.length)
    (hstack : g.stack = argsL.reverse ++ rest) (hW : 2 * g.monitorRoom + (rest.map fun v => v.category).sum ≤ W9) (hdg : decode c.code g.pc = .ok (.invokestatic index, 3))
    (hpre : ∀ vm₁, s.WarmedH vm₁ → Pre ⟨T.setVm vm₁, locs, cells, slots⟩ argsL.toArray) :
    (∃ (v : Option Value) (vm₁ : Vm) (B : Pt), s.WarmedH vm₁ ∧ Stand p l e R s m args below meth c B.U B.locs B.cells B.slots ∧ Post ⟨T.setVm vm₁, locs, cells, slots⟩ argsL.toArray v B ∧
      ∀ target, Steps p.tables e below (B.U.setTop { g with pc := g.pc + 3, stack := v.toList ++ rest }) target → Steps p.tables e below (T.setTop g) target) ∨
    (∃ (q : Addr) (vm₁ : Vm) (B : Pt), s.WarmedH vm₁ ∧ Stand p l e R s m args below meth c B.U B.locs B.cells B.slots ∧ PostX ⟨T.setVm vm₁, locs, cells, slots⟩ argsL.toArray q B ∧
      Steps p.tables e below (T.setTop g) ((B.U.setTop { g with stack := rest }).pushFrame (.throwing q))) := by
  obtain ⟨mk, hnamed⟩ := Cond.code_named hcode
  obtain ⟨methM, cM, hmethM, -, -, -, -, -, -, hsigM⟩ := Cond.code_spec hnamed hcode
  have hstatic : methM.isStatic = true := Cond.static_spec hnamed hmethM hstat
  obtain ⟨kP, hkP, -⟩ := className_of_methodNamed hnamed
  have hinitP : kP.init = .initialized := Cond.initialized_spec (findClass_of_methodNamed hnamed) hkP hinit
  obtain ⟨vm₁, X₁, hstep₁⟩ := X.invokestatic hexec hown hlink hnamed hmethM hstatic hkP hinitP hy (g := g) hg (argsL := argsL) (rest := rest) (hlen _ hsigM) hstack hdg
  rcases hK m meth c ⟨T.setVm vm₁, locs, cells, slots⟩ { g with stack := rest } (.invokestatic index) mk argsL.toArray X₁ hg hsize hdg hW (X₁.named hnamed) (hpre vm₁ X₁.warmed) with ⟨v, B, X', hpost, hsteps⟩ | ⟨q, B, X', hpost, hsteps⟩
  · exact Or.inl ⟨v, vm₁, B, X₁.warmed, X', hpost, fun target h => hstep₁ _ fun acts => by rw [doInvoke_state]; exact hsteps.trans h⟩
  · exact Or.inr ⟨q, vm₁, B, X₁.warmed, X', hpost, hstep₁ _ fun acts => by rw [doInvoke_state]; exact hsteps⟩
end Calls
theorem vx_cls {s : State} {T : State} {vm₁ : Vm} {E : String} {k : ClassId} (hW : s.WarmedH vm₁) (h : (T.setVm vm₁).vm.findClass E = some k) : s.vm.findClass E = some k := by
  have h1 : vm₁.findClass E = some k := h
  rw [hW.alike.findClass] at h1
  exact h1
/-- the method's frame g, with q thrown over it -/
def vx_W (p : Program) (l : Launch) (e : Env) (R : Room) (s : State) (m : MethodId) (args : Array Value) (below : List Frame) (meth : Method) (c : Code) (H : Heap) (locs : List Loc) (cells slots : Nat) (Q : State → Prop) (g : JFrame) (q : Addr) : Prop :=
  ∀ T : State, T.heap = H → Stand p l e R s m args below meth c T locs cells slots → ∃ t, Steps p.tables e below ((T.setTop g).pushFrame (.throwing q)) t ∧ Q t
def vx_Run (p : Program) (l : Launch) (e : Env) (R : Room) (s : State) (m : MethodId) (args : Array Value) (below : List Frame) (meth : Method) (c : Code) (H : Heap) (locs : List Loc) (cells slots mc ms : Nat) (g : JFrame) (rest : List Value) (Qa : State → Outcome → State → Prop) (XC : String → State → State → Prop) (free : Addr → Prop) : Prop :=
  ∀ T : State, T.heap = H → Stand p l e R s m args below meth c T locs cells slots →
    (∃ (v : Option Value) (st₀ t T' : State) (L : List Loc), st₀.heap = H ∧ Stand p l e R s m args below meth c T' (locs ++ L) (cells + mc) (slots + ms) ∧ (∀ q ∈ L, free q.base) ∧ T'.heap = t.heap ∧ T'.vm = t.vm ∧ Qa st₀ (.returned v) t ∧
      Goes p e below T g T' { g with pc := g.pc + 3, stack := v.toList ++ rest }) ∨
    (∃ (q : Addr) (st₀ t T' : State) (L : List Loc) (E : String) (ce : Cell), st₀.heap = H ∧ Stand p l e R s m args below meth c T' (locs ++ L) (cells + mc) (slots + ms) ∧ (∀ z ∈ L, free z.base) ∧ T'.heap = t.heap ∧ T'.vm = t.vm ∧ XC E st₀ t ∧ t.heap[q]? = some ce ∧ ce.vm = .none ∧ s.vm.findClass E = some ce.cls ∧
      Steps p.tables e below (T.setTop g) ((T'.setTop { g with stack := rest }).pushFrame (.throwing q)))
def vx_X {S : Type} (px : S → Prop) (B : String → S → State → Prop) (A : Nat → Prop) : String → State → State → Prop := fun E st t => ∃ u : S, px u ∧ B E u t ∧ va_F A st t
section Runs
variable {p : Program} {l : Launch} {e : Env} {R : Room} {s : State} {m : MethodId} {args : Array Value} {below : List Frame} {meth : Method} {c : Code} {H : Heap} {locs : List Loc} {cells slots : Nat}
variable {y : MethodName} {bytes cc : ByteArray} {maxL nL mc ms n index : Nat} {ret : Option FieldType} {ws : List Cond} {rm : Room} {Pc : Array Value → State → Prop} {Qc : Array Value → State → Outcome → State → Prop} {XC : String → State → State → Prop} {free : Addr → Prop} {Ts : List Cond} {own C : String} {b : Addr} {As rest : List Value} {g : JFrame}
theorem vx_callBack (cb : CallB R s args own index y bytes maxL ret ws rm mc ms n) (hM : vx_Met l y ws rm Pc Qc XC mc ms free) (hbl : FrameBlind Pc) : vx_Back l R p e below s args y 3 8 (PreOf R mc ms Pc) (PostOf Qc mc ms free) (vx_Post XC mc ms free) := by
  obtain ⟨hrc, hrs, hfr, hlo, hws, hcw, -, hini, -⟩ := cb
  exact vx_back (bytes := bytes) (maxL := maxL) (ret := ret) hM hbl hrc hrs hfr hlo hws hcw (fun a' U hW => word_at hW (Or.inl (by first | rfl | simp [Cond.onTables, Cond.keeps, Cond.steady])) hini)
theorem vx_runV (S : CallFix p m c cc nL s args Ts own) (hM : vx_Met l y ws rm Pc Qc XC mc ms free) (cw : CallW R s args own C index y bytes maxL ret ws rm mc ms n) (hp : PreV s H C b Pc As)
    (hg : g.method = m) (hn : As.length = n) (hsize : g.locals.size = nL) (hstack : g.stack = As.reverse ++ .ref b :: rest) (hW : 2 * g.monitorRoom + (rest.map fun v => v.category).sum ≤ 8) (hdg : decode cc g.pc = .ok (.invokevirtual index, 3)) (hf : cells + mc ≤ R.cells ∧ slots + ms ≤ R.slots) :
    vx_Run p l e R s m args below meth c H locs cells slots mc ms g rest (Qc (Value.ref b :: As).toArray) XC free := by
  have hK : vx_Back l R p e below s args y 3 8 (PreOf R mc ms Pc) (PostOf Qc mc ms free) (vx_Post XC mc ms free) := vx_callBack cw.1 hM hp.1
  obtain ⟨⟨-, -, -, -, -, -, hcode, -, hy, hlen, hl⟩, hin, hse⟩ := cw
  obtain ⟨hx, hb, hml, ho, -⟩ := S
  obtain ⟨-, ⟨cellB, hcB, hoB, hclB⟩, hPc⟩ := hp
  intro T hT X
  rcases vx_callV X hx (C := C) (bytes := bytes) (maxL := maxL) (ret := ret) ho hl hin hse hcode hy hK (by rw [hT]; exact hcB) hoB hclB hg (hsize.trans hml.symm) (argsL := As) (rest := rest) (fun sig h => hn.trans (hlen sig h)) hstack hW (by rw [hb]; exact hdg)
    (fun vm₁ hW₁ => ⟨hf.1, hf.2, hPc (T.setVm vm₁) hT hW₁⟩) with ⟨v, vm₁, ⟨U', l2, c2, s2⟩, hW₁, X', ⟨g', mk, t, L, e1, e2, hq, h1, hL, h2, h3⟩, st⟩ | ⟨q, vm₁, ⟨U', l2, c2, s2⟩, hW₁, X', ⟨g', mk, t, L, E, ce, e1, e2, hq, hce, hcv, hcl, h1, hL, h2, h3⟩, st⟩
  · dsimp only [Pt.U, Pt.locs, Pt.cells, Pt.slots] at X' e1 e2 h1 h2 h3 st
    subst h1; subst h2; subst h3
    exact Or.inl ⟨v, (T.setVm vm₁).calling g' mk (Value.ref b :: As).toArray, t, U', L, hT, X', hL, e1, e2, hq, st⟩
  · dsimp only [Pt.U, Pt.locs, Pt.cells, Pt.slots] at X' e1 e2 h1 h2 h3 st hcl
    subst h1; subst h2; subst h3
    exact Or.inr ⟨q, (T.setVm vm₁).calling g' mk (Value.ref b :: As).toArray, t, U', L, E, ce, hT, X', hL, e1, e2, hq, hce, hcv, vx_cls hW₁ hcl, st⟩
theorem vx_runS (S : CallFix p m c cc nL s args Ts own) (hM : vx_Met l y ws rm Pc Qc XC mc ms free) (cw : CallB R s args own index y bytes maxL ret ws rm mc ms n ∧ (Cond.static y).before args s = true) (hp : PreS s H Pc As)
    (hg : g.method = m) (hn : As.length = n) (hsize : g.locals.size = nL) (hstack : g.stack = As.reverse ++ rest) (hW : 2 * g.monitorRoom + (rest.map fun v => v.category).sum ≤ 8) (hdg : decode cc g.pc = .ok (.invokestatic index, 3)) (hf : cells + mc ≤ R.cells ∧ slots + ms ≤ R.slots) :
    vx_Run p l e R s m args below meth c H locs cells slots mc ms g rest (Qc As.toArray) XC free := by
  have hK : vx_Back l R p e below s args y 3 8 (PreOf R mc ms Pc) (PostOf Qc mc ms free) (vx_Post XC mc ms free) := vx_callBack cw.1 hM hp.1
  obtain ⟨⟨-, -, -, -, -, -, hcode, hini, hy, hlen, hl⟩, hstt⟩ := cw
  obtain ⟨hx, hb, hml, ho, -⟩ := S
  intro T hT X
  rcases vx_callS X hx (bytes := bytes) (maxL := maxL) (ret := ret) ho hl hstt hini hcode hy hK hg (hsize.trans hml.symm) (argsL := As) (rest := rest) (fun sig h => hn.trans (hlen sig h)) hstack hW (by rw [hb]; exact hdg)
    (fun vm₁ hW₁ => ⟨hf.1, hf.2, hp.2 (T.setVm vm₁) hT hW₁⟩) with ⟨v, vm₁, ⟨U', l2, c2, s2⟩, hW₁, X', ⟨g', mk, t, L, e1, e2, hq, h1, hL, h2, h3⟩, st⟩ | ⟨q, vm₁, ⟨U', l2, c2, s2⟩, hW₁, X', ⟨g', mk, t, L, E, ce, e1, e2, hq, hce, hcv, hcl, h1, hL, h2, h3⟩, st⟩
  · dsimp only [Pt.U, Pt.locs, Pt.cells, Pt.slots] at X' e1 e2 h1 h2 h3 st
    subst h1; subst h2; subst h3
    exact Or.inl ⟨v, (T.setVm vm₁).calling g' mk As.toArray, t, U', L, hT, X', hL, e1, e2, hq, st⟩
  · dsimp only [Pt.U, Pt.locs, Pt.cells, Pt.slots] at X' e1 e2 h1 h2 h3 st hcl
    subst h1; subst h2; subst h3
    exact Or.inr ⟨q, (T.setVm vm₁).calling g' mk As.toArray, t, U', L, E, ce, hT, X', hL, e1, e2, hq, hce, hcv, vx_cls hW₁ hcl, st⟩
end Runs
section Rows
variable {p : Program} {l : Launch} {e : Env} {R : Room} {s : State} {m : MethodId} {args : Array Value} {below : List Frame} {meth : Method} {c : Code} {H : Heap} {locs : List Loc} {cells slots : Nat} {Q : State → Prop}
variable {mc ms : Nat} {free : Addr → Prop} {A0 A1 : Nat → Prop} {H0 : Heap} {a : Array Value} {pc : Nat} {ls : Array Slot} {st0 rest : List Value}
theorem vx_keep {st₀ t T' : State} {L : List Loc} (h0 : st₀.heap = H) (e1 : T'.heap = t.heap) (hS : va_S A0 H0 H locs) (hA : ∀ q, q < H.size → A1 q → A0 q) (hf : ∀ q, free q → A0 q) (hL : ∀ q ∈ L, free q.base) (hF : va_F A1 st₀ t) :
    H.size ≤ T'.heap.size ∧ (∀ q : Nat, q < H.size → ¬ A1 q → T'.heap[q]? = H[q]?) ∧ va_S A0 H0 T'.heap (locs ++ L) := by
  obtain ⟨hz, hk⟩ := hF
  rw [h0] at hz hk
  exact ⟨by rw [e1]; exact hz, fun q h1 h2 => by rw [e1]; exact hk q h1 h2,
    ⟨Nat.le_trans hS.1 (by rw [e1]; exact hz), fun q h1 h2 => by rw [e1, hk q (Nat.lt_of_lt_of_le h1 hS.1) (fun z => h2 (hA q (Nat.lt_of_lt_of_le h1 hS.1) z))]; exact hS.2.1 q h1 h2, fun q hq => by
      rcases List.mem_append.mp hq with h | h
      · exact hS.2.2 q h
      · exact hf _ (hL q h)⟩⟩
theorem vx_calli {S SX : Type} {post : Int32 → S → Prop} {px : SX → Prop} {B : S → State → Prop} {BX : String → SX → State → Prop} {AX : Nat → Prop} (hr : vx_Run p l e R s m args below meth c H locs cells slots mc ms (F0 m pc ls st0) rest (va_Qi post B A1 a) (vx_X px BX AX) free) (hS : va_S A0 H0 H locs) (hA : ∀ q, q < H.size → A1 q → A0 q) (hf : ∀ q, free q → A0 q) (hAX : ∀ q, q < H.size → AX q → A0 q)
    (kx : ∀ (E : String) (ce : Cell) (q9 : Addr) (u : SX) (t : State) (H1 : Heap) (locs1 : List Loc), t.heap = H1 → s.vm.Alike t.vm → px u → BX E u t → H.size ≤ H1.size → (∀ q : Nat, q < H.size → ¬ AX q → H1[q]? = H[q]?) → va_S A0 H0 H1 locs1 → H1[q9]? = some ce → ce.vm = .none → s.vm.findClass E = some ce.cls → vx_W p l e R s m args below meth c H1 locs1 (cells + mc) (slots + ms) Q (F0 m pc ls rest) q9)
    (kk : ∀ (r : Int32) (u : S) (t : State) (H1 : Heap) (locs1 : List Loc), t.heap = H1 → s.vm.Alike t.vm → post r u → B u t → H.size ≤ H1.size → (∀ q : Nat, q < H.size → ¬ A1 q → H1[q]? = H[q]?) → va_S A0 H0 H1 locs1 → W p l e R s m args below meth c H1 locs1 (cells + mc) (slots + ms) Q (F0 m (pc + 3) ls (.int r :: rest))) : W p l e R s m args below meth c H locs cells slots Q (F0 m pc ls st0) := by
  intro T hT X
  rcases hr T hT X with ⟨v, st₀, t, T', L, h0, X', hL, e1, e2, ⟨⟨r, u, hv, hp, hb⟩, hF⟩, st⟩ | ⟨q, st₀, t, T', L, E, ce, h0, X', hL, e1, e2, ⟨u, hp, hb, hF⟩, hce, hcv, hcl, st⟩
  · cases hv
    obtain ⟨k1, k2, k3⟩ := vx_keep h0 e1 hS hA hf hL hF
    obtain ⟨t2, a1, b1⟩ := kk r u t T'.heap (locs ++ L) e1.symm (by rw [← e2]; exact X'.warmed.alike) hp hb k1 k2 k3 T' rfl X'
    exact ⟨t2, st t2 a1, b1⟩
  · obtain ⟨k1, k2, k3⟩ := vx_keep h0 e1 hS hAX hf hL hF
    obtain ⟨t2, a1, b1⟩ := kx E ce q u t T'.heap (locs ++ L) e1.symm (by rw [← e2]; exact X'.warmed.alike) hp hb k1 k2 k3 (by rw [e1]; exact hce) hcv hcl T' rfl X'
    exact ⟨t2, st.trans a1, b1⟩
theorem vx_calll {S SX : Type} {post : Int64 → S → Prop} {px : SX → Prop} {B : S → State → Prop} {BX : String → SX → State → Prop} {AX : Nat → Prop} (hr : vx_Run p l e R s m args below meth c H locs cells slots mc ms (F0 m pc ls st0) rest (va_Ql post B A1 a) (vx_X px BX AX) free) (hS : va_S A0 H0 H locs) (hA : ∀ q, q < H.size → A1 q → A0 q) (hf : ∀ q, free q → A0 q) (hAX : ∀ q, q < H.size → AX q → A0 q)
    (kx : ∀ (E : String) (ce : Cell) (q9 : Addr) (u : SX) (t : State) (H1 : Heap) (locs1 : List Loc), t.heap = H1 → s.vm.Alike t.vm → px u → BX E u t → H.size ≤ H1.size → (∀ q : Nat, q < H.size → ¬ AX q → H1[q]? = H[q]?) → va_S A0 H0 H1 locs1 → H1[q9]? = some ce → ce.vm = .none → s.vm.findClass E = some ce.cls → vx_W p l e R s m args below meth c H1 locs1 (cells + mc) (slots + ms) Q (F0 m pc ls rest) q9)
    (kk : ∀ (r : Int64) (u : S) (t : State) (H1 : Heap) (locs1 : List Loc), t.heap = H1 → s.vm.Alike t.vm → post r u → B u t → H.size ≤ H1.size → (∀ q : Nat, q < H.size → ¬ A1 q → H1[q]? = H[q]?) → va_S A0 H0 H1 locs1 → W p l e R s m args below meth c H1 locs1 (cells + mc) (slots + ms) Q (F0 m (pc + 3) ls (.long r :: rest))) : W p l e R s m args below meth c H locs cells slots Q (F0 m pc ls st0) := by
  intro T hT X
  rcases hr T hT X with ⟨v, st₀, t, T', L, h0, X', hL, e1, e2, ⟨⟨r, u, hv, hp, hb⟩, hF⟩, st⟩ | ⟨q, st₀, t, T', L, E, ce, h0, X', hL, e1, e2, ⟨u, hp, hb, hF⟩, hce, hcv, hcl, st⟩
  · cases hv
    obtain ⟨k1, k2, k3⟩ := vx_keep h0 e1 hS hA hf hL hF
    obtain ⟨t2, a1, b1⟩ := kk r u t T'.heap (locs ++ L) e1.symm (by rw [← e2]; exact X'.warmed.alike) hp hb k1 k2 k3 T' rfl X'
    exact ⟨t2, st t2 a1, b1⟩
  · obtain ⟨k1, k2, k3⟩ := vx_keep h0 e1 hS hAX hf hL hF
    obtain ⟨t2, a1, b1⟩ := kx E ce q u t T'.heap (locs ++ L) e1.symm (by rw [← e2]; exact X'.warmed.alike) hp hb k1 k2 k3 (by rw [e1]; exact hce) hcv hcl T' rfl X'
    exact ⟨t2, st.trans a1, b1⟩
theorem vx_callf {S SX : Type} {post : UInt32 → S → Prop} {px : SX → Prop} {B : S → State → Prop} {BX : String → SX → State → Prop} {AX : Nat → Prop} (hr : vx_Run p l e R s m args below meth c H locs cells slots mc ms (F0 m pc ls st0) rest (va_Qf post B A1 a) (vx_X px BX AX) free) (hS : va_S A0 H0 H locs) (hA : ∀ q, q < H.size → A1 q → A0 q) (hf : ∀ q, free q → A0 q) (hAX : ∀ q, q < H.size → AX q → A0 q)
    (kx : ∀ (E : String) (ce : Cell) (q9 : Addr) (u : SX) (t : State) (H1 : Heap) (locs1 : List Loc), t.heap = H1 → s.vm.Alike t.vm → px u → BX E u t → H.size ≤ H1.size → (∀ q : Nat, q < H.size → ¬ AX q → H1[q]? = H[q]?) → va_S A0 H0 H1 locs1 → H1[q9]? = some ce → ce.vm = .none → s.vm.findClass E = some ce.cls → vx_W p l e R s m args below meth c H1 locs1 (cells + mc) (slots + ms) Q (F0 m pc ls rest) q9)
    (kk : ∀ (r : UInt32) (u : S) (t : State) (H1 : Heap) (locs1 : List Loc), t.heap = H1 → s.vm.Alike t.vm → post r u → B u t → H.size ≤ H1.size → (∀ q : Nat, q < H.size → ¬ A1 q → H1[q]? = H[q]?) → va_S A0 H0 H1 locs1 → W p l e R s m args below meth c H1 locs1 (cells + mc) (slots + ms) Q (F0 m (pc + 3) ls (.float r :: rest))) : W p l e R s m args below meth c H locs cells slots Q (F0 m pc ls st0) := by
  intro T hT X
  rcases hr T hT X with ⟨v, st₀, t, T', L, h0, X', hL, e1, e2, ⟨⟨r, u, hv, hp, hb⟩, hF⟩, st⟩ | ⟨q, st₀, t, T', L, E, ce, h0, X', hL, e1, e2, ⟨u, hp, hb, hF⟩, hce, hcv, hcl, st⟩
  · cases hv
    obtain ⟨k1, k2, k3⟩ := vx_keep h0 e1 hS hA hf hL hF
    obtain ⟨t2, a1, b1⟩ := kk r u t T'.heap (locs ++ L) e1.symm (by rw [← e2]; exact X'.warmed.alike) hp hb k1 k2 k3 T' rfl X'
    exact ⟨t2, st t2 a1, b1⟩
  · obtain ⟨k1, k2, k3⟩ := vx_keep h0 e1 hS hAX hf hL hF
    obtain ⟨t2, a1, b1⟩ := kx E ce q u t T'.heap (locs ++ L) e1.symm (by rw [← e2]; exact X'.warmed.alike) hp hb k1 k2 k3 (by rw [e1]; exact hce) hcv hcl T' rfl X'
    exact ⟨t2, st.trans a1, b1⟩
theorem vx_calld {S SX : Type} {post : UInt64 → S → Prop} {px : SX → Prop} {B : S → State → Prop} {BX : String → SX → State → Prop} {AX : Nat → Prop} (hr : vx_Run p l e R s m args below meth c H locs cells slots mc ms (F0 m pc ls st0) rest (va_Qd post B A1 a) (vx_X px BX AX) free) (hS : va_S A0 H0 H locs) (hA : ∀ q, q < H.size → A1 q → A0 q) (hf : ∀ q, free q → A0 q) (hAX : ∀ q, q < H.size → AX q → A0 q)
    (kx : ∀ (E : String) (ce : Cell) (q9 : Addr) (u : SX) (t : State) (H1 : Heap) (locs1 : List Loc), t.heap = H1 → s.vm.Alike t.vm → px u → BX E u t → H.size ≤ H1.size → (∀ q : Nat, q < H.size → ¬ AX q → H1[q]? = H[q]?) → va_S A0 H0 H1 locs1 → H1[q9]? = some ce → ce.vm = .none → s.vm.findClass E = some ce.cls → vx_W p l e R s m args below meth c H1 locs1 (cells + mc) (slots + ms) Q (F0 m pc ls rest) q9)
    (kk : ∀ (r : UInt64) (u : S) (t : State) (H1 : Heap) (locs1 : List Loc), t.heap = H1 → s.vm.Alike t.vm → post r u → B u t → H.size ≤ H1.size → (∀ q : Nat, q < H.size → ¬ A1 q → H1[q]? = H[q]?) → va_S A0 H0 H1 locs1 → W p l e R s m args below meth c H1 locs1 (cells + mc) (slots + ms) Q (F0 m (pc + 3) ls (.double r :: rest))) : W p l e R s m args below meth c H locs cells slots Q (F0 m pc ls st0) := by
  intro T hT X
  rcases hr T hT X with ⟨v, st₀, t, T', L, h0, X', hL, e1, e2, ⟨⟨r, u, hv, hp, hb⟩, hF⟩, st⟩ | ⟨q, st₀, t, T', L, E, ce, h0, X', hL, e1, e2, ⟨u, hp, hb, hF⟩, hce, hcv, hcl, st⟩
  · cases hv
    obtain ⟨k1, k2, k3⟩ := vx_keep h0 e1 hS hA hf hL hF
    obtain ⟨t2, a1, b1⟩ := kk r u t T'.heap (locs ++ L) e1.symm (by rw [← e2]; exact X'.warmed.alike) hp hb k1 k2 k3 T' rfl X'
    exact ⟨t2, st t2 a1, b1⟩
  · obtain ⟨k1, k2, k3⟩ := vx_keep h0 e1 hS hAX hf hL hF
    obtain ⟨t2, a1, b1⟩ := kx E ce q u t T'.heap (locs ++ L) e1.symm (by rw [← e2]; exact X'.warmed.alike) hp hb k1 k2 k3 (by rw [e1]; exact hce) hcv hcl T' rfl X'
    exact ⟨t2, st.trans a1, b1⟩
theorem vx_callv {S SX : Type} {post : S → Prop} {px : SX → Prop} {B : S → State → Prop} {BX : String → SX → State → Prop} {AX : Nat → Prop} (hr : vx_Run p l e R s m args below meth c H locs cells slots mc ms (F0 m pc ls st0) rest (va_Qv post B A1 a) (vx_X px BX AX) free) (hS : va_S A0 H0 H locs) (hA : ∀ q, q < H.size → A1 q → A0 q) (hf : ∀ q, free q → A0 q) (hAX : ∀ q, q < H.size → AX q → A0 q)
    (kx : ∀ (E : String) (ce : Cell) (q9 : Addr) (u : SX) (t : State) (H1 : Heap) (locs1 : List Loc), t.heap = H1 → s.vm.Alike t.vm → px u → BX E u t → H.size ≤ H1.size → (∀ q : Nat, q < H.size → ¬ AX q → H1[q]? = H[q]?) → va_S A0 H0 H1 locs1 → H1[q9]? = some ce → ce.vm = .none → s.vm.findClass E = some ce.cls → vx_W p l e R s m args below meth c H1 locs1 (cells + mc) (slots + ms) Q (F0 m pc ls rest) q9)
    (kk : ∀ (u : S) (t : State) (H1 : Heap) (locs1 : List Loc), t.heap = H1 → s.vm.Alike t.vm → post u → B u t → H.size ≤ H1.size → (∀ q : Nat, q < H.size → ¬ A1 q → H1[q]? = H[q]?) → va_S A0 H0 H1 locs1 → W p l e R s m args below meth c H1 locs1 (cells + mc) (slots + ms) Q (F0 m (pc + 3) ls (rest))) : W p l e R s m args below meth c H locs cells slots Q (F0 m pc ls st0) := by
  intro T hT X
  rcases hr T hT X with ⟨v, st₀, t, T', L, h0, X', hL, e1, e2, ⟨⟨u, hv, hp, hb⟩, hF⟩, st⟩ | ⟨q, st₀, t, T', L, E, ce, h0, X', hL, e1, e2, ⟨u, hp, hb, hF⟩, hce, hcv, hcl, st⟩
  · cases hv
    obtain ⟨k1, k2, k3⟩ := vx_keep h0 e1 hS hA hf hL hF
    obtain ⟨t2, a1, b1⟩ := kk u t T'.heap (locs ++ L) e1.symm (by rw [← e2]; exact X'.warmed.alike) hp hb k1 k2 k3 T' rfl X'
    exact ⟨t2, st t2 a1, b1⟩
  · obtain ⟨k1, k2, k3⟩ := vx_keep h0 e1 hS hAX hf hL hF
    obtain ⟨t2, a1, b1⟩ := kx E ce q u t T'.heap (locs ++ L) e1.symm (by rw [← e2]; exact X'.warmed.alike) hp hb k1 k2 k3 (by rw [e1]; exact hce) hcv hcl T' rfl X'
    exact ⟨t2, st.trans a1, b1⟩
/-- caught by the row x of this method's table; the rows ahead don't take it -/
theorem vx_catch {own name : String} {E : String} {ce : Cell} {q : Addr} (hown : s.vm.findClass own = some m.cls) (pre : List ExceptionTableEntry) (x : ExceptionTableEntry) (suf : List ExceptionTableEntry) (hsplit : c.exceptionTable.toList = pre ++ x :: suf)
    (hpass : ∀ z ∈ pre, covers z pc = false ∨ (z.catchType ≠ 0 ∧ ∃ nm : String, (Cond.classLink own z.catchType nm).before args s = true ∧ va_Nc E nm s)) (hx : covers x pc = true) (h0 : x.catchType ≠ 0)
    (hlink : (Cond.classLink own x.catchType name).before args s = true) (hcast : (Cond.castable E name).before args s = true) (hcell : H[q]? = some ce) (hv : ce.vm = .none) (hcl : s.vm.findClass E = some ce.cls)
    (kk : W p l e R s m args below meth c H locs cells slots Q (F0 m x.handlerPc ls [.ref q])) : vx_W p l e R s m args below meth c H locs cells slots Q (F0 m pc ls rest) q := by
  intro T hT X
  have hpl : e.platform.magicAccessors = ({} : Platform).magicAccessors := by rw [X.admits.platform]
  obtain ⟨c3, c4, hc3, hc4, hasg⟩ := Cond.castable_spec hcast
  cases Option.some.inj (hc3.symm.trans hcl)
  obtain ⟨c5, hc5, hcl5⟩ := Cond.classLink_spec hown hlink e.platform hpl
  cases Option.some.inj (hc4.symm.trans hc5)
  obtain ⟨vm', X', st⟩ := X.thenCaughtThrough q (g := F0 m pc ls rest) rfl (Steps.refl _) (by rw [hT]; exact hcell) (by rw [hv]; rfl) (by obtain ⟨k9, h9, -⟩ := Vm.findClass_spec hcl; exact ⟨k9, h9⟩) pre x suf hsplit
    (fun z hz => by
      rcases hpass z hz with h | ⟨hz0, nm, hl1, hn1⟩
      · exact Or.inl h
      · obtain ⟨c6, hc6, hcl6⟩ := Cond.classLink_spec hown hl1 e.platform hpl
        obtain ⟨a8, b8, h1, h2, h3⟩ := hn1
        cases Option.some.inj (h1.symm.trans hcl)
        cases Option.some.inj (h2.symm.trans hc6)
        exact Or.inr ⟨hz0, _, hcl6, h3⟩) hx (Or.inr ⟨h0, c4, hcl5, hasg⟩)
  obtain ⟨t, a1, b1⟩ := kk (T.setVm vm') hT X'
  exact ⟨t, st.trans a1, b1⟩
end Rows
section Ends
variable {p : Program} {l : Launch} {e : Env} {R : Room} {s : State} {m : MethodId} {args : Array Value} {below : List Frame} {meth : Method} {c : Code} {H : Heap} {locs : List Loc} {cells slots : Nat} {Q : State → Prop}
variable {mc ms : Nat} {free : Addr → Prop} {A0 A1 : Nat → Prop} {H0 : Heap} {a : Array Value} {ls : Array Slot} {st0 rest : List Value}
variable {Qc : Array Value → State → Outcome → State → Prop} {XC : String → State → State → Prop}
/-- what a body that may throw owes at its end -/
def vx_MQ (below : List Frame) (Qc : Array Value → State → Outcome → State → Prop) (XC : String → State → State → Prop) (a : Array Value) (s : State) (mc ms : Nat) (free : Addr → Prop) : State → Prop := fun t =>
  ∃ o, t.status = .running ∧ Ended t below o ∧ vx_Q Qc XC mc ms free a s o t
theorem vx_ret {g : JFrame} {mc ms : Nat} (k : W p l e R s m args below meth c H locs cells slots (MQ below Qc args s mc ms free) g) : W p l e R s m args below meth c H locs cells slots (vx_MQ below Qc XC args s mc ms free) g := by
  intro T hT X
  obtain ⟨t, a1, o, b1, b2, b3, b4⟩ := k T hT X
  exact ⟨t, a1, o, b1, b2, Or.inl ⟨b3, b4⟩⟩
/-- not caught here: it goes on to the caller -/
theorem vx_widen {g : JFrame} {q : Addr} {k n : Nat} (h1 : cells ≤ k) (h2 : slots ≤ n) (kk : vx_W p l e R s m args below meth c H locs k n Q g q) : vx_W p l e R s m args below meth c H locs cells slots Q g q := fun T hT X => kk T hT (stand_widen X h1 h2)
theorem vx_out {pc : Nat} {E : String} {ce : Cell} {q : Addr} {mc ms : Nat} (hout : ∀ x ∈ c.exceptionTable.toList, covers x pc = false) (hlocks : meth.locks = false) (hcell : H[q]? = some ce) (hv : ce.vm = .none) (hcl : s.vm.findClass E = some ce.cls)
    (hx : ∀ t : State, t.heap = H → s.vm.Alike t.vm → XC E s t) (hf : ∀ z ∈ locs, free z.base) (hc : cells ≤ mc) (hs : slots ≤ ms) :
    vx_W p l e R s m args below meth c H locs cells slots (vx_MQ below Qc XC args s mc ms free) (F0 m pc ls rest) q := by
  intro T hT X
  obtain ⟨st1, hrun, hend, hW, hsm⟩ := X.leaveThrown q (g := F0 m pc ls rest) rfl rfl rfl hout hlocks
  have hcell9 : (T.setFrames (.throwing q :: below)).heap[q]? = some ce := by
    show T.heap[q]? = some ce
    rw [hT]; exact hcell
  exact ⟨_, st1, .threw q, hrun, hend, Or.inr ⟨q, rfl, E, ce, locs, hx _ hT hW.alike, hcell9, hv, hcl, hW, hsm.mono hc hs, hf⟩⟩
theorem vx_frame {U : State} {k n : Nat} (h : s.sameButNew ({ U with vm := s.vm } : State) locs k n) : s.heap.size ≤ U.heap.size ∧ ∀ q : Nat, q < s.heap.size → (∀ z ∈ locs, z.base ≠ q) → U.heap[q]? = s.heap[q]? := by
  obtain ⟨-, h2, -, -, -, h6⟩ := h
  refine ⟨h2, fun q hq hz => ?_⟩
  obtain ⟨c9, e1, e2, e3, e4⟩ := h6 q _ (Array.getElem?_eq_getElem hq)
  have hs : c9.slots = (s.heap[q]).slots := Array.ext_getElem? fun i => e4 i fun hm => hz _ hm rfl
  have h9 : c9 = s.heap[q] := by
    rw [hs] at e2
    exact e2
  have e5 : U.heap[q]? = some c9 := e1
  rw [e5, h9, Array.getElem?_eq_getElem hq]
/-- the words of a throw but the four that speak of the heap -/
def vx_no (w : Cond) : Bool := decide (w ≠ .isRef (.static Bundle.tN "UNASSIGNED_STACK" Bundle.steD)) && decide (w ≠ .isRef (.static Bundle.tN "SUPPRESSED_SENTINEL" Bundle.listD)) && decide (w ≠ .laysStatic Bundle.tN "UNASSIGNED_STACK" Bundle.steD) && decide (w ≠ .laysStatic Bundle.tN "SUPPRESSED_SENTINEL" Bundle.listD)
def vx_at0 (own : String) (ic : Nat) (X : String) (names : List String) : List Cond := (Bundle.ownAtoms0 own ic X names).filter vx_no
def vx_atS (own : String) (ic : Nat) (X : String) (names : List String) : List Cond := (Bundle.ownAtoms own ic X names).filter vx_no
/-- a word that the tables alone decide, or a good one -/
def vx_ot (w : Cond) : Bool := w.onTables || goodWord w
theorem vx_ot_at {args a' : Array Value} {s U : State} {w : Cond} (hW : s.WarmedH U.vm) (hvm : s.vm = U.vm) (hg : vx_ot w = true) (h : w.before args s = true) : w.before a' U = true := by
  simp only [vx_ot, Bool.or_eq_true] at hg
  rcases hg with hg | hg
  · exact va_tabs hg hvm h
  · exact word_at hW (good_of_word hg) h
/-- a list's words: the good ones out of the method's own list, the others by premises of their own -/
theorem vx_hat {args : Array Value} {s : State} {L B : List Cond} (h1 : ∀ w ∈ L.filter goodWord, w.before args s = true) (h2 : ∀ w ∈ L.filter (fun w => !goodWord w), w ∈ B) (h3 : ∀ w ∈ B, w.before args s = true) : ∀ w ∈ L, w.before args s = true := by
  intro w hw
  by_cases g : goodWord w = true
  · exact h1 w (List.mem_filter.mpr ⟨hw, g⟩)
  · refine h3 w (h2 w (List.mem_filter.mpr ⟨hw, ?_⟩))
    show (!goodWord w) = true
    cases hgw : goodWord w
    · rfl
    · exact absurd hgw g
theorem vx_c {args : Array Value} {s : State} {w : Cond} {B : List Cond} (h : w.before args s = true) (t : ∀ w ∈ B, w.before args s = true) : ∀ w' ∈ w :: B, w'.before args s = true := fun w' h' => (List.mem_cons.mp h').elim (fun e => by rw [e]; exact h) (t w')
theorem vx_n {args : Array Value} {s : State} : ∀ w ∈ ([] : List Cond), w.before args s = true := fun _ h => nomatch h
theorem vx_own {args : Array Value} {s : State} {L : List Cond} (h1 : ∀ w ∈ L.filter vx_no, w.before args s = true)
    (hU : (Cond.isRef (.static Bundle.tN "UNASSIGNED_STACK" Bundle.steD)).before args s = true) (hN : (Cond.isRef (.static Bundle.tN "SUPPRESSED_SENTINEL" Bundle.listD)).before args s = true)
    (lU : (Cond.laysStatic Bundle.tN "UNASSIGNED_STACK" Bundle.steD).before args s = true) (lN : (Cond.laysStatic Bundle.tN "SUPPRESSED_SENTINEL" Bundle.listD).before args s = true) : ∀ w ∈ L, w.before args s = true := by
  intro w hw
  by_cases e1 : w = .isRef (.static Bundle.tN "UNASSIGNED_STACK" Bundle.steD)
  · rw [e1]; exact hU
  · by_cases e2 : w = .isRef (.static Bundle.tN "SUPPRESSED_SENTINEL" Bundle.listD)
    · rw [e2]; exact hN
    · by_cases e3 : w = .laysStatic Bundle.tN "UNASSIGNED_STACK" Bundle.steD
      · rw [e3]; exact lU
      · by_cases e4 : w = .laysStatic Bundle.tN "SUPPRESSED_SENTINEL" Bundle.listD
        · rw [e4]; exact lN
        · exact h1 w (List.mem_filter.mpr ⟨hw, by unfold vx_no; rw [decide_eq_true e1, decide_eq_true e2, decide_eq_true e3, decide_eq_true e4]; rfl⟩)
/-- where a static field lies, its class's statics cell in H -/
def vx_L (C n d : String) (A : Nat → Prop) (U : State) (H : Heap) : Prop := ∃ (c : ClassId) (k : Class) (i : Nat) (f : Field) (a : Nat) (cell : Cell), U.vm.findClass C = some c ∧ U.fieldFound? C n d = some (c, k, i, f) ∧ f.isStatic = true ∧ k.statics = some a ∧ H[a]? = some cell ∧ cell.vm.isStatics = true ∧ cell.cls = c ∧ f.slot < cell.slots.size ∧ k.staticTypes[f.slot]? = some f.type ∧ ¬ A a
theorem vx_L.moved {C n d : String} {A : Nat → Prop} {u U : State} {H : Heap} (hvm : u.vm.Alike U.vm) (h : vx_L C n d A u H) : vx_L C n d A U H := by
  obtain ⟨c, k, i, f, a, cell, h1, h2, h3, h4, h5, h6, h7, h8, h9, h10⟩ := h
  obtain ⟨k', hi', he⟩ := State.fieldFound?_setVm hvm h2
  exact ⟨c, k', i, f, a, cell, by rw [hvm.findClass]; exact h1, hi', h3, by rw [he]; exact h4, h5, h6, h7, h8, by rw [he]; exact h9, h10⟩
theorem vx_L.kept {C n d : String} {A : Nat → Prop} {U : State} {H H1 : Heap} (h : vx_L C n d A U H) (hq : ∀ a : Nat, a < H.size → ¬ A a → H1[a]? = H[a]?) : vx_L C n d A U H1 := by
  obtain ⟨c, k, i, f, a, cell, h1, h2, h3, h4, h5, h6, h7, h8, h9, h10⟩ := h
  exact ⟨c, k, i, f, a, cell, h1, h2, h3, h4, by rw [hq a (Array.getElem?_eq_some_iff.mp h5).1 h10]; exact h5, h6, h7, h8, h9, h10⟩
theorem vx_L.narrow {C n d : String} {A B : Nat → Prop} {U : State} {H : Heap} (h : vx_L C n d A U H) (hAB : ∀ q, B q → A q) : vx_L C n d B U H := by
  obtain ⟨c, k, i, f, a, cell, h1, h2, h3, h4, h5, h6, h7, h8, h9, h10⟩ := h
  exact ⟨c, k, i, f, a, cell, h1, h2, h3, h4, h5, h6, h7, h8, h9, fun z => h10 (hAB _ z)⟩
theorem vx_L.word {C n d : String} {A : Nat → Prop} {s : State} {args : Array Value} (h : vx_L C n d A s s.heap) : (Cond.laysStatic C n d).before args s = true := by
  obtain ⟨c, k, i, f, a, cell, h1, h2, h3, h4, h5, h6, h7, h8, h9, -⟩ := h
  show (Cond.laysStatic C n d).holds args s none s [] = true
  exact Cond.laysStatic_of h1 h2 h3 h4 h5 h6 h7 h8 h9
/-- .. and what it holds: null or some reference -/
def vx_Zq (C n d : String) (A : Nat → Prop) (U : State) (H : Heap) : Prop := va_Zq C n d A U H ∧ vx_L C n d A U H
theorem vx_Zq.moved {C n d : String} {A : Nat → Prop} {u U : State} {H : Heap} (hvm : u.vm.Alike U.vm) (h : vx_Zq C n d A u H) : vx_Zq C n d A U H := ⟨va_Zq.moved hvm h.1, vx_L.moved hvm h.2⟩
theorem vx_Zq.kept {C n d : String} {A : Nat → Prop} {U : State} {H H1 : Heap} (h : vx_Zq C n d A U H) (hq : ∀ a : Nat, a < H.size → ¬ A a → H1[a]? = H[a]?) : vx_Zq C n d A U H1 := ⟨va_Zq.kept h.1 hq, vx_L.kept h.2 hq⟩
theorem vx_Zq.narrow {C n d : String} {A B : Nat → Prop} {U : State} {H : Heap} (h : vx_Zq C n d A U H) (hAB : ∀ q, B q → A q) : vx_Zq C n d B U H := ⟨va_Zq.narrow h.1 hAB, vx_L.narrow h.2 hAB⟩
theorem vx_Zqof {args : Array Value} {s : State} {C n d : String} {A : Nat → Prop} (hl : (Cond.laysStatic C n d).before args s = true) (hini : (Cond.initialized C).before args s = true) (h : (Cond.isRef (.static C n d)).before args s = true) (hA : ∀ a : Nat, a < s.heap.size → ¬ A a) : vx_Zq C n d A s s.heap := by
  refine ⟨va_Zqof hl hini h hA, ?_⟩
  obtain ⟨c, k, i, f, a, cell, h1, h2, h3, h4, h5, h6, h7, h8, h9⟩ := Cond.laysStatic_spec hl
  exact ⟨c, k, i, f, a, cell, h1, h2, h3, h4, h5, h6, h7, h8, h9, hA a (Array.getElem?_eq_some_iff.mp h5).1⟩
theorem vx_isRef {C n d : String} {v : Value} {A : Nat → Prop} {s : State} {args : Array Value} (h : va_Z C n d v A s s.heap) (hv : v.isRef = true) : (Cond.isRef (.static C n d)).before args s = true := by
  obtain ⟨cf, kf, fi, f, a, cell, h1, h2, h3, h4, h5, h6, h7, -⟩ := h
  have he : (Term.static C n d).eval args s none [] s = some v := by
    simp [Term.eval, State.fieldNamed?, h1, h2, h4, h5, h6, h7]
  simp only [Cond.before, Cond.holds, Cond.value, he]
  cases v <;> simp_all [Value.isRef]
theorem vx_isRefq {C n d : String} {A : Nat → Prop} {s : State} {args : Array Value} (h : va_Zq C n d A s s.heap) : (Cond.isRef (.static C n d)).before args s = true := by
  rcases h with h | ⟨t, h⟩
  · exact vx_isRef h rfl
  · exact vx_isRef h rfl
/-- the same frame, seen from here: as if the method were called anew in this heap -/
theorem vx_rebase {T : State} (X : Stand p l e R s m args below meth c T locs cells slots) {R' : Room} (hf : R'.frames ≤ R.frames) (hl : R'.locals ≤ R.locals) (hc : cells + R'.cells ≤ R.cells) (hs : slots + R'.slots ≤ R.slots) :
    Stand p l e R' ((T.setVm s.vm).setFrames (.invoking m args :: below)) m args below meth c T [] 0 0 := by
  have htop : (T.setVm s.vm).topJava?.isSome := X.here.top
  have hF : ((T.setVm s.vm).setFrames (.invoking m args :: below)).frames = .invoking m args :: below := State.frames_setFrames _ (State.cur_lt_of_top htop)
  obtain ⟨g₀, hg0⟩ := Option.isSome_iff_exists.mp htop
  obtain ⟨r, hr⟩ := State.topJava?_eq_some.mp hg0
  have hl9 : e.platform.stackLimits (T.setVm s.vm).me = e.platform.stackLimits s.me := X.limits
  have hb9 : (T.setVm s.vm).me.stackBytes = s.me.stackBytes := X.bytes
  refine ⟨X.admits, X.cas, X.clock, hF, ?_, X.hears, X.method, X.code, X.here, X.tail, X.warmed, ?_, ?_, ?_⟩
  · have h := X.room
    have hU : ((T.setVm s.vm).setFrames (.invoking m args :: below)).localsInUse = s.localsInUse := by
      rw [State.localsInUse_invoking hF (meth := meth) (c := c) X.method X.code, State.localsInUse_invoking X.frames X.method X.code]
    simp only [State.hasRoom, Bool.and_eq_true, decide_eq_true_eq] at h ⊢
    obtain ⟨⟨⟨⟨h1, h2, h3, h4, h5, h6⟩, h7⟩, h8⟩, h9⟩ := h
    rw [X.frames, List.length_cons] at h2 h3
    have q1 := X.heapSize
    have q2 := X.used
    simp only [hF, hU, List.length_cons, State.stackLimits_setFrames, State.stackBytes_setFrames, hl9, hb9]
    refine ⟨⟨⟨⟨by omega, by omega, by omega, by omega, by omega, h6⟩, ?_⟩, ?_⟩, X.book⟩
    · show T.heap.size + R'.cells ≤ e.platform.maxCells
      omega
    · show T.slotsUsed + R'.slots ≤ e.platform.maxSlots
      omega
  · rw [State.stackLimits_setFrames]; rfl
  · rw [State.stackBytes_setFrames]; rfl
  · refine ⟨?_, Nat.le_refl _, Nat.le_refl _, ?_, ?_, fun a c9 h9 => ⟨c9, h9, rfl, rfl, fun _ _ => rfl⟩⟩
    · obtain ⟨t, ht, -⟩ := State.frames_cons hr
      show T.setVm s.vm = { ((T.setVm s.vm).setFrames (.invoking m args :: below)).setFrames (T.setVm s.vm).frames with heap := T.heap, slotsUsed := T.slotsUsed }
      rw [State.setFrames_setFrames, State.setFrames_self ht]
      rfl
    · show T.slotsUsed = T.slotsUsed + ((T.heap.toList.drop T.heap.size).map (·.slots.size)).sum
      rw [List.drop_eq_nil_of_le (Nat.le_of_eq Array.length_toList)]
      rfl
    · show ((T.heap.toList.drop T.heap.size).map (·.slots.size)).sum ≤ 0
      rw [List.drop_eq_nil_of_le (Nat.le_of_eq Array.length_toList)]
      exact Nat.le_refl _
/-- 'throw new E()': new; dup; invokespecial; athrow -/
theorem vx_throw0 {cc : ByteArray} {pc : Nat} (hexec : p.tables.exec = Jvm.exec) (hb : c.code = cc) (hl : l.stackTraces = false) {own cls : String} {names : List String} {ik ic mc ms : Nat} {A : Nat → Prop}
    (hown : s.vm.findClass own = some m.cls) (hcls : Bundle.fit cls = true) (hnames : ∀ n ∈ names, Bundle.fit n = true)
    (hk : (Cond.classLink own ik cls).before args s = true) (hini : (Cond.initialized cls).before args s = true) (hat : ∀ w ∈ vx_at0 own ic cls names, w.before args s = true)
    (hgood : ∀ w ∈ Cond.classLink own ik cls :: Cond.initialized cls :: vx_at0 own ic cls names, vx_ot w = true)
    (hU : vx_Zq Bundle.tN "UNASSIGNED_STACK" Bundle.steD A s s.heap) (hN : vx_Zq Bundle.tN "SUPPRESSED_SENTINEL" Bundle.listD A s s.heap) (hS : va_S A s.heap H locs) (hsize : ls.size = c.maxLocals)
    (d0 : decode cc pc = .ok (.new ik, 3)) (d3 : decode cc (pc + 3) = .ok (.dup, 1)) (d4 : decode cc (pc + 4) = .ok (.invokespecial ic, 3)) (d7 : decode cc (pc + 7) = .ok (.athrow, 1))
    (hout : ∀ x ∈ c.exceptionTable.toList, covers x (pc + 7) = false)
    (hRframes : names.length + 3 < R.frames) (hRlocals : (rest.map fun v => v.category).sum + (13 * (names.length + 1) + 42) ≤ R.locals) (hRcells : cells + 1 ≤ R.cells) (hRslots : slots + 6 ≤ R.slots) (hlocks : meth.locks = false)
    (hx : ∀ t : State, s.vm.Alike t.vm → H.size ≤ t.heap.size → (∀ q : Nat, q < H.size → t.heap[q]? = H[q]?) → XC cls s t)
    (hf : ∀ z ∈ locs, free z.base) (hc : cells + 1 ≤ mc) (hs : slots + 6 ≤ ms) :
    W p l e R s m args below meth c H locs cells slots (vx_MQ below Qc XC args s mc ms free) (F0 m pc ls rest) := by
  intro T hT X
  have htr : e.platform.stackTraces = false := (show e.platform.stackTraces = l.stackTraces by rw [X.admits.platform]).trans hl
  have Y := vx_rebase X (R' := { frames := R.frames, locals := R.locals, cells := 1, slots := 6 }) (Nat.le_refl _) (Nat.le_refl _) hRcells hRslots
  obtain ⟨s', hA⟩ : ∃ z, z = (T.setVm s.vm).setFrames (.invoking m args :: below) := ⟨_, rfl⟩
  rw [← hA] at Y
  have hvm : s'.vm = s.vm := by rw [hA]; rfl
  have hhp : s'.heap = H := by rw [hA]; exact hT
  have hW0 : s.WarmedH s'.vm := by rw [hvm]; exact State.WarmedH.refl s
  have hat' : ∀ w ∈ vx_at0 own ic cls names, w.before args s' = true := fun w hw => vx_ot_at hW0 hvm.symm (hgood w (List.mem_cons_of_mem _ (List.mem_cons_of_mem _ hw))) (hat w hw)
  have hk' : (Cond.classLink own ik cls).before args s' = true := vx_ot_at hW0 hvm.symm (hgood _ List.mem_cons_self) hk
  have hini' : (Cond.initialized cls).before args s' = true := vx_ot_at hW0 hvm.symm (hgood _ (List.mem_cons_of_mem _ List.mem_cons_self)) hini
  have hU' : vx_Zq Bundle.tN "UNASSIGNED_STACK" Bundle.steD A s' s'.heap := by rw [hhp]; exact vx_Zq.moved hW0.alike (hU.kept hS.2.1)
  have hN' : vx_Zq Bundle.tN "SUPPRESSED_SENTINEL" Bundle.listD A s' s'.heap := by rw [hhp]; exact vx_Zq.moved hW0.alike (hN.kept hS.2.1)
  have h : ∀ w ∈ Bundle.ownAtoms0 own ic cls names, w.before args s' = true := vx_own hat' (vx_isRefq hU'.1) (vx_isRefq hN'.1) hU'.2.word hN'.2.word
  have hown' : s'.vm.findClass own = some m.cls := by rw [hvm]; exact hown
  have hins : (Cond.instantiable cls 6).before args s' = true := h _ (by simp [Bundle.ownAtoms0])
  obtain ⟨vm₁, cX, kX, hfX, hkX, -, -, X₁, st1⟩ := Y.newCold hexec (own := own) (C := cls) (index := ik) (n := 6) hown' hk' hins hini'
    (g := F0 m pc ls rest) rfl (by rw [hb]; exact d0) (Nat.le_refl _) (Nat.le_refl _)
  generalize hT1 : (T.setVm vm₁).pushCell { cls := cX, slots := kX.instanceTypes.map defaultValue, vm := .none } = T1 at X₁ st1
  have hcat : (Value.ref T.heap.size).category = 1 := rfl
  have hcellA : T1.heap[T.heap.size]? = some (freshCell cX kX) := by rw [← hT1]; exact State.heap_pushCell_size _ _
  have d3' : decode c.code (pc + 3) = .ok (.dup, 1) := by rw [hb]; exact d3
  obtain ⟨U, hsteps, hrun, hend, hW, hsame, ce, hce, hO⟩ := X₁.ctorThrow0 hexec htr (own := own) (cls := cls) (names := names) (ic := ic) hown' hcls hnames h (fun x hx => nomatch hx) hfX hkX hcellA (by rw [hhp, hT]; exact Nat.le_refl _)
    (g := { method := m, pc := pc + 4, locals := ls, stack := .ref T.heap.size :: .ref T.heap.size :: rest, locked := none }) rfl hsize rfl rfl (rest := rest) rfl
    (by rw [hb]; exact d4) (by rw [hb]; exact d7) hout hRframes (by simp only [List.map_cons, List.sum_cons, hcat]; omega) hlocks
  obtain ⟨f1, f2⟩ := vx_frame hsame
  rw [hhp] at f1 f2
  have hWs : s.WarmedH U.vm := State.WarmedH.trans hW0 hW
  have hcl : s.vm.findClass cls = some ce.cls := by
    have h9 := hO.cls
    rw [hvm] at h9
    exact h9
  have hall : s.sameButNew ({ U with vm := s.vm } : State) locs mc ms := by
    subst hA
    obtain ⟨e1, e2⟩ := hsame
    rw [State.setFrames_setFrames] at e1
    have h2 : (T.setVm s.vm).sameButNew ({ U with vm := s.vm } : State) [] (0 + 1) (0 + 6) := ⟨e1, e2⟩
    have h3 := X.same.trans h2
    rw [List.append_nil] at h3
    exact h3.mono hc hs
  refine ⟨U, ?_, .threw T.heap.size, hrun, hend, Or.inr ⟨T.heap.size, rfl, cls, ce, locs, hx U hWs.alike f1 (fun q hq => f2 q hq (fun z hz => nomatch hz)), hce, hO.vm, hcl, hWs, hall, hf⟩⟩
  refine st1 _ ?_
  show Steps p.tables e below (T1.setTop { method := m, pc := pc + 3, locals := ls, stack := .ref T.heap.size :: rest, locked := none }) _
  jvm_step X₁.here [X₁.here.top, hexec, d3', Value.category]
  exact hsteps
/-- 'throw new E("text")': new; dup; ldc; invokespecial; athrow -/
theorem vx_throwS {cc : ByteArray} {pc : Nat} (hexec : p.tables.exec = Jvm.exec) (hb : c.code = cc) (hl : l.stackTraces = false) {own cls text : String} {names : List String} {ik is ic mc ms sa : Nat} {A : Nat → Prop}
    (hown : s.vm.findClass own = some m.cls) (hcls : Bundle.fit cls = true) (hnames : ∀ n ∈ names, Bundle.fit n = true)
    (hk : (Cond.classLink own ik cls).before args s = true) (hini : (Cond.initialized cls).before args s = true) (hstr : vk_R own is text sa s) (hat : ∀ w ∈ vx_atS own ic cls names, w.before args s = true)
    (hgood : ∀ w ∈ Cond.classLink own ik cls :: Cond.initialized cls :: vx_atS own ic cls names, vx_ot w = true)
    (hU : vx_Zq Bundle.tN "UNASSIGNED_STACK" Bundle.steD A s s.heap) (hN : vx_Zq Bundle.tN "SUPPRESSED_SENTINEL" Bundle.listD A s s.heap) (hS : va_S A s.heap H locs) (hsize : ls.size = c.maxLocals)
    (d0 : decode cc pc = .ok (.new ik, 3)) (d3 : decode cc (pc + 3) = .ok (.dup, 1)) (d4 : decode cc (pc + 4) = .ok (.ldc is, 2)) (d6 : decode cc (pc + 6) = .ok (.invokespecial ic, 3)) (d9 : decode cc (pc + 9) = .ok (.athrow, 1))
    (hout : ∀ x ∈ c.exceptionTable.toList, covers x (pc + 9) = false)
    (hRframes : names.length + 3 < R.frames) (hRlocals : (rest.map fun v => v.category).sum + (13 * (names.length + 1) + 43) ≤ R.locals) (hRcells : cells + 1 ≤ R.cells) (hRslots : slots + 6 ≤ R.slots) (hlocks : meth.locks = false)
    (hx : ∀ t : State, s.vm.Alike t.vm → H.size ≤ t.heap.size → (∀ q : Nat, q < H.size → t.heap[q]? = H[q]?) → XC cls s t)
    (hf : ∀ z ∈ locs, free z.base) (hc : cells + 1 ≤ mc) (hs : slots + 6 ≤ ms) :
    W p l e R s m args below meth c H locs cells slots (vx_MQ below Qc XC args s mc ms free) (F0 m pc ls rest) := by
  intro T hT X
  have htr : e.platform.stackTraces = false := (show e.platform.stackTraces = l.stackTraces by rw [X.admits.platform]).trans hl
  have Y := vx_rebase X (R' := { frames := R.frames, locals := R.locals, cells := 1, slots := 6 }) (Nat.le_refl _) (Nat.le_refl _) hRcells hRslots
  obtain ⟨s', hA⟩ : ∃ z, z = (T.setVm s.vm).setFrames (.invoking m args :: below) := ⟨_, rfl⟩
  rw [← hA] at Y
  have hvm : s'.vm = s.vm := by rw [hA]; rfl
  have hhp : s'.heap = H := by rw [hA]; exact hT
  have hW0 : s.WarmedH s'.vm := by rw [hvm]; exact State.WarmedH.refl s
  have hat' : ∀ w ∈ vx_atS own ic cls names, w.before args s' = true := fun w hw => vx_ot_at hW0 hvm.symm (hgood w (List.mem_cons_of_mem _ (List.mem_cons_of_mem _ hw))) (hat w hw)
  have hk' : (Cond.classLink own ik cls).before args s' = true := vx_ot_at hW0 hvm.symm (hgood _ List.mem_cons_self) hk
  have hini' : (Cond.initialized cls).before args s' = true := vx_ot_at hW0 hvm.symm (hgood _ (List.mem_cons_of_mem _ List.mem_cons_self)) hini
  have hU' : vx_Zq Bundle.tN "UNASSIGNED_STACK" Bundle.steD A s' s'.heap := by rw [hhp]; exact vx_Zq.moved hW0.alike (hU.kept hS.2.1)
  have hN' : vx_Zq Bundle.tN "SUPPRESSED_SENTINEL" Bundle.listD A s' s'.heap := by rw [hhp]; exact vx_Zq.moved hW0.alike (hN.kept hS.2.1)
  have h : ∀ w ∈ Bundle.ownAtoms own ic cls names, w.before args s' = true := vx_own hat' (vx_isRefq hU'.1) (vx_isRefq hN'.1) hU'.2.word hN'.2.word
  have hown' : s'.vm.findClass own = some m.cls := by rw [hvm]; exact hown
  have hins : (Cond.instantiable cls 6).before args s' = true := h _ (by simp [Bundle.ownAtoms])
  obtain ⟨vm₁, cX, kX, hfX, hkX, -, -, X₁, st1⟩ := Y.newCold hexec (own := own) (C := cls) (index := ik) (n := 6) hown' hk' hins hini'
    (g := F0 m pc ls rest) rfl (by rw [hb]; exact d0) (Nat.le_refl _) (Nat.le_refl _)
  generalize hT1 : (T.setVm vm₁).pushCell { cls := cX, slots := kX.instanceTypes.map defaultValue, vm := .none } = T1 at X₁ st1
  have hcat : (Value.ref T.heap.size).category = 1 := rfl
  have hcellA : T1.heap[T.heap.size]? = some (freshCell cX kX) := by rw [← hT1]; exact State.heap_pushCell_size _ _
  have d3' : decode c.code (pc + 3) = .ok (.dup, 1) := by rw [hb]; exact d3
  have d4' : decode c.code (pc + 4) = .ok (.ldc is, 2) := by rw [hb]; exact d4
  have hstr' : vk_R own is text sa s' := vk_R.warm hW0 hstr
  obtain ⟨U, hsteps, hrun, hend, hW, hsame, ce, hce, hO⟩ := X₁.ctorThrowS hexec htr (own := own) (cls := cls) (names := names) (ic := ic) hown' hcls hnames h (fun x hx => nomatch hx) hfX hkX hcellA (by rw [hhp, hT]; exact Nat.le_refl _) (msg := .ref sa) rfl
    (g := { method := m, pc := pc + 6, locals := ls, stack := .ref sa :: .ref T.heap.size :: .ref T.heap.size :: rest, locked := none }) rfl hsize rfl rfl (rest := rest) rfl
    (by rw [hb]; exact d6) (by rw [hb]; exact d9) hout hRframes (by simp only [List.map_cons, List.sum_cons, hcat]; omega) hlocks
  obtain ⟨f1, f2⟩ := vx_frame hsame
  rw [hhp] at f1 f2
  have hWs : s.WarmedH U.vm := State.WarmedH.trans hW0 hW
  have hcl : s.vm.findClass cls = some ce.cls := by
    have h9 := hO.cls
    rw [hvm] at h9
    exact h9
  have hall : s.sameButNew ({ U with vm := s.vm } : State) locs mc ms := by
    subst hA
    obtain ⟨e1, e2⟩ := hsame
    rw [State.setFrames_setFrames] at e1
    have h2 : (T.setVm s.vm).sameButNew ({ U with vm := s.vm } : State) [] (0 + 1) (0 + 6) := ⟨e1, e2⟩
    have h3 := X.same.trans h2
    rw [List.append_nil] at h3
    exact h3.mono hc hs
  refine ⟨U, ?_, .threw T.heap.size, hrun, hend, Or.inr ⟨T.heap.size, rfl, cls, ce, locs, hx U hWs.alike f1 (fun q hq => f2 q hq (fun z hz => nomatch hz)), hce, hO.vm, hcl, hWs, hall, hf⟩⟩
  refine st1 _ ?_
  show Steps p.tables e below (T1.setTop { method := m, pc := pc + 3, locals := ls, stack := .ref T.heap.size :: rest, locked := none }) _
  jvm_step X₁.here [X₁.here.top, hexec, d3', Value.category]
  exact X₁.ldcString hexec (own := own) (text := text) (index := is) (a := sa) hown' hstr'.1 hstr'.2
    (g := { method := m, pc := pc + 4, locals := ls, stack := .ref T.heap.size :: .ref T.heap.size :: rest, locked := none }) rfl d4' _ hsteps
/-- 'throw new E("text")', the text by a wide index -/
theorem vx_throwSW {cc : ByteArray} {pc : Nat} (hexec : p.tables.exec = Jvm.exec) (hb : c.code = cc) (hl : l.stackTraces = false) {own cls text : String} {names : List String} {ik is ic mc ms sa : Nat} {A : Nat → Prop}
    (hown : s.vm.findClass own = some m.cls) (hcls : Bundle.fit cls = true) (hnames : ∀ n ∈ names, Bundle.fit n = true)
    (hk : (Cond.classLink own ik cls).before args s = true) (hini : (Cond.initialized cls).before args s = true) (hstr : vk_R own is text sa s) (hat : ∀ w ∈ vx_atS own ic cls names, w.before args s = true)
    (hgood : ∀ w ∈ Cond.classLink own ik cls :: Cond.initialized cls :: vx_atS own ic cls names, vx_ot w = true)
    (hU : vx_Zq Bundle.tN "UNASSIGNED_STACK" Bundle.steD A s s.heap) (hN : vx_Zq Bundle.tN "SUPPRESSED_SENTINEL" Bundle.listD A s s.heap) (hS : va_S A s.heap H locs) (hsize : ls.size = c.maxLocals)
    (d0 : decode cc pc = .ok (.new ik, 3)) (d3 : decode cc (pc + 3) = .ok (.dup, 1)) (d4 : decode cc (pc + 4) = .ok (.ldc_w is, 3)) (d7 : decode cc (pc + 7) = .ok (.invokespecial ic, 3)) (d10 : decode cc (pc + 10) = .ok (.athrow, 1))
    (hout : ∀ x ∈ c.exceptionTable.toList, covers x (pc + 10) = false)
    (hRframes : names.length + 3 < R.frames) (hRlocals : (rest.map fun v => v.category).sum + (13 * (names.length + 1) + 43) ≤ R.locals) (hRcells : cells + 1 ≤ R.cells) (hRslots : slots + 6 ≤ R.slots) (hlocks : meth.locks = false)
    (hx : ∀ t : State, s.vm.Alike t.vm → H.size ≤ t.heap.size → (∀ q : Nat, q < H.size → t.heap[q]? = H[q]?) → XC cls s t)
    (hf : ∀ z ∈ locs, free z.base) (hc : cells + 1 ≤ mc) (hs : slots + 6 ≤ ms) :
    W p l e R s m args below meth c H locs cells slots (vx_MQ below Qc XC args s mc ms free) (F0 m pc ls rest) := by
  intro T hT X
  have htr : e.platform.stackTraces = false := (show e.platform.stackTraces = l.stackTraces by rw [X.admits.platform]).trans hl
  have Y := vx_rebase X (R' := { frames := R.frames, locals := R.locals, cells := 1, slots := 6 }) (Nat.le_refl _) (Nat.le_refl _) hRcells hRslots
  obtain ⟨s', hA⟩ : ∃ z, z = (T.setVm s.vm).setFrames (.invoking m args :: below) := ⟨_, rfl⟩
  rw [← hA] at Y
  have hvm : s'.vm = s.vm := by rw [hA]; rfl
  have hhp : s'.heap = H := by rw [hA]; exact hT
  have hW0 : s.WarmedH s'.vm := by rw [hvm]; exact State.WarmedH.refl s
  have hat' : ∀ w ∈ vx_atS own ic cls names, w.before args s' = true := fun w hw => vx_ot_at hW0 hvm.symm (hgood w (List.mem_cons_of_mem _ (List.mem_cons_of_mem _ hw))) (hat w hw)
  have hk' : (Cond.classLink own ik cls).before args s' = true := vx_ot_at hW0 hvm.symm (hgood _ List.mem_cons_self) hk
  have hini' : (Cond.initialized cls).before args s' = true := vx_ot_at hW0 hvm.symm (hgood _ (List.mem_cons_of_mem _ List.mem_cons_self)) hini
  have hU' : vx_Zq Bundle.tN "UNASSIGNED_STACK" Bundle.steD A s' s'.heap := by rw [hhp]; exact vx_Zq.moved hW0.alike (hU.kept hS.2.1)
  have hN' : vx_Zq Bundle.tN "SUPPRESSED_SENTINEL" Bundle.listD A s' s'.heap := by rw [hhp]; exact vx_Zq.moved hW0.alike (hN.kept hS.2.1)
  have h : ∀ w ∈ Bundle.ownAtoms own ic cls names, w.before args s' = true := vx_own hat' (vx_isRefq hU'.1) (vx_isRefq hN'.1) hU'.2.word hN'.2.word
  have hown' : s'.vm.findClass own = some m.cls := by rw [hvm]; exact hown
  have hins : (Cond.instantiable cls 6).before args s' = true := h _ (by simp [Bundle.ownAtoms])
  obtain ⟨vm₁, cX, kX, hfX, hkX, -, -, X₁, st1⟩ := Y.newCold hexec (own := own) (C := cls) (index := ik) (n := 6) hown' hk' hins hini'
    (g := F0 m pc ls rest) rfl (by rw [hb]; exact d0) (Nat.le_refl _) (Nat.le_refl _)
  generalize hT1 : (T.setVm vm₁).pushCell { cls := cX, slots := kX.instanceTypes.map defaultValue, vm := .none } = T1 at X₁ st1
  have hcat : (Value.ref T.heap.size).category = 1 := rfl
  have hcellA : T1.heap[T.heap.size]? = some (freshCell cX kX) := by rw [← hT1]; exact State.heap_pushCell_size _ _
  have d3' : decode c.code (pc + 3) = .ok (.dup, 1) := by rw [hb]; exact d3
  have d4' : decode c.code (pc + 4) = .ok (.ldc_w is, 3) := by rw [hb]; exact d4
  have hstr' : vk_R own is text sa s' := vk_R.warm hW0 hstr
  obtain ⟨U, hsteps, hrun, hend, hW, hsame, ce, hce, hO⟩ := X₁.ctorThrowS hexec htr (own := own) (cls := cls) (names := names) (ic := ic) hown' hcls hnames h (fun x hx => nomatch hx) hfX hkX hcellA (by rw [hhp, hT]; exact Nat.le_refl _) (msg := .ref sa) rfl
    (g := { method := m, pc := pc + 7, locals := ls, stack := .ref sa :: .ref T.heap.size :: .ref T.heap.size :: rest, locked := none }) rfl hsize rfl rfl (rest := rest) rfl
    (by rw [hb]; exact d7) (by rw [hb]; exact d10) hout hRframes (by simp only [List.map_cons, List.sum_cons, hcat]; omega) hlocks
  obtain ⟨f1, f2⟩ := vx_frame hsame
  rw [hhp] at f1 f2
  have hWs : s.WarmedH U.vm := State.WarmedH.trans hW0 hW
  have hcl : s.vm.findClass cls = some ce.cls := by
    have h9 := hO.cls
    rw [hvm] at h9
    exact h9
  have hall : s.sameButNew ({ U with vm := s.vm } : State) locs mc ms := by
    subst hA
    obtain ⟨e1, e2⟩ := hsame
    rw [State.setFrames_setFrames] at e1
    have h2 : (T.setVm s.vm).sameButNew ({ U with vm := s.vm } : State) [] (0 + 1) (0 + 6) := ⟨e1, e2⟩
    have h3 := X.same.trans h2
    rw [List.append_nil] at h3
    exact h3.mono hc hs
  refine ⟨U, ?_, .threw T.heap.size, hrun, hend, Or.inr ⟨T.heap.size, rfl, cls, ce, locs, hx U hWs.alike f1 (fun q hq => f2 q hq (fun z hz => nomatch hz)), hce, hO.vm, hcl, hWs, hall, hf⟩⟩
  refine st1 _ ?_
  show Steps p.tables e below (T1.setTop { method := m, pc := pc + 3, locals := ls, stack := .ref T.heap.size :: rest, locked := none }) _
  jvm_step X₁.here [X₁.here.top, hexec, d3', Value.category]
  exact X₁.ldcStringW hexec (own := own) (text := text) (index := is) (a := sa) hown' hstr'.1 hstr'.2
    (g := { method := m, pc := pc + 4, locals := ls, stack := .ref T.heap.size :: .ref T.heap.size :: rest, locked := none }) rfl d4' _ hsteps
end Ends
section Bodies
variable {l : Launch}
theorem vx_ofW {y : MethodName} {ws ws' : List Cond} {rm : Room} {Pc : Array Value → State → Prop} {Qc : Array Value → State → Outcome → State → Prop} {XC : String → State → State → Prop} {mc ms : Nat} {free : Addr → Prop} {cc : ByteArray} {maxL : Nat} {ret : Option FieldType}
    (hy : plainName y.cls = true) (hw : ws = Cond.code y cc maxL ret :: ws')
    (body : ∀ p e s m args below meth c s₁, BodyLoose p l y (headSpec ws rm) cc maxL ret e s m args below meth c s₁ → c.maxLocals = maxL → (∀ x ∈ c.exceptionTable.toList, False) → Pc args s →
      W p l e (headSpec ws rm).room s m args below meth c s.heap [] 0 0 (vx_MQ below Qc XC args s mc ms free) (entryFrame m args maxL)) : vx_Met l y ws rm Pc Qc XC mc ms free := by
  refine MetFree.of_bodyS (code := cc) (maxLocals := maxL) (ret := ret) hy ?_ ?_
  · intro args s m h hn
    obtain ⟨meth, c, h1, h2, h3, h4, h5, h6, -, -⟩ := Cond.code_spec hn (atoms_spec (ws := ws) h _ (by rw [hw]; exact List.mem_cons_self))
    exact ⟨meth, c, h1, h2, h3, h4, h5, h6⟩
  · intro p e s m args below meth c s₁ B hml hP _
    have hh0 : s₁.heap = s.heap := by rw [B.state]; rfl
    have ht : ∀ x ∈ c.exceptionTable.toList, False := by
      obtain ⟨meth9, c9, h1, h2, -, -, -, -, h7, -⟩ := Cond.code_spec B.named (atoms_spec (ws := ws) B.pre _ (by rw [hw]; exact List.mem_cons_self))
      cases Option.some.inj (h1.symm.trans B.method)
      cases Option.some.inj (h2.symm.trans (Stand.of_body B).code)
      intro x hx
      rw [Array.isEmpty_iff.mp h7] at hx
      cases hx
    obtain ⟨t, a1, o, b1, b2, b3⟩ := body p e s m args below meth c s₁ B hml ht hP s₁ hh0 (Stand.of_body B)
    exact ⟨t, o, a1, b1, b2, b3⟩
/-- the table of a body with handlers -/
theorem vx_table {p : Program} {x y : MethodName} {S : Spec} {cc bytes : ByteArray} {maxL maxL' : Nat} {ret ret' : Option FieldType} {e : Env} {s s₁ : State} {m : MethodId} {args : Array Value} {below : List Frame} {meth : Method} {c : Code} {hh : List (Nat × Nat × Nat × Nat)}
    (B : BodyLoose p l y S cc maxL ret e s m args below meth c s₁) (h : (Cond.codeWith y bytes maxL' ret' hh).before args s = true) : c.exceptionTable.toList = tableOf hh := by
  obtain ⟨m9, meth9, c9, hn9, h1, h2, -, -, h6, -⟩ := Cond.codeWith_spec h
  cases Option.some.inj (hn9.symm.trans B.named)
  cases Option.some.inj (h1.symm.trans B.method)
  cases Option.some.inj (h2.symm.trans (Stand.of_body B).code)
  rw [← h6, table_eq]
end Bodies
end VXA
/-! ===== END ===== -/
/-! ===== BEGIN a static call of a method with an exception table ===== -/
section VXS
variable {p : Program} {l : Launch} {e : Env} {R : Room} {s : State} {m : MethodId} {args : Array Value} {below : List Frame} {meth : Method} {c : Code} {T : State} {H : Heap} {locs : List Loc} {cells slots : Nat}
abbrev vx_CSW (R : Room) (s : State) (args : Array Value) (own : String) (index : Nat) (y : MethodName) (bytes : ByteArray) (maxL : Nat) (ret : Option FieldType) (hh : List (Nat × Nat × Nat × Nat)) (ws : List Cond) (rm : Room) (mc ms n : Nat) : Prop :=
  (rm.cells = mc ∧ rm.slots = ms ∧ rm.frames + 1 ≤ R.frames ∧ 8 + (maxL + 11) + rm.locals ≤ R.locals ∧ (∀ w ∈ ws, ∀ (a' : Array Value) (U : State), s.WarmedH U.vm → w.before a' U = true) ∧ Cond.codeWith y bytes maxL ret hh ∈ ws) ∧
  (Cond.codeWith y bytes maxL ret hh).before args s = true ∧ (Cond.initialized y.cls).before args s = true ∧ (y.cls ≠ "java/lang/invoke/MethodHandle" ∧ y.cls ≠ "java/lang/invoke/VarHandle") ∧
  (∀ sig, parseMethodDescriptor y.desc = some sig → n = sig.parameters.length) ∧ (Cond.methodLink own index y).before args s = true ∧ (Cond.static y).before args s = true
theorem vx_cwSW {own : String} {index maxL mc ms : Nat} {y : MethodName} {bytes : ByteArray} {ret : Option FieldType} {hh : List (Nat × Nat × Nat × Nat)} {Ts ws ws' : List Cond} {rm : Room} (n : Nat) (ht : ∀ w ∈ Ts, w.before args s = true) (hT : GoodIn Ts (va_wsS own index y ws)) (hw : ws = Cond.codeWith y bytes maxL ret hh :: ws') (hrc : rm.cells = mc) (hrs : rm.slots = ms)
    (hd : y.cls ≠ "java/lang/invoke/MethodHandle" ∧ y.cls ≠ "java/lang/invoke/VarHandle" ∧ (parseMethodDescriptor y.desc).map (fun d => d.parameters.length) = some n) (hR : rm.frames + 1 ≤ R.frames ∧ 8 + (maxL + 11) + rm.locals ≤ R.locals) :
    vx_CSW R s args own index y bytes maxL ret hh ws rm mc ms n := by
  have ok : ∀ w ∈ va_wsS own index y ws, w.before args s = true := fun w h => ht w (hT w h).1
  have hG : GoodIn Ts ws := fun w h => hT w (by unfold va_wsS; exact List.mem_append_right _ h)
  have hc : Cond.codeWith y bytes maxL ret hh ∈ ws := by rw [hw]; exact List.mem_cons_self
  refine ⟨⟨hrc, hrs, hR.1, hR.2, pay_in ht hG, hc⟩, ht _ (hG _ hc).1, ok _ (by simp [va_wsS]), ⟨hd.1, hd.2.1⟩, fun sig h => ?_, ok _ (by simp [va_wsS]), ok _ (by simp [va_wsS])⟩
  have h2 := hd.2.2
  rw [h] at h2
  exact (Option.some.inj h2).symm
theorem vx_callSW (X : Stand p l e R s m args below meth c T locs cells slots) (hexec : p.tables.exec = Jvm.exec) {own : String} {index : Nat} {y : MethodName} {bytes : ByteArray} {maxL : Nat} {ret : Option FieldType} {hh : List (Nat × Nat × Nat × Nat)}
    (hown : s.vm.findClass own = some m.cls) (hlink : (Cond.methodLink own index y).before args s = true) (hstat : (Cond.static y).before args s = true) (hinit : (Cond.initialized y.cls).before args s = true)
    (hcode : (Cond.codeWith y bytes maxL ret hh).before args s = true) (hy : y.cls ≠ "java/lang/invoke/MethodHandle" ∧ y.cls ≠ "java/lang/invoke/VarHandle")
    {W9 : Nat} {Pre : Pt → Array Value → Prop} {Post : Pt → Array Value → Option Value → Pt → Prop} (hK : Back l R p e below s args y 3 W9 Pre Post)
    {g : JFrame} (hg : g.method = m) (hsize : g.locals.size = c.maxLocals) {argsL rest : List Value} (hlen : ∀ sig, parseMethodDescriptor y.desc = some sig → argsL.length = sig.parameters.length)
    (hstack : g.stack = argsL.reverse ++ rest) (hW : 2 * g.monitorRoom + (rest.map fun v => v.category).sum ≤ W9) (hdg : decode c.code g.pc = .ok (.invokestatic index, 3))
    (hpre : ∀ vm₁, s.WarmedH vm₁ → Pre ⟨T.setVm vm₁, locs, cells, slots⟩ argsL.toArray) :
    ∃ (v : Option Value) (vm₁ : Vm) (B : Pt), s.WarmedH vm₁ ∧ Stand p l e R s m args below meth c B.U B.locs B.cells B.slots ∧ Post ⟨T.setVm vm₁, locs, cells, slots⟩ argsL.toArray v B ∧
      ∀ target, Steps p.tables e below (B.U.setTop { g with pc := g.pc + 3, stack := v.toList ++ rest }) target → Steps p.tables e below (T.setTop g) target := by
  obtain ⟨mk, methM, cM, hnamed, hmethM, -, -, -, -, -, -, hsigM⟩ := Cond.codeWith_spec hcode
  have hstatic : methM.isStatic = true := Cond.static_spec hnamed hmethM hstat
  obtain ⟨kP, hkP, -⟩ := className_of_methodNamed hnamed
  have hinitP : kP.init = .initialized := Cond.initialized_spec (findClass_of_methodNamed hnamed) hkP hinit
  obtain ⟨vm₁, X₁, hstep₁⟩ := X.invokestatic hexec hown hlink hnamed hmethM hstatic hkP hinitP hy (g := g) hg (argsL := argsL) (rest := rest) (hlen _ hsigM) hstack hdg
  obtain ⟨v, B, X', hpost, hsteps⟩ := hK m meth c ⟨T.setVm vm₁, locs, cells, slots⟩ { g with stack := rest } (.invokestatic index) mk argsL.toArray X₁ hg hsize hdg hW (X₁.named hnamed) (hpre vm₁ X₁.warmed)
  exact ⟨v, vm₁, B, X₁.warmed, X', hpost, fun target h => hstep₁ _ fun acts => by rw [doInvoke_state]; exact hsteps.trans h⟩
theorem vx_runSW {y : MethodName} {bytes cc : ByteArray} {maxL nL mc ms n index : Nat} {ret : Option FieldType} {hh : List (Nat × Nat × Nat × Nat)} {ws : List Cond} {rm : Room} {Pc : Array Value → State → Prop} {Qc : Array Value → State → Outcome → State → Prop} {free : Addr → Prop} {Ts : List Cond} {own : String} {As rest : List Value} {g : JFrame}
    (S : CallFix p m c cc nL s args Ts own) (hM : Met l y ws rm Pc Qc mc ms free) (cw : vx_CSW R s args own index y bytes maxL ret hh ws rm mc ms n) (hp : PreS s H Pc As)
    (hg : g.method = m) (hn : As.length = n) (hsize : g.locals.size = nL) (hstack : g.stack = As.reverse ++ rest) (hW : 2 * g.monitorRoom + (rest.map fun v => v.category).sum ≤ 8) (hdg : decode cc g.pc = .ok (.invokestatic index, 3)) (hf : cells + mc ≤ R.cells ∧ slots + ms ≤ R.slots) :
    va_Run p l e R s m args below meth c H locs cells slots mc ms g rest (Qc As.toArray) (free) := by
  obtain ⟨⟨hrc, hrs, hfr, hlo, hws, hcw⟩, hcode, hini, hy, hlen, hl, hstt⟩ := cw
  have hK : Back l R p e below s args y 3 8 (PreOf R mc ms Pc) (PostOf Qc mc ms free) := va_backW (hh := hh) (bytes := bytes) (maxL := maxL) (ret := ret) hM hp.1 hrc hrs hfr hlo hws hcw (fun a' U hW => word_at hW (Or.inl (by first | rfl | simp [Cond.onTables, Cond.keeps, Cond.steady])) hini)
  obtain ⟨hx, hb, hml, ho, -⟩ := S
  intro T hT X
  obtain ⟨v, vm₁, ⟨U', l2, c2, s2⟩, hW₁, X', ⟨g', mk, t, L, e1, e2, hq, h1, hL, h2, h3⟩, st⟩ := vx_callSW X hx (hh := hh) (bytes := bytes) (maxL := maxL) (ret := ret) ho hl hstt hini hcode hy hK hg (hsize.trans hml.symm) (argsL := As) (rest := rest) (fun sig h => hn.trans (hlen sig h)) hstack hW (by rw [hb]; exact hdg)
    (fun vm₁ hW₁ => ⟨hf.1, hf.2, hp.2 (T.setVm vm₁) hT hW₁⟩)
  dsimp only [Pt.U, Pt.locs, Pt.cells, Pt.slots] at X' e1 e2 h1 h2 h3 st
  subst h1; subst h2; subst h3
  exact ⟨v, (T.setVm vm₁).calling g' mk As.toArray, t, U', L, hT, X', hL, e1, e2, hq, st⟩
/-- not caught here, past rows that name other classes: it goes on to the caller -/
theorem vx_outP {p : Program} {l : Launch} {e : Env} {R : Room} {s : State} {m : MethodId} {args : Array Value} {below : List Frame} {meth : Method} {c : Code} {H : Heap} {locs : List Loc} {cells slots : Nat} {free : Addr → Prop} {ls : Array Slot} {rest : List Value} {Qc : Array Value → State → Outcome → State → Prop} {XC : String → State → State → Prop}
    {pc : Nat} {own E : String} {ce : Cell} {q : Addr} {mc ms : Nat} (hown : s.vm.findClass own = some m.cls) (hlocks : meth.locks = false)
    (hpass : ∀ z ∈ c.exceptionTable.toList, covers z pc = false ∨ (z.catchType ≠ 0 ∧ ∃ nm : String, (Cond.classLink own z.catchType nm).before args s = true ∧ va_Nc E nm s)) (hcell : H[q]? = some ce) (hv : ce.vm = .none) (hcl : s.vm.findClass E = some ce.cls)
    (hx : ∀ t : State, t.heap = H → s.vm.Alike t.vm → XC E s t) (hf : ∀ z ∈ locs, free z.base) (hc : cells ≤ mc) (hs : slots ≤ ms) :
    vx_W p l e R s m args below meth c H locs cells slots (vx_MQ below Qc XC args s mc ms free) (F0 m pc ls rest) q := by
  intro T hT X
  have hpl : e.platform.magicAccessors = ({} : Platform).magicAccessors := by rw [X.admits.platform]
  obtain ⟨vm', hW', X', st⟩ := X.outThrough hlocks q (g := F0 m pc ls rest) rfl rfl rfl (cell := ce) (by rw [hT]; exact hcell) (by rw [hv]; rfl)
    (by obtain ⟨k9, h9, -⟩ := Vm.findClass_spec hcl; exact ⟨k9, h9⟩) (fun z hz => by
      rcases hpass z hz with h | ⟨hz0, nm, hl1, hn1⟩
      · exact Or.inl h
      · obtain ⟨c6, hc6, hcl6⟩ := Cond.classLink_spec hown hl1 e.platform hpl
        obtain ⟨a8, b8, h1, h2, h3⟩ := hn1
        cases Option.some.inj (h1.symm.trans hcl)
        cases Option.some.inj (h2.symm.trans hc6)
        exact Or.inr ⟨hz0, _, hcl6, h3⟩)
  obtain ⟨g₀, hfr⟩ := X'.frames_eq
  have hcell9 : ((T.setVm vm').setFrames (.throwing q :: below)).heap[q]? = some ce := by
    show T.heap[q]? = some ce
    rw [hT]; exact hcell
  have hend : Ended ((T.setVm vm').setFrames (.throwing q :: below)) below (.threw q) := State.frames_setFrames _ (State.cur_lt_of_frames hfr)
  refine ⟨(T.setVm vm').setFrames (.throwing q :: below), ?_, .threw q, X'.here.running, hend, Or.inr ⟨q, rfl, E, ce, locs, hx _ hT (X'.ends _).1.alike, hcell9, hv, hcl, (X'.ends _).1, (X'.ends _).2.mono hc hs, hf⟩⟩
  rw [X.pushThrowing_eq]
  exact st
/-- a thing of a world lies in the heap -/
theorem vx_lt {D : va_G} {cl : List vw_C} {ws : va_W} {H1 : Heap} (h : va_P D cl ws H1) {k : Nat} {q : Nat × va_E} (hk : ws[k]? = some q) : q.1 < H1.size := (h k q hk).lt
end VXS
/-! ===== END ===== -/
/-! ===== BEGIN methods with a table of their own: called by a name, returning or throwing ===== -/
section VXH
/-! vx_backW, vx_callVX, vx_callSX, vx_callVW, vx_runVW, vx_runVX, vx_runSX, vx_ofWH follow the same proofs as their sisters above (Free/Laws.lean, Shelf42/LK1.lean); vx_outP calls Shelf42/NT130.lean (outThrough). -/
section
variable {l : Launch} {R : Room} {p : Program} {e : Env} {below : List Frame} {s : State} {sargs : Array Value} {y : MethodName} {len W9 : Nat}
theorem vx_backW {ws : List Cond} {rm : Room} {Pc : Array Value → State → Prop} {Qc : Array Value → State → Outcome → State → Prop} {XC : String → State → State → Prop} {mc ms : Nat} {free : Addr → Prop} {bytes : ByteArray} {maxL : Nat} {ret : Option FieldType} {hh : List (Nat × Nat × Nat × Nat)}
    (hM : vx_Met l y ws rm Pc Qc XC mc ms free) (hblind : FrameBlind Pc) (hrc : rm.cells = mc) (hrs : rm.slots = ms)
    (hframes : rm.frames + 1 ≤ R.frames) (hlocals : W9 + (maxL + 11) + rm.locals ≤ R.locals)
    (hws : ∀ w ∈ ws, ∀ a' U, s.WarmedH U.vm → w.before a' U = true) (hcode : Cond.codeWith y bytes maxL ret hh ∈ ws) (hinit : ∀ a' U, s.WarmedH U.vm → (Cond.initialized y.cls).before a' U = true) :
    vx_Back l R p e below s sargs y len W9 (PreOf R mc ms Pc) (PostOf Qc mc ms free) (vx_Post XC mc ms free) := by
  intro m meth c A g ig mk a X hg hsize hdg hW hn hp
  have h1 : (headSpec ws rm).pre.before a A.U = true := atoms_intro fun w hw => hws w hw _ _ X.warmed
  have h2 : (Cond.codeWith y bytes maxL ret hh).before a A.U = true := hws _ hcode _ _ X.warmed
  have h3 : (Cond.initialized y.cls).before a A.U = true := hinit _ _ X.warmed
  have h4 : A.cells + (headSpec ws rm).room.cells ≤ R.cells := by rw [show (headSpec ws rm).room.cells = mc from hrc]; exact hp.1
  have h5 : A.slots + (headSpec ws rm).room.slots ≤ R.slots := by rw [show (headSpec ws rm).room.slots = ms from hrs]; exact hp.2.1
  have hPc : Pc a (A.U.calling g mk a) := hblind _ _ _ _ hp.2.2
  obtain ⟨U, Ls, c0, s0⟩ := A
  dsimp only [Pt.U, Pt.locs, Pt.cells, Pt.slots] at h1 h2 h3 h4 h5 X hn hPc ⊢
  obtain ⟨m9, methY, cY, hn9, hmY, hcY, -, hlY, -⟩ := Cond.codeWith_spec h2
  cases Option.some.inj (hn9.symm.trans hn)
  obtain ⟨kY, hkY, -⟩ := className_of_methodNamed hn
  have hinitY : kY.init = .initialized := Cond.initialized_spec (findClass_of_methodNamed hn) hkY h3
  have h : At U g.method c below := by rw [hg]; exact X.here
  have hlocals9 : W9 + (maxL + 11) + (headSpec ws rm).room.locals ≤ R.locals := hlocals
  have happ : (headSpec ws rm).appliesLoose y e.platform (U.calling g mk a) = true :=
    Spec.appliesLoose_calling (g := g) h hdg hn hkY hinitY
      (X.room_calling (g := g) (R' := (headSpec ws rm).room) hsize hmY hcY hframes (by rw [hlY]; omega) h4 h5) h1
  obtain ⟨mid, hmid⟩ := h.above
  have hfr : (U.setTop g).frames = (.java g :: mid) ++ below := by rw [State.frames_setTop' g h.top, hmid]; rfl
  obtain ⟨o, s₂, hsteps, -, hend, hq⟩ := Steps.callFree hM p X.admits X.cas X.clock (acts := []) hfr happ hPc trivial
  have hq' : vx_Q Qc XC mc ms free a (U.calling g mk a) o s₂ := hq
  rw [State.frames_setTop' g h.top] at hend
  obtain ⟨g₀, hg0⟩ := Option.isSome_iff_exists.mp h.top
  obtain ⟨r, hr⟩ := State.topJava?_eq_some.mp hg0
  have hr' : (({ U with heap := s₂.heap, slotsUsed := s₂.slotsUsed } : State).setVm s₂.vm).frames = .java g₀ :: r := hr
  rcases hq' with ⟨hqc, L, hfe, hL⟩ | ⟨q, rfl, E, ce, L, hx, hce, hcv, hcl, hW₂, hsm, hL⟩
  · obtain ⟨⟨v, rfl⟩, hW₂, e2, q2, q3, q4, q5, q6⟩ := id hfe
    have e3 : s₂ = ({ (U.calling g mk a).setFrames s₂.frames with heap := s₂.heap, slotsUsed := s₂.slotsUsed } : State).setVm s₂.vm := by
      have : s₂ = ({ s₂ with vm := (U.calling g mk a).vm } : State).setVm s₂.vm := rfl
      rw [e2] at this
      exact this
    obtain ⟨c₂, i₂, len₂, hc₂, hd₂, hf₂⟩ := hend
    have hW' : U.WarmedH s₂.vm := hW₂
    have hcc : c₂ = c := by
      have h1 : s₂.code? g.method = U.code? g.method := by
        rw [State.code?_eq, State.code?_eq, hW'.alike.method?]
      exact Option.some.inj (hc₂.symm.trans (h1.trans h.code))
    subst hcc
    have hlen : len₂ = len := by rw [hdg] at hd₂; cases hd₂; rfl
    subst hlen
    have hs₂ : s₂ = (({ U with heap := s₂.heap, slotsUsed := s₂.slotsUsed } : State).setVm s₂.vm).setTop { g with pc := g.pc + len₂, stack := v.toList ++ g.stack } := by
      refine e3.trans ?_
      rw [hf₂, State.calling_eq h.top, State.setFrames_setFrames, State.setTop_of_frames _ hr', hr]
      rfl
    have hsame : U.sameButNew ({ U with heap := s₂.heap, slotsUsed := s₂.slotsUsed } : State) L mc ms := by
      refine ⟨?_, q2, q3, q4, q5, q6⟩
      obtain ⟨t, ht, -⟩ := State.frames_cons hr
      show ({ U with heap := s₂.heap, slotsUsed := s₂.slotsUsed } : State) = { U.setFrames U.frames with heap := s₂.heap, slotsUsed := s₂.slotsUsed }
      rw [State.setFrames_self ht]
    subst hg
    refine Or.inl ⟨v, ⟨(({ U with heap := s₂.heap, slotsUsed := s₂.slotsUsed } : State).setVm s₂.vm), Ls ++ L, c0 + mc, s0 + ms⟩,
      ⟨X.admits, X.cas, X.clock, X.frames, X.room, X.hears, X.method, X.code, (X.here.setHeapUsed s₂.heap s₂.slotsUsed).setVm hW'.alike, X.tail, State.WarmedH.trans X.warmed hW', X.limits, X.bytes, X.same.trans (hsame.setVm s.vm)⟩,
      ⟨g, mk, s₂, L, rfl, rfl, hqc, rfl, hL, rfl, rfl⟩, ?_⟩
    show Steps p.tables e below _ ((({ U with heap := s₂.heap, slotsUsed := s₂.slotsUsed } : State).setVm s₂.vm).setTop { g with pc := g.pc + len₂, stack := v.toList ++ g.stack })
    rw [← hs₂]
    exact hsteps
  · obtain ⟨e2, q2, q3, q4, q5, q6⟩ := id hsm
    have e3 : s₂ = ({ (U.calling g mk a).setFrames s₂.frames with heap := s₂.heap, slotsUsed := s₂.slotsUsed } : State).setVm s₂.vm := by
      have : s₂ = ({ s₂ with vm := (U.calling g mk a).vm } : State).setVm s₂.vm := rfl
      rw [e2] at this
      exact this
    have hf₂ : s₂.frames = .throwing q :: .java g :: U.frames.tail := hend
    have hW' : U.WarmedH s₂.vm := hW₂
    have hs₂ : s₂ = ((({ U with heap := s₂.heap, slotsUsed := s₂.slotsUsed } : State).setVm s₂.vm).setTop g).pushFrame (.throwing q) := by
      refine e3.trans ?_
      rw [hf₂, State.calling_eq h.top, State.setFrames_setFrames, State.pushFrame, State.frames_setTop _ hr', State.setTop_of_frames _ hr', State.setFrames_setFrames, hr]
      rfl
    have hsame : U.sameButNew ({ U with heap := s₂.heap, slotsUsed := s₂.slotsUsed } : State) L mc ms := by
      refine ⟨?_, q2, q3, q4, q5, q6⟩
      obtain ⟨t, ht, -⟩ := State.frames_cons hr
      show ({ U with heap := s₂.heap, slotsUsed := s₂.slotsUsed } : State) = { U.setFrames U.frames with heap := s₂.heap, slotsUsed := s₂.slotsUsed }
      rw [State.setFrames_self ht]
    subst hg
    refine Or.inr ⟨q, ⟨(({ U with heap := s₂.heap, slotsUsed := s₂.slotsUsed } : State).setVm s₂.vm), Ls ++ L, c0 + mc, s0 + ms⟩,
      ⟨X.admits, X.cas, X.clock, X.frames, X.room, X.hears, X.method, X.code, (X.here.setHeapUsed s₂.heap s₂.slotsUsed).setVm hW'.alike, X.tail, State.WarmedH.trans X.warmed hW', X.limits, X.bytes, X.same.trans (hsame.setVm s.vm)⟩,
      ⟨g, mk, s₂, L, E, ce, rfl, rfl, hx, hce, hcv, hcl, rfl, hL, rfl, rfl⟩, ?_⟩
    show Steps p.tables e below _ (((({ U with heap := s₂.heap, slotsUsed := s₂.slotsUsed } : State).setVm s₂.vm).setTop g).pushFrame (.throwing q))
    rw [← hs₂]
    exact hsteps
end
variable {p : Program} {l : Launch} {e : Env} {R : Room} {s : State} {m : MethodId} {args : Array Value} {below : List Frame} {meth : Method} {c : Code} {T : State} {H : Heap} {locs : List Loc} {cells slots : Nat}
theorem vx_callVX (X : Stand p l e R s m args below meth c T locs cells slots) (hexec : p.tables.exec = Jvm.exec) {own C : String} {index : Nat} {y : MethodName} {bytes : ByteArray} {maxL : Nat} {ret : Option FieldType} {hh : List (Nat × Nat × Nat × Nat)}
    (hown : s.vm.findClass own = some m.cls) (hlink : (Cond.methodLink own index y).before args s = true) (hinst : (Cond.instanceMethod y).before args s = true) (hsel : (Cond.selects C y y).before args s = true)
    (hcode : (Cond.codeWith y bytes maxL ret hh).before args s = true) (hy : y.cls ≠ "java/lang/invoke/MethodHandle" ∧ y.cls ≠ "java/lang/invoke/VarHandle")
    {W9 : Nat} {Pre : Pt → Array Value → Prop} {Post : Pt → Array Value → Option Value → Pt → Prop} {PostX : Pt → Array Value → Addr → Pt → Prop} (hK : vx_Back l R p e below s args y 3 W9 Pre Post PostX)
    {b : Addr} {cellB : Cell} (hcell : T.heap[b]? = some cellB) (hobj : cellB.vm.isStatics = false) (hcls : s.vm.findClass C = some cellB.cls)
    {g : JFrame} (hg : g.method = m) (hsize : g.locals.size = c.maxLocals) {argsL rest : List Value} (hlen : ∀ sig, parseMethodDescriptor y.desc = some sig → argsL.length = sig.parameters.length)
    (hstack : g.stack = argsL.reverse ++ .ref b :: rest) (hW : 2 * g.monitorRoom + (rest.map fun v => v.category).sum ≤ W9) (hdg : decode c.code g.pc = .ok (.invokevirtual index, 3))
    (hpre : ∀ vm₁, s.WarmedH vm₁ → Pre ⟨T.setVm vm₁, locs, cells, slots⟩ (Value.ref b :: argsL).toArray) :
    (∃ (v : Option Value) (vm₁ : Vm) (B : Pt), s.WarmedH vm₁ ∧ Stand p l e R s m args below meth c B.U B.locs B.cells B.slots ∧ Post ⟨T.setVm vm₁, locs, cells, slots⟩ (Value.ref b :: argsL).toArray v B ∧
      ∀ target, Steps p.tables e below (B.U.setTop { g with pc := g.pc + 3, stack := v.toList ++ rest }) target → Steps p.tables e below (T.setTop g) target) ∨
    (∃ (q : Addr) (vm₁ : Vm) (B : Pt), s.WarmedH vm₁ ∧ Stand p l e R s m args below meth c B.U B.locs B.cells B.slots ∧ PostX ⟨T.setVm vm₁, locs, cells, slots⟩ (Value.ref b :: argsL).toArray q B ∧
      Steps p.tables e below (T.setTop g) ((B.U.setTop { g with stack := rest }).pushFrame (.throwing q))) := by
  obtain ⟨mk, methM, hnamed, hmethM, hstM, habM⟩ := Cond.instanceMethod_spec hinst
  obtain ⟨m8, methM', cM, hn8, hmethM', -, -, -, -, -, -, hsigM⟩ := Cond.codeWith_spec hcode
  cases Option.some.inj (hn8.symm.trans hnamed)
  cases hmethM.symm.trans hmethM'
  obtain ⟨c2, r2, m2, q1, q2, q3, q4, kP, hkP, hkPi⟩ := Cond.selects_spec hsel
  cases hcls.symm.trans q1
  cases (State.methodFound?_of_named hnamed hy).symm.trans q2
  cases hnamed.symm.trans q3
  have hselP : selectMethod e.platform s.vm cellB.cls mk = .method mk := by rw [Launch.admits_selectMethod X.admits]; exact q4
  obtain ⟨vm₁, X₁, hstep₁⟩ := X.invokevirtual hexec hown hlink hnamed hmethM hstM hkP hkPi hy (a := b) (cell := cellB) hcell
    (fun z h => by rw [h] at hobj; cases hobj) hselP hmethM habM hkP hkPi (g := g) hg (argsL := argsL) (rest := rest) (hlen _ hsigM) hstack hdg
  rcases hK m meth c ⟨T.setVm vm₁, locs, cells, slots⟩ { g with stack := rest } (.invokevirtual index) mk (Value.ref b :: argsL).toArray X₁ hg hsize hdg hW (X₁.named hnamed) (hpre vm₁ X₁.warmed) with ⟨v, B, X', hpost, hsteps⟩ | ⟨q, B, X', hpost, hsteps⟩
  · exact Or.inl ⟨v, vm₁, B, X₁.warmed, X', hpost, fun target h => hstep₁ _ fun acts => by rw [doInvoke_state]; exact hsteps.trans h⟩
  · exact Or.inr ⟨q, vm₁, B, X₁.warmed, X', hpost, hstep₁ _ fun acts => by rw [doInvoke_state]; exact hsteps⟩
theorem vx_callSX (X : Stand p l e R s m args below meth c T locs cells slots) (hexec : p.tables.exec = Jvm.exec) {own : String} {index : Nat} {y : MethodName} {bytes : ByteArray} {maxL : Nat} {ret : Option FieldType} {hh : List (Nat × Nat × Nat × Nat)}
    (hown : s.vm.findClass own = some m.cls) (hlink : (Cond.methodLink own index y).before args s = true) (hstat : (Cond.static y).before args s = true) (hinit : (Cond.initialized y.cls).before args s = true)
    (hcode : (Cond.codeWith y bytes maxL ret hh).before args s = true) (hy : y.cls ≠ "java/lang/invoke/MethodHandle" ∧ y.cls ≠ "java/lang/invoke/VarHandle")
    {W9 : Nat} {Pre : Pt → Array Value → Prop} {Post : Pt → Array Value → Option Value → Pt → Prop} {PostX : Pt → Array Value → Addr → Pt → Prop} (hK : vx_Back l R p e below s args y 3 W9 Pre Post PostX)
    {g : JFrame} (hg : g.method = m) (hsize : g.locals.size = c.maxLocals) {argsL rest : List Value} (hlen : ∀ sig, parseMethodDescriptor y.desc = some sig → argsL.length = sig.parameters.length)
    (hstack : g.stack = argsL.reverse ++ rest) (hW : 2 * g.monitorRoom + (rest.map fun v => v.category).sum ≤ W9) (hdg : decode c.code g.pc = .ok (.invokestatic index, 3))
    (hpre : ∀ vm₁, s.WarmedH vm₁ → Pre ⟨T.setVm vm₁, locs, cells, slots⟩ argsL.toArray) :
    (∃ (v : Option Value) (vm₁ : Vm) (B : Pt), s.WarmedH vm₁ ∧ Stand p l e R s m args below meth c B.U B.locs B.cells B.slots ∧ Post ⟨T.setVm vm₁, locs, cells, slots⟩ argsL.toArray v B ∧
      ∀ target, Steps p.tables e below (B.U.setTop { g with pc := g.pc + 3, stack := v.toList ++ rest }) target → Steps p.tables e below (T.setTop g) target) ∨
    (∃ (q : Addr) (vm₁ : Vm) (B : Pt), s.WarmedH vm₁ ∧ Stand p l e R s m args below meth c B.U B.locs B.cells B.slots ∧ PostX ⟨T.setVm vm₁, locs, cells, slots⟩ argsL.toArray q B ∧
      Steps p.tables e below (T.setTop g) ((B.U.setTop { g with stack := rest }).pushFrame (.throwing q))) := by
  obtain ⟨mk, methM, cM, hnamed, hmethM, -, -, -, -, -, -, hsigM⟩ := Cond.codeWith_spec hcode
  have hstatic : methM.isStatic = true := Cond.static_spec hnamed hmethM hstat
  obtain ⟨kP, hkP, -⟩ := className_of_methodNamed hnamed
  have hinitP : kP.init = .initialized := Cond.initialized_spec (findClass_of_methodNamed hnamed) hkP hinit
  obtain ⟨vm₁, X₁, hstep₁⟩ := X.invokestatic hexec hown hlink hnamed hmethM hstatic hkP hinitP hy (g := g) hg (argsL := argsL) (rest := rest) (hlen _ hsigM) hstack hdg
  rcases hK m meth c ⟨T.setVm vm₁, locs, cells, slots⟩ { g with stack := rest } (.invokestatic index) mk argsL.toArray X₁ hg hsize hdg hW (X₁.named hnamed) (hpre vm₁ X₁.warmed) with ⟨v, B, X', hpost, hsteps⟩ | ⟨q, B, X', hpost, hsteps⟩
  · exact Or.inl ⟨v, vm₁, B, X₁.warmed, X', hpost, fun target h => hstep₁ _ fun acts => by rw [doInvoke_state]; exact hsteps.trans h⟩
  · exact Or.inr ⟨q, vm₁, B, X₁.warmed, X', hpost, hstep₁ _ fun acts => by rw [doInvoke_state]; exact hsteps⟩
theorem vx_callVW (X : Stand p l e R s m args below meth c T locs cells slots) (hexec : p.tables.exec = Jvm.exec) {own C : String} {index : Nat} {y : MethodName} {bytes : ByteArray} {maxL : Nat} {ret : Option FieldType} {hh : List (Nat × Nat × Nat × Nat)}
    (hown : s.vm.findClass own = some m.cls) (hlink : (Cond.methodLink own index y).before args s = true) (hinst : (Cond.instanceMethod y).before args s = true) (hsel : (Cond.selects C y y).before args s = true)
    (hcode : (Cond.codeWith y bytes maxL ret hh).before args s = true) (hy : y.cls ≠ "java/lang/invoke/MethodHandle" ∧ y.cls ≠ "java/lang/invoke/VarHandle")
    {W9 : Nat} {Pre : Pt → Array Value → Prop} {Post : Pt → Array Value → Option Value → Pt → Prop} (hK : Back l R p e below s args y 3 W9 Pre Post)
    {b : Addr} {cellB : Cell} (hcell : T.heap[b]? = some cellB) (hobj : cellB.vm.isStatics = false) (hcls : s.vm.findClass C = some cellB.cls)
    {g : JFrame} (hg : g.method = m) (hsize : g.locals.size = c.maxLocals) {argsL rest : List Value} (hlen : ∀ sig, parseMethodDescriptor y.desc = some sig → argsL.length = sig.parameters.length)
    (hstack : g.stack = argsL.reverse ++ .ref b :: rest) (hW : 2 * g.monitorRoom + (rest.map fun v => v.category).sum ≤ W9) (hdg : decode c.code g.pc = .ok (.invokevirtual index, 3))
    (hpre : ∀ vm₁, s.WarmedH vm₁ → Pre ⟨T.setVm vm₁, locs, cells, slots⟩ (Value.ref b :: argsL).toArray) :
    ∃ (v : Option Value) (vm₁ : Vm) (B : Pt), s.WarmedH vm₁ ∧ Stand p l e R s m args below meth c B.U B.locs B.cells B.slots ∧ Post ⟨T.setVm vm₁, locs, cells, slots⟩ (Value.ref b :: argsL).toArray v B ∧
      ∀ target, Steps p.tables e below (B.U.setTop { g with pc := g.pc + 3, stack := v.toList ++ rest }) target → Steps p.tables e below (T.setTop g) target := by
  obtain ⟨mk, methM, hnamed, hmethM, hstM, habM⟩ := Cond.instanceMethod_spec hinst
  obtain ⟨m8, methM', cM, hn8, hmethM', -, -, -, -, -, -, hsigM⟩ := Cond.codeWith_spec hcode
  cases Option.some.inj (hn8.symm.trans hnamed)
  cases hmethM.symm.trans hmethM'
  obtain ⟨c2, r2, m2, q1, q2, q3, q4, kP, hkP, hkPi⟩ := Cond.selects_spec hsel
  cases hcls.symm.trans q1
  cases (State.methodFound?_of_named hnamed hy).symm.trans q2
  cases hnamed.symm.trans q3
  have hselP : selectMethod e.platform s.vm cellB.cls mk = .method mk := by rw [Launch.admits_selectMethod X.admits]; exact q4
  obtain ⟨vm₁, X₁, hstep₁⟩ := X.invokevirtual hexec hown hlink hnamed hmethM hstM hkP hkPi hy (a := b) (cell := cellB) hcell
    (fun z h => by rw [h] at hobj; cases hobj) hselP hmethM habM hkP hkPi (g := g) hg (argsL := argsL) (rest := rest) (hlen _ hsigM) hstack hdg
  obtain ⟨v, B, X', hpost, hsteps⟩ := hK m meth c ⟨T.setVm vm₁, locs, cells, slots⟩ { g with stack := rest } (.invokevirtual index) mk (Value.ref b :: argsL).toArray X₁ hg hsize hdg hW (X₁.named hnamed) (hpre vm₁ X₁.warmed)
  exact ⟨v, vm₁, B, X₁.warmed, X', hpost, fun target h => hstep₁ _ fun acts => by rw [doInvoke_state]; exact hsteps.trans h⟩
abbrev vx_CVW (R : Room) (s : State) (args : Array Value) (own C : String) (index : Nat) (y : MethodName) (bytes : ByteArray) (maxL : Nat) (ret : Option FieldType) (hh : List (Nat × Nat × Nat × Nat)) (ws : List Cond) (rm : Room) (mc ms n : Nat) : Prop :=
  (rm.cells = mc ∧ rm.slots = ms ∧ rm.frames + 1 ≤ R.frames ∧ 8 + (maxL + 11) + rm.locals ≤ R.locals ∧ (∀ w ∈ ws, ∀ (a' : Array Value) (U : State), s.WarmedH U.vm → w.before a' U = true) ∧ Cond.codeWith y bytes maxL ret hh ∈ ws) ∧
  (Cond.codeWith y bytes maxL ret hh).before args s = true ∧ (Cond.initialized y.cls).before args s = true ∧ (y.cls ≠ "java/lang/invoke/MethodHandle" ∧ y.cls ≠ "java/lang/invoke/VarHandle") ∧
  (∀ sig, parseMethodDescriptor y.desc = some sig → n = sig.parameters.length) ∧ (Cond.methodLink own index y).before args s = true ∧ (Cond.instanceMethod y).before args s = true ∧ (Cond.selects C y y).before args s = true
theorem vx_cwVW {own C : String} {index maxL mc ms : Nat} {y : MethodName} {bytes : ByteArray} {ret : Option FieldType} {hh : List (Nat × Nat × Nat × Nat)} {Ts ws ws' : List Cond} {rm : Room} (n : Nat) (ht : ∀ w ∈ Ts, w.before args s = true) (hT : GoodIn Ts (wsV own index C y ws)) (hw : ws = Cond.codeWith y bytes maxL ret hh :: ws') (hrc : rm.cells = mc) (hrs : rm.slots = ms)
    (hd : y.cls = C ∧ y.cls ≠ "java/lang/invoke/MethodHandle" ∧ y.cls ≠ "java/lang/invoke/VarHandle" ∧ (parseMethodDescriptor y.desc).map (fun d => d.parameters.length) = some n) (hR : rm.frames + 1 ≤ R.frames ∧ 8 + (maxL + 11) + rm.locals ≤ R.locals) :
    vx_CVW R s args own C index y bytes maxL ret hh ws rm mc ms n := by
  obtain ⟨hC, hd⟩ := hd
  subst hC
  have ok : ∀ w ∈ wsV own index y.cls y ws, w.before args s = true := fun w h => ht w (hT w h).1
  have hG : GoodIn Ts ws := fun w h => hT w (by unfold wsV; exact List.mem_append_right _ h)
  have hc : Cond.codeWith y bytes maxL ret hh ∈ ws := by rw [hw]; exact List.mem_cons_self
  refine ⟨⟨hrc, hrs, hR.1, hR.2, pay_in ht hG, hc⟩, ht _ (hG _ hc).1, ok _ (by simp [wsV]), ⟨hd.1, hd.2.1⟩, fun sig h => ?_, ok _ (by simp [wsV]), ok _ (by simp [wsV]), ok _ (by simp [wsV])⟩
  have h2 := hd.2.2
  rw [h] at h2
  exact (Option.some.inj h2).symm
theorem vx_runVW {y : MethodName} {bytes cc : ByteArray} {maxL nL mc ms n index : Nat} {ret : Option FieldType} {hh : List (Nat × Nat × Nat × Nat)} {ws : List Cond} {rm : Room} {Pc : Array Value → State → Prop} {Qc : Array Value → State → Outcome → State → Prop} {free : Addr → Prop} {Ts : List Cond} {own C : String} {b : Addr} {As rest : List Value} {g : JFrame}
    (S : CallFix p m c cc nL s args Ts own) (hM : Met l y ws rm Pc Qc mc ms free) (cw : vx_CVW R s args own C index y bytes maxL ret hh ws rm mc ms n) (hp : PreV s H C b Pc As)
    (hg : g.method = m) (hn : As.length = n) (hsize : g.locals.size = nL) (hstack : g.stack = As.reverse ++ .ref b :: rest) (hW : 2 * g.monitorRoom + (rest.map fun v => v.category).sum ≤ 8) (hdg : decode cc g.pc = .ok (.invokevirtual index, 3)) (hf : cells + mc ≤ R.cells ∧ slots + ms ≤ R.slots) :
    va_Run p l e R s m args below meth c H locs cells slots mc ms g rest (Qc (Value.ref b :: As).toArray) free := by
  obtain ⟨⟨hrc, hrs, hfr, hlo, hws, hcw⟩, hcode, hini, hy, hlen, hl, hin, hse⟩ := cw
  have hK : Back l R p e below s args y 3 8 (PreOf R mc ms Pc) (PostOf Qc mc ms free) := va_backW (hh := hh) (bytes := bytes) (maxL := maxL) (ret := ret) hM hp.1 hrc hrs hfr hlo hws hcw (fun a' U hW => word_at hW (Or.inl (by first | rfl | simp [Cond.onTables, Cond.keeps, Cond.steady])) hini)
  obtain ⟨hx, hb, hml, ho, -⟩ := S
  obtain ⟨-, ⟨cellB, hcB, hoB, hclB⟩, hPc⟩ := hp
  intro T hT X
  obtain ⟨v, vm₁, ⟨U', l2, c2, s2⟩, hW₁, X', ⟨g', mk, t, L, e1, e2, hq, h1, hL, h2, h3⟩, st⟩ := vx_callVW X hx (C := C) (hh := hh) (bytes := bytes) (maxL := maxL) (ret := ret) ho hl hin hse hcode hy hK (by rw [hT]; exact hcB) hoB hclB hg (hsize.trans hml.symm) (argsL := As) (rest := rest) (fun sig h => hn.trans (hlen sig h)) hstack hW (by rw [hb]; exact hdg)
    (fun vm₁ hW₁ => ⟨hf.1, hf.2, hPc (T.setVm vm₁) hT hW₁⟩)
  dsimp only [Pt.U, Pt.locs, Pt.cells, Pt.slots] at X' e1 e2 h1 h2 h3 st
  subst h1; subst h2; subst h3
  exact ⟨v, (T.setVm vm₁).calling g' mk (Value.ref b :: As).toArray, t, U', L, hT, X', hL, e1, e2, hq, st⟩
section
variable {y : MethodName} {bytes cc : ByteArray} {maxL nL mc ms n index : Nat} {ret : Option FieldType} {ws : List Cond} {rm : Room} {Pc : Array Value → State → Prop} {Qc : Array Value → State → Outcome → State → Prop} {XC : String → State → State → Prop} {free : Addr → Prop} {Ts : List Cond} {own C : String} {b : Addr} {As rest : List Value} {g : JFrame}
theorem vx_runVX {hh : List (Nat × Nat × Nat × Nat)} (S : CallFix p m c cc nL s args Ts own) (hM : vx_Met l y ws rm Pc Qc XC mc ms free) (cw : vx_CVW R s args own C index y bytes maxL ret hh ws rm mc ms n) (hp : PreV s H C b Pc As)
    (hg : g.method = m) (hn : As.length = n) (hsize : g.locals.size = nL) (hstack : g.stack = As.reverse ++ .ref b :: rest) (hW : 2 * g.monitorRoom + (rest.map fun v => v.category).sum ≤ 8) (hdg : decode cc g.pc = .ok (.invokevirtual index, 3)) (hf : cells + mc ≤ R.cells ∧ slots + ms ≤ R.slots) :
    vx_Run p l e R s m args below meth c H locs cells slots mc ms g rest (Qc (Value.ref b :: As).toArray) XC free := by
  obtain ⟨⟨hrc, hrs, hfr, hlo, hws, hcw⟩, hcode, hini, hy, hlen, hl, hin, hse⟩ := cw
  have hK : vx_Back l R p e below s args y 3 8 (PreOf R mc ms Pc) (PostOf Qc mc ms free) (vx_Post XC mc ms free) := vx_backW (hh := hh) (bytes := bytes) (maxL := maxL) (ret := ret) hM hp.1 hrc hrs hfr hlo hws hcw (fun a' U hW => word_at hW (Or.inl (by first | rfl | simp [Cond.onTables, Cond.keeps, Cond.steady])) hini)
  obtain ⟨hx, hb, hml, ho, -⟩ := S
  obtain ⟨-, ⟨cellB, hcB, hoB, hclB⟩, hPc⟩ := hp
  intro T hT X
  rcases vx_callVX X hx (C := C) (hh := hh) (bytes := bytes) (maxL := maxL) (ret := ret) ho hl hin hse hcode hy hK (by rw [hT]; exact hcB) hoB hclB hg (hsize.trans hml.symm) (argsL := As) (rest := rest) (fun sig h => hn.trans (hlen sig h)) hstack hW (by rw [hb]; exact hdg)
    (fun vm₁ hW₁ => ⟨hf.1, hf.2, hPc (T.setVm vm₁) hT hW₁⟩) with ⟨v, vm₁, ⟨U', l2, c2, s2⟩, hW₁, X', ⟨g', mk, t, L, e1, e2, hq, h1, hL, h2, h3⟩, st⟩ | ⟨q, vm₁, ⟨U', l2, c2, s2⟩, hW₁, X', ⟨g', mk, t, L, E, ce, e1, e2, hq, hce, hcv, hcl, h1, hL, h2, h3⟩, st⟩
  · dsimp only [Pt.U, Pt.locs, Pt.cells, Pt.slots] at X' e1 e2 h1 h2 h3 st
    subst h1; subst h2; subst h3
    exact Or.inl ⟨v, (T.setVm vm₁).calling g' mk (Value.ref b :: As).toArray, t, U', L, hT, X', hL, e1, e2, hq, st⟩
  · dsimp only [Pt.U, Pt.locs, Pt.cells, Pt.slots] at X' e1 e2 h1 h2 h3 st hcl
    subst h1; subst h2; subst h3
    exact Or.inr ⟨q, (T.setVm vm₁).calling g' mk (Value.ref b :: As).toArray, t, U', L, E, ce, hT, X', hL, e1, e2, hq, hce, hcv, vx_cls hW₁ hcl, st⟩
theorem vx_runSX {hh : List (Nat × Nat × Nat × Nat)} (S : CallFix p m c cc nL s args Ts own) (hM : vx_Met l y ws rm Pc Qc XC mc ms free) (cw : vx_CSW R s args own index y bytes maxL ret hh ws rm mc ms n) (hp : PreS s H Pc As)
    (hg : g.method = m) (hn : As.length = n) (hsize : g.locals.size = nL) (hstack : g.stack = As.reverse ++ rest) (hW : 2 * g.monitorRoom + (rest.map fun v => v.category).sum ≤ 8) (hdg : decode cc g.pc = .ok (.invokestatic index, 3)) (hf : cells + mc ≤ R.cells ∧ slots + ms ≤ R.slots) :
    vx_Run p l e R s m args below meth c H locs cells slots mc ms g rest (Qc As.toArray) XC free := by
  obtain ⟨⟨hrc, hrs, hfr, hlo, hws, hcw⟩, hcode, hini, hy, hlen, hl, hstt⟩ := cw
  have hK : vx_Back l R p e below s args y 3 8 (PreOf R mc ms Pc) (PostOf Qc mc ms free) (vx_Post XC mc ms free) := vx_backW (hh := hh) (bytes := bytes) (maxL := maxL) (ret := ret) hM hp.1 hrc hrs hfr hlo hws hcw (fun a' U hW => word_at hW (Or.inl (by first | rfl | simp [Cond.onTables, Cond.keeps, Cond.steady])) hini)
  obtain ⟨hx, hb, hml, ho, -⟩ := S
  intro T hT X
  rcases vx_callSX X hx (hh := hh) (bytes := bytes) (maxL := maxL) (ret := ret) ho hl hstt hini hcode hy hK hg (hsize.trans hml.symm) (argsL := As) (rest := rest) (fun sig h => hn.trans (hlen sig h)) hstack hW (by rw [hb]; exact hdg)
    (fun vm₁ hW₁ => ⟨hf.1, hf.2, hp.2 (T.setVm vm₁) hT hW₁⟩) with ⟨v, vm₁, ⟨U', l2, c2, s2⟩, hW₁, X', ⟨g', mk, t, L, e1, e2, hq, h1, hL, h2, h3⟩, st⟩ | ⟨q, vm₁, ⟨U', l2, c2, s2⟩, hW₁, X', ⟨g', mk, t, L, E, ce, e1, e2, hq, hce, hcv, hcl, h1, hL, h2, h3⟩, st⟩
  · dsimp only [Pt.U, Pt.locs, Pt.cells, Pt.slots] at X' e1 e2 h1 h2 h3 st
    subst h1; subst h2; subst h3
    exact Or.inl ⟨v, (T.setVm vm₁).calling g' mk As.toArray, t, U', L, hT, X', hL, e1, e2, hq, st⟩
  · dsimp only [Pt.U, Pt.locs, Pt.cells, Pt.slots] at X' e1 e2 h1 h2 h3 st hcl
    subst h1; subst h2; subst h3
    exact Or.inr ⟨q, (T.setVm vm₁).calling g' mk As.toArray, t, U', L, E, ce, hT, X', hL, e1, e2, hq, hce, hcv, vx_cls hW₁ hcl, st⟩
end
end VXH
theorem vx_ofWH {l : Launch} {y : MethodName} {ws ws' : List Cond} {rm : Room} {Pc : Array Value → State → Prop} {Qc : Array Value → State → Outcome → State → Prop} {XC : String → State → State → Prop} {mc ms : Nat} {free : Addr → Prop} {cc : ByteArray} {maxL : Nat} {ret : Option FieldType} {hh : List (Nat × Nat × Nat × Nat)}
    (hy : plainName y.cls = true) (hw : ws = Cond.codeWith y cc maxL ret hh :: ws')
    (body : ∀ p e s m args below meth c s₁, BodyLoose p l y (headSpec ws rm) cc maxL ret e s m args below meth c s₁ → c.maxLocals = maxL → Pc args s →
      W p l e (headSpec ws rm).room s m args below meth c s.heap [] 0 0 (vx_MQ below Qc XC args s mc ms free) (entryFrame m args maxL)) : vx_Met l y ws rm Pc Qc XC mc ms free := by
  refine MetFree.of_bodyS (code := cc) (maxLocals := maxL) (ret := ret) hy ?_ ?_
  · intro args s m h hn
    obtain ⟨m9, meth, c, hn9, h1, h2, h3, h4, -, h5, h6, -⟩ := Cond.codeWith_spec (atoms_spec (ws := ws) h _ (by rw [hw]; exact List.mem_cons_self))
    cases hn.symm.trans hn9
    exact ⟨meth, c, h1, h2, h3, h4, h5, h6⟩
  · intro p e s m args below meth c s₁ B hml hP _
    have hh0 : s₁.heap = s.heap := by rw [B.state]; rfl
    obtain ⟨t, a1, o, b1, b2, b3⟩ := body p e s m args below meth c s₁ B hml hP s₁ hh0 (Stand.of_body B)
    exact ⟨t, o, a1, b1, b2, b3⟩
/-! ===== END ===== -/

/-! names, fields: printed of the claim by its own program -/
def RX0 : String := "LossHouse$1"
def TX0 : u_T := fun k => match k with
  | _ => ("", "", "", false)
def tyX0 : Nat → FieldType := fun k => match k with
  | _ => .int
abbrev wsX00 : List Cond := u_ws RX0 TX0 0
theorem nmX0 : ∀ a, a < 0 → ∀ b, b < 0 → a ≠ b → (TX0 a).2.1 ≠ (TX0 b).2.1 := by decide +kernel
theorem tyX0_ok : ∀ k, k < 0 → parseFieldDescriptor (TX0 k).2.2.1 = some (tyX0 k) := by decide +kernel
def RX1 : String := "LossHouse$Cession"
def TX1 : u_T := fun k => match k with
  | 0 => ("LossHouse$Cession", "amounts", "[I", true)
  | 1 => ("LossHouse$Cession", "bears", "[[I", true)
  | 2 => ("LossHouse$Cession", "yearLosses", "[[I", true)
  | 3 => ("LossHouse$Cession", "claimLosses", "[I", true)
  | 4 => ("LossHouse$Cession", "layers", "Ljava/util/List;", true)
  | _ => ("LossHouse$Cession", "claims", "Ljava/util/List;", true)
def tyX1 : Nat → FieldType := fun k => match k with
  | 0 => .array .int
  | 1 => .array (.array .int)
  | 2 => .array (.array .int)
  | 3 => .array .int
  | 4 => .object "java/util/List"
  | _ => .object "java/util/List"
abbrev wsX10 : List Cond := u_ws RX1 TX1 6
theorem nmX1 : ∀ a, a < 6 → ∀ b, b < 6 → a ≠ b → (TX1 a).2.1 ≠ (TX1 b).2.1 := by decide +kernel
theorem tyX1_ok : ∀ k, k < 6 → parseFieldDescriptor (TX1 k).2.2.1 = some (tyX1 k) := by decide +kernel
abbrev cX1_init : ByteArray := prog_3_method_1_code
def yX1_init : MethodName := ⟨RX1, "<init>", "(Ljava/util/List;Ljava/util/List;)V"⟩
abbrev cX1_cedeAhead : ByteArray := prog_3_method_2_code
def yX1_cedeAhead : MethodName := ⟨RX1, "cedeAhead", "(II)V"⟩
abbrev cX1_cede : ByteArray := prog_3_method_3_code
def yX1_cede : MethodName := ⟨RX1, "cede", "(II)V"⟩
abbrev cX1_subject : ByteArray := prog_3_method_4_code
def yX1_subject : MethodName := ⟨RX1, "subject", "(LLossHouse$Layer;II)I"⟩
abbrev cX1_given : ByteArray := prog_3_method_5_code
def yX1_given : MethodName := ⟨RX1, "given", "(II)I"⟩
abbrev cX1_allGiven : ByteArray := prog_3_method_6_code
def yX1_allGiven : MethodName := ⟨RX1, "allGiven", "(I)I"⟩
abbrev cX1_leftOf : ByteArray := prog_3_method_7_code
def yX1_leftOf : MethodName := ⟨RX1, "leftOf", "(I)I"⟩
abbrev cX1_allLeft : ByteArray := prog_3_method_8_code
def yX1_allLeft : MethodName := ⟨RX1, "allLeft", "()I"⟩
abbrev cX1_borneIn : ByteArray := prog_3_method_9_code
def yX1_borneIn : MethodName := ⟨RX1, "borneIn", "(II)I"⟩
abbrev cX1_chargedIn : ByteArray := prog_3_method_10_code
def yX1_chargedIn : MethodName := ⟨RX1, "chargedIn", "(II)I"⟩
abbrev cX1_allCharged : ByteArray := prog_3_method_11_code
def yX1_allCharged : MethodName := ⟨RX1, "allCharged", "()I"⟩
abbrev cX1_borneClaims : ByteArray := prog_3_method_12_code
def yX1_borneClaims : MethodName := ⟨RX1, "borneClaims", "(II)I"⟩
def RX2 : String := "LossHouse$Checker"
def TX2 : u_T := fun k => match k with
  | 0 => ("LossHouse$Checker", "tokens", "LLossHouse$Tokens;", true)
  | 1 => ("LossHouse$Checker", "names", "[J", true)
  | 2 => ("LossHouse$Checker", "count", "I", false)
  | _ => ("LossHouse$Checker", "wrong", "I", false)
def tyX2 : Nat → FieldType := fun k => match k with
  | 0 => .object "LossHouse$Tokens"
  | 1 => .array .long
  | 2 => .int
  | _ => .int
abbrev wsX20 : List Cond := u_ws RX2 TX2 4
theorem nmX2 : ∀ a, a < 4 → ∀ b, b < 4 → a ≠ b → (TX2 a).2.1 ≠ (TX2 b).2.1 := by decide +kernel
theorem tyX2_ok : ∀ k, k < 4 → parseFieldDescriptor (TX2 k).2.2.1 = some (tyX2 k) := by decide +kernel
abbrev cX2_init : ByteArray := prog_4_method_1_code
def yX2_init : MethodName := ⟨RX2, "<init>", "(LLossHouse$Tokens;)V"⟩
abbrev cX2_check : ByteArray := prog_4_method_2_code
def yX2_check : MethodName := ⟨RX2, "check", "(Ljava/util/List;)I"⟩
abbrev cX2_wrongToken : ByteArray := prog_4_method_3_code
def yX2_wrongToken : MethodName := ⟨RX2, "wrongToken", "()I"⟩
abbrev cX2_errorOf : ByteArray := prog_4_method_4_code
def yX2_errorOf : MethodName := ⟨RX2, "errorOf", "(ILjava/util/List;)I"⟩
abbrev cX2_nameLayer : ByteArray := prog_4_method_5_code
def yX2_nameLayer : MethodName := ⟨RX2, "nameLayer", "(J)I"⟩
abbrev cX2_netError : ByteArray := prog_4_method_6_code
def yX2_netError : MethodName := ⟨RX2, "netError", "(LLossHouse$Layer;J)I"⟩
abbrev cX2_layerNamed : ByteArray := prog_4_method_7_code
def yX2_layerNamed : MethodName := ⟨RX2, "layerNamed", "(JI)I"⟩
def RX3 : String := "LossHouse$Claim"
def TX3 : u_T := fun k => match k with
  | 0 => ("LossHouse$Claim", "year", "I", true)
  | 1 => ("LossHouse$Claim", "line", "I", true)
  | 2 => ("LossHouse$Claim", "paid", "I", false)
  | 3 => ("LossHouse$Claim", "reserve", "I", false)
  | 4 => ("LossHouse$Claim", "isOpen", "Z", false)
  | 5 => ("LossHouse$Claim", "paidAt", "[I", true)
  | _ => ("LossHouse$Claim", "incurredAt", "[I", true)
def tyX3 : Nat → FieldType := fun k => match k with
  | 0 => .int
  | 1 => .int
  | 2 => .int
  | 3 => .int
  | 4 => .boolean
  | 5 => .array .int
  | _ => .array .int
abbrev wsX30 : List Cond := u_ws RX3 TX3 7
theorem nmX3 : ∀ a, a < 7 → ∀ b, b < 7 → a ≠ b → (TX3 a).2.1 ≠ (TX3 b).2.1 := by decide +kernel
theorem tyX3_ok : ∀ k, k < 7 → parseFieldDescriptor (TX3 k).2.2.1 = some (tyX3 k) := by decide +kernel
abbrev cX3_init : ByteArray := prog_5_method_1_code
def yX3_init : MethodName := ⟨RX3, "<init>", "(III)V"⟩
abbrev cX3_writeDown : ByteArray := prog_5_method_2_code
def yX3_writeDown : MethodName := ⟨RX3, "writeDown", "(I)V"⟩
abbrev cX3_known : ByteArray := prog_5_method_3_code
def yX3_known : MethodName := ⟨RX3, "known", "(IIZ)I"⟩
def RX4 : String := "LossHouse$Formula"
def TX4 : u_T := fun k => match k with
  | 0 => ("LossHouse$Formula", "steps", "[LLossHouse$Sign;", true)
  | 1 => ("LossHouse$Formula", "numbers", "[I", true)
  | _ => ("LossHouse$Formula", "stack", "[I", true)
def tyX4 : Nat → FieldType := fun k => match k with
  | 0 => .array (.object "LossHouse$Sign")
  | 1 => .array .int
  | _ => .array .int
abbrev wsX40 : List Cond := u_ws RX4 TX4 3
theorem nmX4 : ∀ a, a < 3 → ∀ b, b < 3 → a ≠ b → (TX4 a).2.1 ≠ (TX4 b).2.1 := by decide +kernel
theorem tyX4_ok : ∀ k, k < 3 → parseFieldDescriptor (TX4 k).2.2.1 = some (tyX4 k) := by decide +kernel
abbrev cX4_init : ByteArray := prog_6_method_1_code
def yX4_init : MethodName := ⟨RX4, "<init>", "([LLossHouse$Sign;[II)V"⟩
abbrev cX4_value : ByteArray := prog_6_method_2_code
def yX4_value : MethodName := ⟨RX4, "value", "(III)I"⟩
abbrev cX4_valueOfYear : ByteArray := prog_6_method_3_code
def yX4_valueOfYear : MethodName := ⟨RX4, "valueOfYear", "(I)I"⟩
abbrev cX4_leaf : ByteArray := prog_6_method_4_code
def yX4_leaf : MethodName := ⟨RX4, "leaf", "(LLossHouse$Sign;IIII)I"⟩
abbrev cX4_join : ByteArray := prog_6_method_5_code
def yX4_join : MethodName := ⟨RX4, "join", "(LLossHouse$Sign;II)I"⟩
def RX5 : String := "LossHouse$Layer"
def TX5 : u_T := fun k => match k with
  | 0 => ("LossHouse$Layer", "limit", "LLossHouse$Formula;", true)
  | 1 => ("LossHouse$Layer", "retention", "LLossHouse$Formula;", true)
  | 2 => ("LossHouse$Layer", "yearly", "LLossHouse$Formula;", false)
  | 3 => ("LossHouse$Layer", "after", "LLossHouse$Formula;", false)
  | 4 => ("LossHouse$Layer", "when", "LLossHouse$Formula;", false)
  | 5 => ("LossHouse$Layer", "share", "I", false)
  | 6 => ("LossHouse$Layer", "reinstate", "I", false)
  | 7 => ("LossHouse$Layer", "ats", "[I", true)
  | 8 => ("LossHouse$Layer", "atCount", "I", false)
  | 9 => ("LossHouse$Layer", "net", "I", false)
  | 10 => ("LossHouse$Layer", "yearLimits", "[I", true)
  | 11 => ("LossHouse$Layer", "yearRetentions", "[I", true)
  | 12 => ("LossHouse$Layer", "yearAfters", "[I", true)
  | _ => ("LossHouse$Layer", "yearBounds", "[J", true)
def tyX5 : Nat → FieldType := fun k => match k with
  | 0 => .object "LossHouse$Formula"
  | 1 => .object "LossHouse$Formula"
  | 2 => .object "LossHouse$Formula"
  | 3 => .object "LossHouse$Formula"
  | 4 => .object "LossHouse$Formula"
  | 5 => .int
  | 6 => .int
  | 7 => .array .int
  | 8 => .int
  | 9 => .int
  | 10 => .array .int
  | 11 => .array .int
  | 12 => .array .int
  | _ => .array .long
abbrev wsX50 : List Cond := u_ws RX5 TX5 14
theorem nmX5 : ∀ a, a < 14 → ∀ b, b < 14 → a ≠ b → (TX5 a).2.1 ≠ (TX5 b).2.1 := by decide +kernel
theorem tyX5_ok : ∀ k, k < 14 → parseFieldDescriptor (TX5 k).2.2.1 = some (tyX5 k) := by decide +kernel
abbrev cX5_init : ByteArray := prog_7_method_1_code
def yX5_init : MethodName := ⟨RX5, "<init>", "(LLossHouse$Formula;LLossHouse$Formula;)V"⟩
abbrev cX5_takesShare : ByteArray := prog_7_method_2_code
def yX5_takesShare : MethodName := ⟨RX5, "takesShare", "(I)Z"⟩
abbrev cX5_takesReinstate : ByteArray := prog_7_method_3_code
def yX5_takesReinstate : MethodName := ⟨RX5, "takesReinstate", "(I)Z"⟩
abbrev cX5_takesAt : ByteArray := prog_7_method_4_code
def yX5_takesAt : MethodName := ⟨RX5, "takesAt", "(I)Z"⟩
abbrev cX5_settleYears : ByteArray := prog_7_method_5_code
def yX5_settleYears : MethodName := ⟨RX5, "settleYears", "()V"⟩
abbrev cX5_boundOf : ByteArray := prog_7_method_6_code
def yX5_boundOf : MethodName := ⟨RX5, "boundOf", "(I)J"⟩
abbrev cX5_tell : ByteArray := prog_7_method_7_code
def yX5_tell : MethodName := ⟨RX5, "tell", "(I)I"⟩
abbrev cX5_tellYear : ByteArray := prog_7_method_8_code
def yX5_tellYear : MethodName := ⟨RX5, "tellYear", "(II)I"⟩
abbrev cX5_isNetOf : ByteArray := prog_7_method_9_code
def yX5_isNetOf : MethodName := ⟨RX5, "isNetOf", "(I)Z"⟩
abbrev cX5_lossOf : ByteArray := prog_7_method_10_code
def yX5_lossOf : MethodName := ⟨RX5, "lossOf", "(LLossHouse$Claim;II)I"⟩
abbrev cX5_borneOf : ByteArray := prog_7_method_11_code
def yX5_borneOf : MethodName := ⟨RX5, "borneOf", "(II)I"⟩
abbrev cX5_shareOf : ByteArray := prog_7_method_12_code
def yX5_shareOf : MethodName := ⟨RX5, "shareOf", "(I)I"⟩
abbrev cX5_roomIn : ByteArray := prog_7_method_13_code
def yX5_roomIn : MethodName := ⟨RX5, "roomIn", "(II)I"⟩
abbrev cX5_chargeOf : ByteArray := prog_7_method_14_code
def yX5_chargeOf : MethodName := ⟨RX5, "chargeOf", "(II)I"⟩
def RX6 : String := "LossHouse$Parser"
def TX6 : u_T := fun k => match k with
  | 0 => ("LossHouse$Parser", "tokens", "LLossHouse$Tokens;", true)
  | 1 => ("LossHouse$Parser", "steps", "[LLossHouse$Sign;", true)
  | 2 => ("LossHouse$Parser", "numbers", "[I", true)
  | 3 => ("LossHouse$Parser", "stepCount", "I", false)
  | 4 => ("LossHouse$Parser", "next", "I", false)
  | _ => ("LossHouse$Parser", "sign", "LLossHouse$Sign;", false)
def tyX6 : Nat → FieldType := fun k => match k with
  | 0 => .object "LossHouse$Tokens"
  | 1 => .array (.object "LossHouse$Sign")
  | 2 => .array .int
  | 3 => .int
  | 4 => .int
  | _ => .object "LossHouse$Sign"
abbrev wsX60 : List Cond := u_ws RX6 TX6 6
theorem nmX6 : ∀ a, a < 6 → ∀ b, b < 6 → a ≠ b → (TX6 a).2.1 ≠ (TX6 b).2.1 := by decide +kernel
theorem tyX6_ok : ∀ k, k < 6 → parseFieldDescriptor (TX6 k).2.2.1 = some (tyX6 k) := by decide +kernel
abbrev cX6_init : ByteArray := prog_8_method_1_code
def yX6_init : MethodName := ⟨RX6, "<init>", "(LLossHouse$Tokens;)V"⟩
abbrev cX6_parse : ByteArray := prog_8_method_2_code
def yX6_parse : MethodName := ⟨RX6, "parse", "()Ljava/util/List;"⟩
abbrev cX6_wrongToken : ByteArray := prog_8_method_3_code
def yX6_wrongToken : MethodName := ⟨RX6, "wrongToken", "()I"⟩
abbrev cX6_readLayer : ByteArray := prog_8_method_4_code
def yX6_readLayer : MethodName := ⟨RX6, "readLayer", "()LLossHouse$Layer;"⟩
abbrev cX6_takes : ByteArray := prog_8_method_5_code
def yX6_takes : MethodName := ⟨RX6, "takes", "(LLossHouse$Sign;)Z"⟩
abbrev cX6_takesDeeper : ByteArray := prog_8_method_6_code
def yX6_takesDeeper : MethodName := ⟨RX6, "takesDeeper", "(LLossHouse$Sign;I)Z"⟩
abbrev cX6_need : ByteArray := prog_8_method_7_code
def yX6_need : MethodName := ⟨RX6, "need", "(LLossHouse$Sign;)V"⟩
abbrev cX6_needEach : ByteArray := prog_8_method_8_code
def yX6_needEach : MethodName := ⟨RX6, "needEach", "(LLossHouse$Sign;LLossHouse$Sign;)V"⟩
abbrev cX6_step : ByteArray := prog_8_method_9_code
def yX6_step : MethodName := ⟨RX6, "step", "(LLossHouse$Sign;I)V"⟩
abbrev cX6_readSum : ByteArray := prog_8_method_10_code
def yX6_readSum : MethodName := ⟨RX6, "readSum", "()LLossHouse$Formula;"⟩
abbrev cX6_readTest : ByteArray := prog_8_method_11_code
def yX6_readTest : MethodName := ⟨RX6, "readTest", "()LLossHouse$Formula;"⟩
abbrev cX6_test : ByteArray := prog_8_method_12_code
def yX6_test : MethodName := ⟨RX6, "test", "(I)V"⟩
abbrev cX6_both : ByteArray := prog_8_method_13_code
def yX6_both : MethodName := ⟨RX6, "both", "(I)V"⟩
abbrev cX6_single : ByteArray := prog_8_method_14_code
def yX6_single : MethodName := ⟨RX6, "single", "(I)V"⟩
abbrev cX6_sum : ByteArray := prog_8_method_15_code
def yX6_sum : MethodName := ⟨RX6, "sum", "(I)V"⟩
abbrev cX6_product : ByteArray := prog_8_method_16_code
def yX6_product : MethodName := ⟨RX6, "product", "(I)V"⟩
abbrev cX6_value : ByteArray := prog_8_method_17_code
def yX6_value : MethodName := ⟨RX6, "value", "(I)V"⟩
abbrev cX6_pair : ByteArray := prog_8_method_18_code
def yX6_pair : MethodName := ⟨RX6, "pair", "(I)V"⟩
def RX7 : String := "LossHouse$Sign"
def TX7 : u_T := fun k => match k with
  | _ => ("", "", "", false)
def tyX7 : Nat → FieldType := fun k => match k with
  | _ => .int
abbrev wsX70 : List Cond := u_ws RX7 TX7 0
theorem nmX7 : ∀ a, a < 0 → ∀ b, b < 0 → a ≠ b → (TX7 a).2.1 ≠ (TX7 b).2.1 := by decide +kernel
theorem tyX7_ok : ∀ k, k < 0 → parseFieldDescriptor (TX7 k).2.2.1 = some (tyX7 k) := by decide +kernel
abbrev cX7_isComparison : ByteArray := prog_9_method_4_code
def yX7_isComparison : MethodName := ⟨RX7, "isComparison", "()Z"⟩
def RX8 : String := "LossHouse$Tape"
def TX8 : u_T := fun k => match k with
  | 0 => ("LossHouse$Tape", "bytes", "[B", true)
  | _ => ("LossHouse$Tape", "length", "I", false)
def tyX8 : Nat → FieldType := fun k => match k with
  | 0 => .array .byte
  | _ => .int
abbrev wsX80 : List Cond := u_ws RX8 TX8 2
theorem nmX8 : ∀ a, a < 2 → ∀ b, b < 2 → a ≠ b → (TX8 a).2.1 ≠ (TX8 b).2.1 := by decide +kernel
theorem tyX8_ok : ∀ k, k < 2 → parseFieldDescriptor (TX8 k).2.2.1 = some (tyX8 k) := by decide +kernel
abbrev cX8_init : ByteArray := prog_10_method_1_code
def yX8_init : MethodName := ⟨RX8, "<init>", "()V"⟩
abbrev cX8_append : ByteArray := prog_10_method_2_code
def yX8_append : MethodName := ⟨RX8, "append", "(I)V"⟩
abbrev cX8_byteAt : ByteArray := prog_10_method_3_code
def yX8_byteAt : MethodName := ⟨RX8, "byteAt", "(I)I"⟩
abbrev cX8_isLetter : ByteArray := prog_10_method_4_code
def yX8_isLetter : MethodName := ⟨RX8, "isLetter", "(I)Z"⟩
abbrev cX8_isDigit : ByteArray := prog_10_method_5_code
def yX8_isDigit : MethodName := ⟨RX8, "isDigit", "(I)Z"⟩
abbrev cX8_behindBlanks : ByteArray := prog_10_method_6_code
def yX8_behindBlanks : MethodName := ⟨RX8, "behindBlanks", "(I)I"⟩
abbrev cX8_behindDigits : ByteArray := prog_10_method_7_code
def yX8_behindDigits : MethodName := ⟨RX8, "behindDigits", "(I)I"⟩
abbrev cX8_behindWord : ByteArray := prog_10_method_8_code
def yX8_behindWord : MethodName := ⟨RX8, "behindWord", "(I)I"⟩
abbrev cX8_spells : ByteArray := prog_10_method_9_code
def yX8_spells : MethodName := ⟨RX8, "spells", "(Ljava/lang/String;II)Z"⟩
abbrev cX8_numberAt : ByteArray := prog_10_method_10_code
def yX8_numberAt : MethodName := ⟨RX8, "numberAt", "(II)I"⟩
abbrev cX8_wordAt : ByteArray := prog_10_method_11_code
def yX8_wordAt : MethodName := ⟨RX8, "wordAt", "(II)J"⟩
def RX9 : String := "LossHouse$Tokens"
def TX9 : u_T := fun k => match k with
  | 0 => ("LossHouse$Tokens", "signs", "[LLossHouse$Sign;", true)
  | 1 => ("LossHouse$Tokens", "starts", "[I", true)
  | 2 => ("LossHouse$Tokens", "numbers", "[I", true)
  | 3 => ("LossHouse$Tokens", "words", "[J", true)
  | _ => ("LossHouse$Tokens", "count", "I", false)
def tyX9 : Nat → FieldType := fun k => match k with
  | 0 => .array (.object "LossHouse$Sign")
  | 1 => .array .int
  | 2 => .array .int
  | 3 => .array .long
  | _ => .int
abbrev wsX90 : List Cond := u_ws RX9 TX9 5
theorem nmX9 : ∀ a, a < 5 → ∀ b, b < 5 → a ≠ b → (TX9 a).2.1 ≠ (TX9 b).2.1 := by decide +kernel
theorem tyX9_ok : ∀ k, k < 5 → parseFieldDescriptor (TX9 k).2.2.1 = some (tyX9 k) := by decide +kernel
abbrev cX9_init : ByteArray := prog_11_method_1_code
def yX9_init : MethodName := ⟨RX9, "<init>", "()V"⟩
abbrev cX9_read : ByteArray := prog_11_method_2_code
def yX9_read : MethodName := ⟨RX9, "read", "(LLossHouse$Tape;)V"⟩
abbrev cX9_endOf : ByteArray := prog_11_method_3_code
def yX9_endOf : MethodName := ⟨RX9, "endOf", "(LLossHouse$Tape;I)I"⟩
abbrev cX9_signOf : ByteArray := prog_11_method_4_code
def yX9_signOf : MethodName := ⟨RX9, "signOf", "(LLossHouse$Tape;II)LLossHouse$Sign;"⟩
abbrev cX9_keyword : ByteArray := prog_11_method_5_code
def yX9_keyword : MethodName := ⟨RX9, "keyword", "(LLossHouse$Tape;II)LLossHouse$Sign;"⟩
abbrev cX9_signAt : ByteArray := prog_11_method_6_code
def yX9_signAt : MethodName := ⟨RX9, "signAt", "(I)LLossHouse$Sign;"⟩
abbrev cX9_startOf : ByteArray := prog_11_method_7_code
def yX9_startOf : MethodName := ⟨RX9, "startOf", "(I)I"⟩
abbrev cX9_numberAt : ByteArray := prog_11_method_8_code
def yX9_numberAt : MethodName := ⟨RX9, "numberAt", "(I)I"⟩
abbrev cX9_wordAt : ByteArray := prog_11_method_9_code
def yX9_wordAt : MethodName := ⟨RX9, "wordAt", "(I)J"⟩
def RX10 : String := "LossHouse$Triangle"
def TX10 : u_T := fun k => match k with
  | 0 => ("LossHouse$Triangle", "cells", "[[I", true)
  | _ => ("LossHouse$Triangle", "now", "I", false)
def tyX10 : Nat → FieldType := fun k => match k with
  | 0 => .array (.array .int)
  | _ => .int
abbrev wsX100 : List Cond := u_ws RX10 TX10 2
theorem nmX10 : ∀ a, a < 2 → ∀ b, b < 2 → a ≠ b → (TX10 a).2.1 ≠ (TX10 b).2.1 := by decide +kernel
theorem tyX10_ok : ∀ k, k < 2 → parseFieldDescriptor (TX10 k).2.2.1 = some (tyX10 k) := by decide +kernel
abbrev cX10_init : ByteArray := prog_12_method_1_code
def yX10_init : MethodName := ⟨RX10, "<init>", "()V"⟩
abbrev cX10_begin : ByteArray := prog_12_method_2_code
def yX10_begin : MethodName := ⟨RX10, "begin", "(I)V"⟩
abbrev cX10_nowOf : ByteArray := prog_12_method_3_code
def yX10_nowOf : MethodName := ⟨RX10, "nowOf", "(I)I"⟩
abbrev cX10_factorAt : ByteArray := prog_12_method_4_code
def yX10_factorAt : MethodName := ⟨RX10, "factorAt", "(I)I"⟩
abbrev cX10_ultimateOf : ByteArray := prog_12_method_5_code
def yX10_ultimateOf : MethodName := ⟨RX10, "ultimateOf", "(II)I"⟩
abbrev cX10_growthOf : ByteArray := prog_12_method_6_code
def yX10_growthOf : MethodName := ⟨RX10, "growthOf", "(II)I"⟩
abbrev cX10_grown : ByteArray := prog_12_method_7_code
def yX10_grown : MethodName := ⟨RX10, "grown", "(JII)I"⟩
def RX11 : String := "LossHouse"
def TX11 : u_T := fun k => match k with
  | 0 => ("LossHouse", "tape", "LLossHouse$Tape;", true)
  | 1 => ("LossHouse", "tokens", "LLossHouse$Tokens;", true)
  | 2 => ("LossHouse", "parser", "LLossHouse$Parser;", true)
  | 3 => ("LossHouse", "checker", "LLossHouse$Checker;", true)
  | 4 => ("LossHouse", "layers", "Ljava/util/ArrayList;", true)
  | 5 => ("LossHouse", "claims", "Ljava/util/ArrayList;", true)
  | 6 => ("LossHouse", "paidNow", "LLossHouse$Cession;", true)
  | 7 => ("LossHouse", "incurredNow", "LLossHouse$Cession;", true)
  | 8 => ("LossHouse", "trial", "LLossHouse$Cession;", true)
  | 9 => ("LossHouse", "triangles", "[LLossHouse$Triangle;", true)
  | 10 => ("LossHouse", "premiums", "[I", true)
  | 11 => ("LossHouse", "expecteds", "[I", true)
  | 12 => ("LossHouse", "now", "I", false)
  | 13 => ("LossHouse", "tail", "I", false)
  | _ => ("LossHouse", "errorPosition", "I", false)
def tyX11 : Nat → FieldType := fun k => match k with
  | 0 => .object "LossHouse$Tape"
  | 1 => .object "LossHouse$Tokens"
  | 2 => .object "LossHouse$Parser"
  | 3 => .object "LossHouse$Checker"
  | 4 => .object "java/util/ArrayList"
  | 5 => .object "java/util/ArrayList"
  | 6 => .object "LossHouse$Cession"
  | 7 => .object "LossHouse$Cession"
  | 8 => .object "LossHouse$Cession"
  | 9 => .array (.object "LossHouse$Triangle")
  | 10 => .array .int
  | 11 => .array .int
  | 12 => .int
  | 13 => .int
  | _ => .int
abbrev wsX110 : List Cond := u_ws RX11 TX11 15
theorem nmX11 : ∀ a, a < 15 → ∀ b, b < 15 → a ≠ b → (TX11 a).2.1 ≠ (TX11 b).2.1 := by decide +kernel
theorem tyX11_ok : ∀ k, k < 15 → parseFieldDescriptor (TX11 k).2.2.1 = some (tyX11 k) := by decide +kernel
abbrev cX11_init : ByteArray := prog_1_method_1_code
def yX11_init : MethodName := ⟨RX11, "<init>", "()V"⟩
abbrev cX11_feed : ByteArray := prog_1_method_2_code
def yX11_feed : MethodName := ⟨RX11, "feed", "(IIIII)I"⟩
abbrev cX11_trim : ByteArray := prog_1_method_3_code
def yX11_trim : MethodName := ⟨RX11, "trim", "(I)I"⟩
abbrev cX11_teach : ByteArray := prog_1_method_4_code
def yX11_teach : MethodName := ⟨RX11, "teach", "()I"⟩
abbrev cX11_count : ByteArray := prog_1_method_6_code
def yX11_count : MethodName := ⟨RX11, "count", "(I)I"⟩
abbrev cX11_terms : ByteArray := prog_1_method_8_code
def yX11_terms : MethodName := ⟨RX11, "terms", "(III)I"⟩
abbrev cX11_open : ByteArray := prog_1_method_9_code
def yX11_open : MethodName := ⟨RX11, "open", "(III)I"⟩
abbrev cX11_pay : ByteArray := prog_1_method_10_code
def yX11_pay : MethodName := ⟨RX11, "pay", "(II)I"⟩
abbrev cX11_setReserve : ByteArray := prog_1_method_11_code
def yX11_setReserve : MethodName := ⟨RX11, "setReserve", "(II)I"⟩
abbrev cX11_close : ByteArray := prog_1_method_12_code
def yX11_close : MethodName := ⟨RX11, "close", "(IZ)I"⟩
abbrev cX11_claim : ByteArray := prog_1_method_13_code
def yX11_claim : MethodName := ⟨RX11, "claim", "(II)I"⟩
abbrev cX11_at : ByteArray := prog_1_method_14_code
def yX11_at : MethodName := ⟨RX11, "at", "(IIZ)I"⟩
abbrev cX11_gets : ByteArray := prog_1_method_15_code
def yX11_gets : MethodName := ⟨RX11, "gets", "(IIZ)I"⟩
abbrev cX11_used : ByteArray := prog_1_method_16_code
def yX11_used : MethodName := ⟨RX11, "used", "(III)I"⟩
abbrev cX11_nextYear : ByteArray := prog_1_method_17_code
def yX11_nextYear : MethodName := ⟨RX11, "nextYear", "()I"⟩
abbrev cX11_triangle : ByteArray := prog_1_method_20_code
def yX11_triangle : MethodName := ⟨RX11, "triangle", "(III)I"⟩
abbrev cX11_ultimate : ByteArray := prog_1_method_22_code
def yX11_ultimate : MethodName := ⟨RX11, "ultimate", "(IIZ)I"⟩
abbrev cX11_reserve : ByteArray := prog_1_method_23_code
def yX11_reserve : MethodName := ⟨RX11, "reserve", "(II)I"⟩
abbrev cX11_would : ByteArray := prog_1_method_25_code
def yX11_would : MethodName := ⟨RX11, "would", "(III)I"⟩
abbrev cX11_without : ByteArray := prog_1_method_26_code
def yX11_without : MethodName := ⟨RX11, "without", "(I)I"⟩
abbrev cX11_reaches : ByteArray := prog_1_method_27_code
def yX11_reaches : MethodName := ⟨RX11, "reaches", "(II)I"⟩
abbrev cX11_keenest : ByteArray := prog_1_method_28_code
def yX11_keenest : MethodName := ⟨RX11, "keenest", "()I"⟩
abbrev cX11_kept : ByteArray := prog_1_method_29_code
def yX11_kept : MethodName := ⟨RX11, "kept", "()D"⟩
abbrev cX11_digest : ByteArray := prog_1_method_30_code
def yX11_digest : MethodName := ⟨RX11, "digest", "()J"⟩
abbrev cX11_hasLayer : ByteArray := prog_1_method_31_code
def yX11_hasLayer : MethodName := ⟨RX11, "hasLayer", "(I)Z"⟩
abbrev cX11_hasClaim : ByteArray := prog_1_method_32_code
def yX11_hasClaim : MethodName := ⟨RX11, "hasClaim", "(I)Z"⟩
abbrev cX11_isYear : ByteArray := prog_1_method_33_code
def yX11_isYear : MethodName := ⟨RX11, "isYear", "(I)Z"⟩
abbrev cX11_isYearSoFar : ByteArray := prog_1_method_34_code
def yX11_isYearSoFar : MethodName := ⟨RX11, "isYearSoFar", "(I)Z"⟩
abbrev cX11_isReserve : ByteArray := prog_1_method_35_code
def yX11_isReserve : MethodName := ⟨RX11, "isReserve", "(I)Z"⟩
abbrev cX11_isKind : ByteArray := prog_1_method_36_code
def yX11_isKind : MethodName := ⟨RX11, "isKind", "(I)Z"⟩
abbrev cX11_isMethod : ByteArray := prog_1_method_37_code
def yX11_isMethod : MethodName := ⟨RX11, "isMethod", "(I)Z"⟩
abbrev cX11_adopt : ByteArray := prog_1_method_38_code
def yX11_adopt : MethodName := ⟨RX11, "adopt", "(Ljava/util/List;)V"⟩
abbrev cX11_tellAmounts : ByteArray := prog_1_method_39_code
def yX11_tellAmounts : MethodName := ⟨RX11, "tellAmounts", "(LLossHouse$Cession;Z)V"⟩
abbrev cX11_cedeNow : ByteArray := prog_1_method_40_code
def yX11_cedeNow : MethodName := ⟨RX11, "cedeNow", "(LLossHouse$Cession;ZI)V"⟩
abbrev cX11_fillTriangle : ByteArray := prog_1_method_41_code
def yX11_fillTriangle : MethodName := ⟨RX11, "fillTriangle", "(I)V"⟩
abbrev cX11_tellAmountsAt : ByteArray := prog_1_method_42_code
def yX11_tellAmountsAt : MethodName := ⟨RX11, "tellAmountsAt", "(IZ)V"⟩
abbrev cX11_countOf : ByteArray := prog_1_method_43_code
def yX11_countOf : MethodName := ⟨RX11, "countOf", "(I)I"⟩
abbrev cX11_openClaims : ByteArray := prog_1_method_44_code
def yX11_openClaims : MethodName := ⟨RX11, "openClaims", "()I"⟩
abbrev cX11_allPaid : ByteArray := prog_1_method_45_code
def yX11_allPaid : MethodName := ⟨RX11, "allPaid", "()I"⟩
abbrev cX11_allReserves : ByteArray := prog_1_method_46_code
def yX11_allReserves : MethodName := ⟨RX11, "allReserves", "()I"⟩
abbrev cX11_claimOf : ByteArray := prog_1_method_47_code
def yX11_claimOf : MethodName := ⟨RX11, "claimOf", "(II)I"⟩
abbrev cX11_usedOf : ByteArray := prog_1_method_48_code
def yX11_usedOf : MethodName := ⟨RX11, "usedOf", "(III)I"⟩
abbrev cX11_reserveOf : ByteArray := prog_1_method_49_code
def yX11_reserveOf : MethodName := ⟨RX11, "reserveOf", "(II)I"⟩
abbrev cX11_mix : ByteArray := prog_1_method_50_code
def yX11_mix : MethodName := ⟨RX11, "mix", "(JJ)J"⟩
abbrev cX11_mixLayers : ByteArray := prog_1_method_51_code
def yX11_mixLayers : MethodName := ⟨RX11, "mixLayers", "(J)J"⟩
abbrev cX11_mixClaims : ByteArray := prog_1_method_52_code
def yX11_mixClaims : MethodName := ⟨RX11, "mixClaims", "(J)J"⟩
abbrev cX11_mixYears : ByteArray := prog_1_method_53_code
def yX11_mixYears : MethodName := ⟨RX11, "mixYears", "(J)J"⟩
abbrev cX11_mixFactors : ByteArray := prog_1_method_54_code
def yX11_mixFactors : MethodName := ⟨RX11, "mixFactors", "(J)J"⟩
def RX12 : String := "LossHouseModel$Layer"
def TX12 : u_T := fun k => match k with
  | _ => ("", "", "", false)
def tyX12 : Nat → FieldType := fun k => match k with
  | _ => .int
abbrev wsX120 : List Cond := u_ws RX12 TX12 0
theorem nmX12 : ∀ a, a < 0 → ∀ b, b < 0 → a ≠ b → (TX12 a).2.1 ≠ (TX12 b).2.1 := by decide +kernel
theorem tyX12_ok : ∀ k, k < 0 → parseFieldDescriptor (TX12 k).2.2.1 = some (tyX12 k) := by decide +kernel
def RX13 : String := "LossHouseModel$Row"
def TX13 : u_T := fun k => match k with
  | _ => ("", "", "", false)
def tyX13 : Nat → FieldType := fun k => match k with
  | _ => .int
abbrev wsX130 : List Cond := u_ws RX13 TX13 0
theorem nmX13 : ∀ a, a < 0 → ∀ b, b < 0 → a ≠ b → (TX13 a).2.1 ≠ (TX13 b).2.1 := by decide +kernel
theorem tyX13_ok : ∀ k, k < 0 → parseFieldDescriptor (TX13 k).2.2.1 = some (tyX13 k) := by decide +kernel
def RX14 : String := "LossHouseModel"
def TX14 : u_T := fun k => match k with
  | _ => ("", "", "", false)
def tyX14 : Nat → FieldType := fun k => match k with
  | _ => .int
abbrev wsX140 : List Cond := u_ws RX14 TX14 0
theorem nmX14 : ∀ a, a < 0 → ∀ b, b < 0 → a ≠ b → (TX14 a).2.1 ≠ (TX14 b).2.1 := by decide +kernel
theorem tyX14_ok : ∀ k, k < 0 → parseFieldDescriptor (TX14 k).2.2.1 = some (tyX14 k) := by decide +kernel
def RJx145de : String := "java/io/Serializable"
def TJx145de : u_T := fun k => match k with
  | _ => ("", "", "", false)
def tyJx145de : Nat → FieldType := fun k => match k with
  | _ => .int
abbrev wsJx145de0 : List Cond := u_ws RJx145de TJx145de 0
theorem nmJx145de : ∀ a, a < 0 → ∀ b, b < 0 → a ≠ b → (TJx145de a).2.1 ≠ (TJx145de b).2.1 := by decide +kernel
theorem tyJx145de_ok : ∀ k, k < 0 → parseFieldDescriptor (TJx145de k).2.2.1 = some (tyJx145de k) := by decide +kernel
def RJ5 : String := "java/lang/AbstractStringBuilder"
def TJ5 : u_T := fun k => match k with
  | _ => ("", "", "", false)
def tyJ5 : Nat → FieldType := fun k => match k with
  | _ => .int
abbrev wsJ50 : List Cond := u_ws RJ5 TJ5 0
theorem nmJ5 : ∀ a, a < 0 → ∀ b, b < 0 → a ≠ b → (TJ5 a).2.1 ≠ (TJ5 b).2.1 := by decide +kernel
theorem tyJ5_ok : ∀ k, k < 0 → parseFieldDescriptor (TJ5 k).2.2.1 = some (tyJ5 k) := by decide +kernel
abbrev cJ5_init_d00df : ByteArray := prog_18_method_2_code
def yJ5_init_d00df : MethodName := ⟨RJ5, "<init>", "(I)V"⟩
abbrev cJ5_length_8abf5 : ByteArray := prog_18_method_6_code
def yJ5_length_8abf5 : MethodName := ⟨RJ5, "length", "()I"⟩
abbrev cJ5_ensureCapacityInternal_d00df : ByteArray := prog_18_method_9_code
def yJ5_ensureCapacityInternal_d00df : MethodName := ⟨RJ5, "ensureCapacityInternal", "(I)V"⟩
abbrev cJ5_newCapacity_0f7a4 : ByteArray := prog_18_method_10_code
def yJ5_newCapacity_0f7a4 : MethodName := ⟨RJ5, "newCapacity", "(I)I"⟩
abbrev cJ5_inflate_da8c8 : ByteArray := prog_18_method_11_code
def yJ5_inflate_da8c8 : MethodName := ⟨RJ5, "inflate", "()V"⟩
abbrev cJ5_append_cf1ce : ByteArray := prog_18_method_22_code
def yJ5_append_cf1ce : MethodName := ⟨RJ5, "append", "(Ljava/lang/String;)Ljava/lang/AbstractStringBuilder;"⟩
abbrev cJ5_appendNull_278bc : ByteArray := prog_18_method_26_code
def yJ5_appendNull_278bc : MethodName := ⟨RJ5, "appendNull", "()Ljava/lang/AbstractStringBuilder;"⟩
abbrev cJ5_append_c97b9 : ByteArray := prog_18_method_32_code
def yJ5_append_c97b9 : MethodName := ⟨RJ5, "append", "(I)Ljava/lang/AbstractStringBuilder;"⟩
abbrev cJ5_getValue_6d5f1 : ByteArray := prog_18_method_64_code
def yJ5_getValue_6d5f1 : MethodName := ⟨RJ5, "getValue", "()[B"⟩
abbrev cJ5_isLatin1_aae02 : ByteArray := prog_18_method_68_code
def yJ5_isLatin1_aae02 : MethodName := ⟨RJ5, "isLatin1", "()Z"⟩
abbrev cJ5_inflateIfNeededFor_a7421 : ByteArray := prog_18_method_71_code
def yJ5_inflateIfNeededFor_a7421 : MethodName := ⟨RJ5, "inflateIfNeededFor", "(Ljava/lang/String;)V"⟩
abbrev cJ5_putStringAt_47b60 : ByteArray := prog_18_method_73_code
def yJ5_putStringAt_47b60 : MethodName := ⟨RJ5, "putStringAt", "(ILjava/lang/String;)V"⟩
def RJx2cfe8 : String := "java/lang/Appendable"
def TJx2cfe8 : u_T := fun k => match k with
  | _ => ("", "", "", false)
def tyJx2cfe8 : Nat → FieldType := fun k => match k with
  | _ => .int
abbrev wsJx2cfe80 : List Cond := u_ws RJx2cfe8 TJx2cfe8 0
theorem nmJx2cfe8 : ∀ a, a < 0 → ∀ b, b < 0 → a ≠ b → (TJx2cfe8 a).2.1 ≠ (TJx2cfe8 b).2.1 := by decide +kernel
theorem tyJx2cfe8_ok : ∀ k, k < 0 → parseFieldDescriptor (TJx2cfe8 k).2.2.1 = some (tyJx2cfe8 k) := by decide +kernel
def RJx9f9b0 : String := "java/lang/CharSequence"
def TJx9f9b0 : u_T := fun k => match k with
  | _ => ("", "", "", false)
def tyJx9f9b0 : Nat → FieldType := fun k => match k with
  | _ => .int
abbrev wsJx9f9b00 : List Cond := u_ws RJx9f9b0 TJx9f9b0 0
theorem nmJx9f9b0 : ∀ a, a < 0 → ∀ b, b < 0 → a ≠ b → (TJx9f9b0 a).2.1 ≠ (TJx9f9b0 b).2.1 := by decide +kernel
theorem tyJx9f9b0_ok : ∀ k, k < 0 → parseFieldDescriptor (TJx9f9b0 k).2.2.1 = some (tyJx9f9b0 k) := by decide +kernel
def RJx8e188 : String := "java/lang/Cloneable"
def TJx8e188 : u_T := fun k => match k with
  | _ => ("", "", "", false)
def tyJx8e188 : Nat → FieldType := fun k => match k with
  | _ => .int
abbrev wsJx8e1880 : List Cond := u_ws RJx8e188 TJx8e188 0
theorem nmJx8e188 : ∀ a, a < 0 → ∀ b, b < 0 → a ≠ b → (TJx8e188 a).2.1 ≠ (TJx8e188 b).2.1 := by decide +kernel
theorem tyJx8e188_ok : ∀ k, k < 0 → parseFieldDescriptor (TJx8e188 k).2.2.1 = some (tyJx8e188 k) := by decide +kernel
def RJxb160c : String := "java/lang/Comparable"
def TJxb160c : u_T := fun k => match k with
  | _ => ("", "", "", false)
def tyJxb160c : Nat → FieldType := fun k => match k with
  | _ => .int
abbrev wsJxb160c0 : List Cond := u_ws RJxb160c TJxb160c 0
theorem nmJxb160c : ∀ a, a < 0 → ∀ b, b < 0 → a ≠ b → (TJxb160c a).2.1 ≠ (TJxb160c b).2.1 := by decide +kernel
theorem tyJxb160c_ok : ∀ k, k < 0 → parseFieldDescriptor (TJxb160c k).2.2.1 = some (tyJxb160c k) := by decide +kernel
def RJx29ce0 : String := "java/lang/Enum"
def TJx29ce0 : u_T := fun k => match k with
  | _ => ("", "", "", false)
def tyJx29ce0 : Nat → FieldType := fun k => match k with
  | _ => .int
abbrev wsJx29ce00 : List Cond := u_ws RJx29ce0 TJx29ce0 0
theorem nmJx29ce0 : ∀ a, a < 0 → ∀ b, b < 0 → a ≠ b → (TJx29ce0 a).2.1 ≠ (TJx29ce0 b).2.1 := by decide +kernel
theorem tyJx29ce0_ok : ∀ k, k < 0 → parseFieldDescriptor (TJx29ce0 k).2.2.1 = some (tyJx29ce0 k) := by decide +kernel
abbrev cJx29ce0_ordinal_8abf5 : ByteArray := prog_23_method_2_code
def yJx29ce0_ordinal_8abf5 : MethodName := ⟨RJx29ce0, "ordinal", "()I"⟩
def RJ6 : String := "java/lang/Integer"
def TJ6 : u_T := fun k => match k with
  | _ => ("", "", "", false)
def tyJ6 : Nat → FieldType := fun k => match k with
  | _ => .int
abbrev wsJ60 : List Cond := u_ws RJ6 TJ6 0
theorem nmJ6 : ∀ a, a < 0 → ∀ b, b < 0 → a ≠ b → (TJ6 a).2.1 ≠ (TJ6 b).2.1 := by decide +kernel
theorem tyJ6_ok : ∀ k, k < 0 → parseFieldDescriptor (TJ6 k).2.2.1 = some (tyJ6 k) := by decide +kernel
abbrev cJ6_getChars_ba4f3 : ByteArray := prog_28_method_12_code
def yJ6_getChars_ba4f3 : MethodName := ⟨RJ6, "getChars", "(II[B)I"⟩
abbrev cJ6_stringSize_0f7a4 : ByteArray := prog_28_method_13_code
def yJ6_stringSize_0f7a4 : MethodName := ⟨RJ6, "stringSize", "(I)I"⟩
def RJxab1ab : String := "java/lang/Iterable"
def TJxab1ab : u_T := fun k => match k with
  | _ => ("", "", "", false)
def tyJxab1ab : Nat → FieldType := fun k => match k with
  | _ => .int
abbrev wsJxab1ab0 : List Cond := u_ws RJxab1ab TJxab1ab 0
theorem nmJxab1ab : ∀ a, a < 0 → ∀ b, b < 0 → a ≠ b → (TJxab1ab a).2.1 ≠ (TJxab1ab b).2.1 := by decide +kernel
theorem tyJxab1ab_ok : ∀ k, k < 0 → parseFieldDescriptor (TJxab1ab k).2.2.1 = some (tyJxab1ab k) := by decide +kernel
def RJ9 : String := "java/lang/Math"
def TJ9 : u_T := fun k => match k with
  | _ => ("", "", "", false)
def tyJ9 : Nat → FieldType := fun k => match k with
  | _ => .int
abbrev wsJ90 : List Cond := u_ws RJ9 TJ9 0
theorem nmJ9 : ∀ a, a < 0 → ∀ b, b < 0 → a ≠ b → (TJ9 a).2.1 ≠ (TJ9 b).2.1 := by decide +kernel
theorem tyJ9_ok : ∀ k, k < 0 → parseFieldDescriptor (TJ9 k).2.2.1 = some (tyJ9 k) := by decide +kernel
abbrev cJ9_max_7cf53 : ByteArray := prog_30_method_65_code
def yJ9_max_7cf53 : MethodName := ⟨RJ9, "max", "(II)I"⟩
abbrev cJ9_max_f86c9 : ByteArray := prog_30_method_66_code
def yJ9_max_f86c9 : MethodName := ⟨RJ9, "max", "(JJ)J"⟩
abbrev cJ9_min_7cf53 : ByteArray := prog_30_method_69_code
def yJ9_min_7cf53 : MethodName := ⟨RJ9, "min", "(II)I"⟩
abbrev cJ9_min_f86c9 : ByteArray := prog_30_method_70_code
def yJ9_min_f86c9 : MethodName := ⟨RJ9, "min", "(JJ)J"⟩
def RJxd2413 : String := "java/lang/Number"
def TJxd2413 : u_T := fun k => match k with
  | _ => ("", "", "", false)
def tyJxd2413 : Nat → FieldType := fun k => match k with
  | _ => .int
abbrev wsJxd24130 : List Cond := u_ws RJxd2413 TJxd2413 0
theorem nmJxd2413 : ∀ a, a < 0 → ∀ b, b < 0 → a ≠ b → (TJxd2413 a).2.1 ≠ (TJxd2413 b).2.1 := by decide +kernel
theorem tyJxd2413_ok : ∀ k, k < 0 → parseFieldDescriptor (TJxd2413 k).2.2.1 = some (tyJxd2413 k) := by decide +kernel
def RJ0 : String := "java/lang/String"
def TJ0 : u_T := fun k => match k with
  | 0 => ("java/lang/String", "value", "[B", true)
  | 1 => ("java/lang/String", "coder", "B", true)
  | 2 => ("java/lang/String", "hash", "I", false)
  | _ => ("java/lang/String", "hashIsZero", "Z", false)
def tyJ0 : Nat → FieldType := fun k => match k with
  | 0 => .array .byte
  | 1 => .byte
  | 2 => .int
  | _ => .boolean
abbrev wsJ00 : List Cond := u_ws RJ0 TJ0 4
theorem nmJ0 : ∀ a, a < 4 → ∀ b, b < 4 → a ≠ b → (TJ0 a).2.1 ≠ (TJ0 b).2.1 := by decide +kernel
theorem tyJ0_ok : ∀ k, k < 4 → parseFieldDescriptor (TJ0 k).2.2.1 = some (tyJ0 k) := by decide +kernel
abbrev cJ0_init_81219 : ByteArray := prog_33_method_53_code
def yJ0_init_81219 : MethodName := ⟨RJ0, "<init>", "(Ljava/lang/StringBuilder;)V"⟩
abbrev cJ0_length_8abf5 : ByteArray := prog_33_method_54_code
def yJ0_length_8abf5 : MethodName := ⟨RJ0, "length", "()I"⟩
abbrev cJ0_charAt_5068e : ByteArray := prog_33_method_56_code
def yJ0_charAt_5068e : MethodName := ⟨RJ0, "charAt", "(I)C"⟩
abbrev cJ0_getBytes_840e7 : ByteArray := prog_33_method_147_code
def yJ0_getBytes_840e7 : MethodName := ⟨RJ0, "getBytes", "([BIB)V"⟩
abbrev cJ0_init_db425 : ByteArray := prog_33_method_150_code
def yJ0_init_db425 : MethodName := ⟨RJ0, "<init>", "(Ljava/lang/AbstractStringBuilder;Ljava/lang/Void;)V"⟩
abbrev cJ0_coder_7d493 : ByteArray := prog_33_method_152_code
def yJ0_coder_7d493 : MethodName := ⟨RJ0, "coder", "()B"⟩
abbrev cJ0_isLatin1_aae02 : ByteArray := prog_33_method_154_code
def yJ0_isLatin1_aae02 : MethodName := ⟨RJ0, "isLatin1", "()Z"⟩
abbrev cJ0_checkIndex_df160 : ByteArray := prog_33_method_155_code
def yJ0_checkIndex_df160 : MethodName := ⟨RJ0, "checkIndex", "(II)V"⟩
abbrev cJ0_checkBoundsOffCount_cabcc : ByteArray := prog_33_method_157_code
def yJ0_checkBoundsOffCount_cabcc : MethodName := ⟨RJ0, "checkBoundsOffCount", "(III)I"⟩
abbrev cJ0_checkBoundsBeginEnd_23922 : ByteArray := prog_33_method_158_code
def yJ0_checkBoundsBeginEnd_23922 : MethodName := ⟨RJ0, "checkBoundsBeginEnd", "(III)V"⟩
def RJ4 : String := "java/lang/StringBuilder"
def TJ4 : u_T := fun k => match k with
  | 0 => ("java/lang/AbstractStringBuilder", "value", "[B", false)
  | 1 => ("java/lang/AbstractStringBuilder", "coder", "B", false)
  | 2 => ("java/lang/AbstractStringBuilder", "maybeLatin1", "Z", false)
  | _ => ("java/lang/AbstractStringBuilder", "count", "I", false)
def tyJ4 : Nat → FieldType := fun k => match k with
  | 0 => .array .byte
  | 1 => .byte
  | 2 => .boolean
  | _ => .int
abbrev wsJ40 : List Cond := u_ws RJ4 TJ4 4
theorem nmJ4 : ∀ a, a < 4 → ∀ b, b < 4 → a ≠ b → (TJ4 a).2.1 ≠ (TJ4 b).2.1 := by decide +kernel
theorem tyJ4_ok : ∀ k, k < 4 → parseFieldDescriptor (TJ4 k).2.2.1 = some (tyJ4 k) := by decide +kernel
abbrev cJ4_init_da8c8 : ByteArray := prog_34_method_1_code
def yJ4_init_da8c8 : MethodName := ⟨RJ4, "<init>", "()V"⟩
abbrev cJ4_append_15ec4 : ByteArray := prog_34_method_7_code
def yJ4_append_15ec4 : MethodName := ⟨RJ4, "append", "(Ljava/lang/String;)Ljava/lang/StringBuilder;"⟩
abbrev cJ4_append_bf812 : ByteArray := prog_34_method_15_code
def yJ4_append_bf812 : MethodName := ⟨RJ4, "append", "(I)Ljava/lang/StringBuilder;"⟩
abbrev cJ4_toString_0e30d : ByteArray := prog_34_method_42_code
def yJ4_toString_0e30d : MethodName := ⟨RJ4, "toString", "()Ljava/lang/String;"⟩
abbrev cJ4_length_8abf5 : ByteArray := prog_34_method_93_code
def yJ4_length_8abf5 : MethodName := ⟨RJ4, "length", "()I"⟩
def RJ1 : String := "java/lang/StringLatin1"
def TJ1 : u_T := fun k => match k with
  | _ => ("", "", "", false)
def tyJ1 : Nat → FieldType := fun k => match k with
  | _ => .int
abbrev wsJ10 : List Cond := u_ws RJ1 TJ1 0
theorem nmJ1 : ∀ a, a < 0 → ∀ b, b < 0 → a ≠ b → (TJ1 a).2.1 ≠ (TJ1 b).2.1 := by decide +kernel
theorem tyJ1_ok : ∀ k, k < 0 → parseFieldDescriptor (TJ1 k).2.2.1 = some (tyJ1 k) := by decide +kernel
abbrev cJ1_charAt_3b067 : ByteArray := prog_35_method_2_code
def yJ1_charAt_3b067 : MethodName := ⟨RJ1, "charAt", "([BI)C"⟩
abbrev cJ1_inflate_0e8fd : ByteArray := prog_35_method_50_code
def yJ1_inflate_0e8fd : MethodName := ⟨RJ1, "inflate", "([BI[BII)V"⟩
def RJ2 : String := "java/lang/StringUTF16"
def TJ2 : u_T := fun k => match k with
  | _ => ("", "", "", false)
def tyJ2 : Nat → FieldType := fun k => match k with
  | _ => .int
abbrev wsJ20 : List Cond := u_ws RJ2 TJ2 0
theorem nmJ2 : ∀ a, a < 0 → ∀ b, b < 0 → a ≠ b → (TJ2 a).2.1 ≠ (TJ2 b).2.1 := by decide +kernel
theorem tyJ2_ok : ∀ k, k < 0 → parseFieldDescriptor (TJ2 k).2.2.1 = some (tyJ2 k) := by decide +kernel
abbrev cJ2_newBytesFor_77867 : ByteArray := prog_36_method_2_code
def yJ2_newBytesFor_77867 : MethodName := ⟨RJ2, "newBytesFor", "(I)[B"⟩
abbrev cJ2_newBytesLength_0f7a4 : ByteArray := prog_36_method_3_code
def yJ2_newBytesLength_0f7a4 : MethodName := ⟨RJ2, "newBytesLength", "(I)I"⟩
abbrev cJ2_putChar_b72d1 : ByteArray := prog_36_method_4_code
def yJ2_putChar_b72d1 : MethodName := ⟨RJ2, "putChar", "([BII)V"⟩
abbrev cJ2_getChar_3b067 : ByteArray := prog_36_method_5_code
def yJ2_getChar_3b067 : MethodName := ⟨RJ2, "getChar", "([BI)C"⟩
abbrev cJ2_length_9d52b : ByteArray := prog_36_method_6_code
def yJ2_length_9d52b : MethodName := ⟨RJ2, "length", "([B)I"⟩
abbrev cJ2_coderFromArrayLen_85cad : ByteArray := prog_36_method_15_code
def yJ2_coderFromArrayLen_85cad : MethodName := ⟨RJ2, "coderFromArrayLen", "([BI)B"⟩
abbrev cJ2_compress_39247 : ByteArray := prog_36_method_17_code
def yJ2_compress_39247 : MethodName := ⟨RJ2, "compress", "([BII)[B"⟩
abbrev cJ2_compress_5af95 : ByteArray := prog_36_method_22_code
def yJ2_compress_5af95 : MethodName := ⟨RJ2, "compress", "([BI[BII)I"⟩
abbrev cJ2_getChars_46870 : ByteArray := prog_36_method_77_code
def yJ2_getChars_46870 : MethodName := ⟨RJ2, "getChars", "(III[B)I"⟩
abbrev cJ2_putCharsAt_cd4e5 : ByteArray := prog_36_method_81_code
def yJ2_putCharsAt_cd4e5 : MethodName := ⟨RJ2, "putCharsAt", "([BICCCC)I"⟩
abbrev cJ2_charAt_3b067 : ByteArray := prog_36_method_83_code
def yJ2_charAt_3b067 : MethodName := ⟨RJ2, "charAt", "([BI)C"⟩
abbrev cJ2_inflate_0e8fd : ByteArray := prog_36_method_86_code
def yJ2_inflate_0e8fd : MethodName := ⟨RJ2, "inflate", "([BI[BII)V"⟩
abbrev cJ2_getChars_ba4f3 : ByteArray := prog_36_method_89_code
def yJ2_getChars_ba4f3 : MethodName := ⟨RJ2, "getChars", "(II[B)I"⟩
abbrev cJ2_checkIndex_2214a : ByteArray := prog_36_method_91_code
def yJ2_checkIndex_2214a : MethodName := ⟨RJ2, "checkIndex", "(I[B)V"⟩
abbrev cJ2_checkBoundsBeginEnd_d044e : ByteArray := prog_36_method_93_code
def yJ2_checkBoundsBeginEnd_d044e : MethodName := ⟨RJ2, "checkBoundsBeginEnd", "(II[B)V"⟩
abbrev cJ2_checkBoundsOffCount_d044e : ByteArray := prog_36_method_94_code
def yJ2_checkBoundsOffCount_d044e : MethodName := ⟨RJ2, "checkBoundsOffCount", "(II[B)V"⟩
def RJ10 : String := "java/lang/System"
def TJ10 : u_T := fun k => match k with
  | _ => ("", "", "", false)
def tyJ10 : Nat → FieldType := fun k => match k with
  | _ => .int
abbrev wsJ100 : List Cond := u_ws RJ10 TJ10 0
theorem nmJ10 : ∀ a, a < 0 → ∀ b, b < 0 → a ≠ b → (TJ10 a).2.1 ≠ (TJ10 b).2.1 := by decide +kernel
theorem tyJ10_ok : ∀ k, k < 0 → parseFieldDescriptor (TJ10 k).2.2.1 = some (tyJ10 k) := by decide +kernel
def RJxfd54e : String := "java/lang/constant/Constable"
def TJxfd54e : u_T := fun k => match k with
  | _ => ("", "", "", false)
def tyJxfd54e : Nat → FieldType := fun k => match k with
  | _ => .int
abbrev wsJxfd54e0 : List Cond := u_ws RJxfd54e TJxfd54e 0
theorem nmJxfd54e : ∀ a, a < 0 → ∀ b, b < 0 → a ≠ b → (TJxfd54e a).2.1 ≠ (TJxfd54e b).2.1 := by decide +kernel
theorem tyJxfd54e_ok : ∀ k, k < 0 → parseFieldDescriptor (TJxfd54e k).2.2.1 = some (tyJxfd54e k) := by decide +kernel
def RJx3cf43 : String := "java/lang/constant/ConstantDesc"
def TJx3cf43 : u_T := fun k => match k with
  | _ => ("", "", "", false)
def tyJx3cf43 : Nat → FieldType := fun k => match k with
  | _ => .int
abbrev wsJx3cf430 : List Cond := u_ws RJx3cf43 TJx3cf43 0
theorem nmJx3cf43 : ∀ a, a < 0 → ∀ b, b < 0 → a ≠ b → (TJx3cf43 a).2.1 ≠ (TJx3cf43 b).2.1 := by decide +kernel
theorem tyJx3cf43_ok : ∀ k, k < 0 → parseFieldDescriptor (TJx3cf43 k).2.2.1 = some (tyJx3cf43 k) := by decide +kernel
def RJxa1e45 : String := "java/util/AbstractCollection"
def TJxa1e45 : u_T := fun k => match k with
  | _ => ("", "", "", false)
def tyJxa1e45 : Nat → FieldType := fun k => match k with
  | _ => .int
abbrev wsJxa1e450 : List Cond := u_ws RJxa1e45 TJxa1e45 0
theorem nmJxa1e45 : ∀ a, a < 0 → ∀ b, b < 0 → a ≠ b → (TJxa1e45 a).2.1 ≠ (TJxa1e45 b).2.1 := by decide +kernel
theorem tyJxa1e45_ok : ∀ k, k < 0 → parseFieldDescriptor (TJxa1e45 k).2.2.1 = some (tyJxa1e45 k) := by decide +kernel
abbrev cJxa1e45_init_da8c8 : ByteArray := prog_41_method_1_code
def yJxa1e45_init_da8c8 : MethodName := ⟨RJxa1e45, "<init>", "()V"⟩
def RJxc12de : String := "java/util/AbstractList"
def TJxc12de : u_T := fun k => match k with
  | _ => ("", "", "", false)
def tyJxc12de : Nat → FieldType := fun k => match k with
  | _ => .int
abbrev wsJxc12de0 : List Cond := u_ws RJxc12de TJxc12de 0
theorem nmJxc12de : ∀ a, a < 0 → ∀ b, b < 0 → a ≠ b → (TJxc12de a).2.1 ≠ (TJxc12de b).2.1 := by decide +kernel
theorem tyJxc12de_ok : ∀ k, k < 0 → parseFieldDescriptor (TJxc12de k).2.2.1 = some (tyJxc12de k) := by decide +kernel
abbrev cJxc12de_init_da8c8 : ByteArray := prog_42_method_1_code
def yJxc12de_init_da8c8 : MethodName := ⟨RJxc12de, "<init>", "()V"⟩
def RJx4a65c : String := "java/util/ArrayList"
def TJx4a65c : u_T := fun k => match k with
  | 0 => ("java/util/AbstractList", "modCount", "I", false)
  | 1 => ("java/util/ArrayList", "elementData", "[Ljava/lang/Object;", false)
  | _ => ("java/util/ArrayList", "size", "I", false)
def tyJx4a65c : Nat → FieldType := fun k => match k with
  | 0 => .int
  | 1 => .array (.object "java/lang/Object")
  | _ => .int
abbrev wsJx4a65c0 : List Cond := u_ws RJx4a65c TJx4a65c 3
theorem nmJx4a65c : ∀ a, a < 3 → ∀ b, b < 3 → a ≠ b → (TJx4a65c a).2.1 ≠ (TJx4a65c b).2.1 := by decide +kernel
theorem tyJx4a65c_ok : ∀ k, k < 3 → parseFieldDescriptor (TJx4a65c k).2.2.1 = some (tyJx4a65c k) := by decide +kernel
abbrev cJx4a65c_init_da8c8 : ByteArray := prog_43_method_2_code
def yJx4a65c_init_da8c8 : MethodName := ⟨RJx4a65c, "<init>", "()V"⟩
abbrev cJx4a65c_grow_92f84 : ByteArray := prog_43_method_6_code
def yJx4a65c_grow_92f84 : MethodName := ⟨RJx4a65c, "grow", "(I)[Ljava/lang/Object;"⟩
abbrev cJx4a65c_grow_d5877 : ByteArray := prog_43_method_7_code
def yJx4a65c_grow_d5877 : MethodName := ⟨RJx4a65c, "grow", "()[Ljava/lang/Object;"⟩
abbrev cJx4a65c_size_8abf5 : ByteArray := prog_43_method_8_code
def yJx4a65c_size_8abf5 : MethodName := ⟨RJx4a65c, "size", "()I"⟩
abbrev cJx4a65c_elementData_915e3 : ByteArray := prog_43_method_18_code
def yJx4a65c_elementData_915e3 : MethodName := ⟨RJx4a65c, "elementData", "(I)Ljava/lang/Object;"⟩
abbrev cJx4a65c_get_915e3 : ByteArray := prog_43_method_20_code
def yJx4a65c_get_915e3 : MethodName := ⟨RJx4a65c, "get", "(I)Ljava/lang/Object;"⟩
abbrev cJx4a65c_add_72be8 : ByteArray := prog_43_method_24_code
def yJx4a65c_add_72be8 : MethodName := ⟨RJx4a65c, "add", "(Ljava/lang/Object;[Ljava/lang/Object;I)V"⟩
abbrev cJx4a65c_add_9ea2d : ByteArray := prog_43_method_25_code
def yJx4a65c_add_9ea2d : MethodName := ⟨RJx4a65c, "add", "(Ljava/lang/Object;)Z"⟩
abbrev cJx4a65c_clear_da8c8 : ByteArray := prog_43_method_40_code
def yJx4a65c_clear_da8c8 : MethodName := ⟨RJx4a65c, "clear", "()V"⟩
def RJ7 : String := "java/util/Arrays"
def TJ7 : u_T := fun k => match k with
  | _ => ("", "", "", false)
def tyJ7 : Nat → FieldType := fun k => match k with
  | _ => .int
abbrev wsJ70 : List Cond := u_ws RJ7 TJ7 0
theorem nmJ7 : ∀ a, a < 0 → ∀ b, b < 0 → a ≠ b → (TJ7 a).2.1 ≠ (TJ7 b).2.1 := by decide +kernel
theorem tyJ7_ok : ∀ k, k < 0 → parseFieldDescriptor (TJ7 k).2.2.1 = some (tyJ7 k) := by decide +kernel
abbrev cJ7_copyOf_1904c : ByteArray := prog_44_method_119_code
def yJ7_copyOf_1904c : MethodName := ⟨RJ7, "copyOf", "([Ljava/lang/Object;I)[Ljava/lang/Object;"⟩
abbrev cJ7_copyOf_6403c : ByteArray := prog_44_method_120_code
def yJ7_copyOf_6403c : MethodName := ⟨RJ7, "copyOf", "([Ljava/lang/Object;ILjava/lang/Class;)[Ljava/lang/Object;"⟩
abbrev cJ7_copyOf_9075b : ByteArray := prog_44_method_121_code
def yJ7_copyOf_9075b : MethodName := ⟨RJ7, "copyOf", "([BI)[B"⟩
abbrev cJ7_checkLength_df160 : ByteArray := prog_44_method_131_code
def yJ7_checkLength_df160 : MethodName := ⟨RJ7, "checkLength", "(II)V"⟩
abbrev cJ7_copyOfRange_39247 : ByteArray := prog_44_method_132_code
def yJ7_copyOfRange_39247 : MethodName := ⟨RJ7, "copyOfRange", "([BII)[B"⟩
abbrev cJ7_copyOfRangeByte_39247 : ByteArray := prog_44_method_133_code
def yJ7_copyOfRangeByte_39247 : MethodName := ⟨RJ7, "copyOfRangeByte", "([BII)[B"⟩
def RJx5ef63 : String := "java/util/Collection"
def TJx5ef63 : u_T := fun k => match k with
  | _ => ("", "", "", false)
def tyJx5ef63 : Nat → FieldType := fun k => match k with
  | _ => .int
abbrev wsJx5ef630 : List Cond := u_ws RJx5ef63 TJx5ef63 0
theorem nmJx5ef63 : ∀ a, a < 0 → ∀ b, b < 0 → a ≠ b → (TJx5ef63 a).2.1 ≠ (TJx5ef63 b).2.1 := by decide +kernel
theorem tyJx5ef63_ok : ∀ k, k < 0 → parseFieldDescriptor (TJx5ef63 k).2.2.1 = some (tyJx5ef63 k) := by decide +kernel
def RJxbd725 : String := "java/util/List"
def TJxbd725 : u_T := fun k => match k with
  | _ => ("", "", "", false)
def tyJxbd725 : Nat → FieldType := fun k => match k with
  | _ => .int
abbrev wsJxbd7250 : List Cond := u_ws RJxbd725 TJxbd725 0
theorem nmJxbd725 : ∀ a, a < 0 → ∀ b, b < 0 → a ≠ b → (TJxbd725 a).2.1 ≠ (TJxbd725 b).2.1 := by decide +kernel
theorem tyJxbd725_ok : ∀ k, k < 0 → parseFieldDescriptor (TJxbd725 k).2.2.1 = some (tyJxbd725 k) := by decide +kernel
def RJ15 : String := "java/util/Objects"
def TJ15 : u_T := fun k => match k with
  | _ => ("", "", "", false)
def tyJ15 : Nat → FieldType := fun k => match k with
  | _ => .int
abbrev wsJ150 : List Cond := u_ws RJ15 TJ15 0
theorem nmJ15 : ∀ a, a < 0 → ∀ b, b < 0 → a ≠ b → (TJ15 a).2.1 ≠ (TJ15 b).2.1 := by decide +kernel
theorem tyJ15_ok : ∀ k, k < 0 → parseFieldDescriptor (TJ15 k).2.2.1 = some (tyJ15 k) := by decide +kernel
abbrev cJ15_checkIndex_7cf53 : ByteArray := prog_47_method_17_code
def yJ15_checkIndex_7cf53 : MethodName := ⟨RJ15, "checkIndex", "(II)I"⟩
def RJxf0a74 : String := "java/util/RandomAccess"
def TJxf0a74 : u_T := fun k => match k with
  | _ => ("", "", "", false)
def tyJxf0a74 : Nat → FieldType := fun k => match k with
  | _ => .int
abbrev wsJxf0a740 : List Cond := u_ws RJxf0a74 TJxf0a74 0
theorem nmJxf0a74 : ∀ a, a < 0 → ∀ b, b < 0 → a ≠ b → (TJxf0a74 a).2.1 ≠ (TJxf0a74 b).2.1 := by decide +kernel
theorem tyJxf0a74_ok : ∀ k, k < 0 → parseFieldDescriptor (TJxf0a74 k).2.2.1 = some (tyJxf0a74 k) := by decide +kernel
def RJxa66e6 : String := "java/util/SequencedCollection"
def TJxa66e6 : u_T := fun k => match k with
  | _ => ("", "", "", false)
def tyJxa66e6 : Nat → FieldType := fun k => match k with
  | _ => .int
abbrev wsJxa66e60 : List Cond := u_ws RJxa66e6 TJxa66e6 0
theorem nmJxa66e6 : ∀ a, a < 0 → ∀ b, b < 0 → a ≠ b → (TJxa66e6 a).2.1 ≠ (TJxa66e6 b).2.1 := by decide +kernel
theorem tyJxa66e6_ok : ∀ k, k < 0 → parseFieldDescriptor (TJxa66e6 k).2.2.1 = some (tyJxa66e6 k) := by decide +kernel
def RJ8 : String := "jdk/internal/util/ArraysSupport"
def TJ8 : u_T := fun k => match k with
  | _ => ("", "", "", false)
def tyJ8 : Nat → FieldType := fun k => match k with
  | _ => .int
abbrev wsJ80 : List Cond := u_ws RJ8 TJ8 0
theorem nmJ8 : ∀ a, a < 0 → ∀ b, b < 0 → a ≠ b → (TJ8 a).2.1 ≠ (TJ8 b).2.1 := by decide +kernel
theorem tyJ8_ok : ∀ k, k < 0 → parseFieldDescriptor (TJ8 k).2.2.1 = some (tyJ8 k) := by decide +kernel
abbrev cJ8_newLength_cabcc : ByteArray := prog_50_method_27_code
def yJ8_newLength_cabcc : MethodName := ⟨RJ8, "newLength", "(III)I"⟩
abbrev cJ8_hugeLength_7cf53 : ByteArray := prog_50_method_28_code
def yJ8_hugeLength_7cf53 : MethodName := ⟨RJ8, "hugeLength", "(II)I"⟩
def RJ3 : String := "jdk/internal/util/Preconditions"
def TJ3 : u_T := fun k => match k with
  | _ => ("", "", "", false)
def tyJ3 : Nat → FieldType := fun k => match k with
  | _ => .int
abbrev wsJ30 : List Cond := u_ws RJ3 TJ3 0
theorem nmJ3 : ∀ a, a < 0 → ∀ b, b < 0 → a ≠ b → (TJ3 a).2.1 ≠ (TJ3 b).2.1 := by decide +kernel
theorem tyJ3_ok : ∀ k, k < 0 → parseFieldDescriptor (TJ3 k).2.2.1 = some (tyJ3 k) := by decide +kernel
abbrev cJ3_checkIndex_8e157 : ByteArray := prog_51_method_11_code
def yJ3_checkIndex_8e157 : MethodName := ⟨RJ3, "checkIndex", "(IILjava/util/function/BiFunction;)I"⟩
abbrev cJ3_checkFromToIndex_8c36e : ByteArray := prog_51_method_12_code
def yJ3_checkFromToIndex_8c36e : MethodName := ⟨RJ3, "checkFromToIndex", "(IIILjava/util/function/BiFunction;)I"⟩
abbrev cJ3_checkFromIndexSize_8c36e : ByteArray := prog_51_method_13_code
def yJ3_checkFromIndexSize_8c36e : MethodName := ⟨RJ3, "checkFromIndexSize", "(IIILjava/util/function/BiFunction;)I"⟩
def RL : String := "LossHouseLaw"
abbrev cL_below : ByteArray := method_2_code
def yL_below : MethodName := ⟨RL, "below", "(II)I"⟩
abbrev cL_cell : ByteArray := method_3_code
def yL_cell : MethodName := ⟨RL, "cell", "([II)I"⟩
abbrev cL_teach : ByteArray := method_4_code
def yL_teach : MethodName := ⟨RL, "teach", "(LLossHouse;Ljava/lang/String;)I"⟩
abbrev cL_terms : ByteArray := method_5_code
def yL_terms : MethodName := ⟨RL, "terms", "([I)[I"⟩
abbrev cL_text : ByteArray := method_6_code
def yL_text : MethodName := ⟨RL, "text", "([I)Ljava/lang/String;"⟩
abbrev cL_play : ByteArray := method_7_code
def yL_play : MethodName := ⟨RL, "play", "(LLossHouse;[I)[I"⟩
abbrev cL_law : ByteArray := code
def yL_law : MethodName := ⟨RL, "law", "([I)Z"⟩
abbrev vwCl : List vw_C := [(RJ0, TJ0, 4), (RJ4, TJ4, 4), (RJx4a65c, TJx4a65c, 3), (RX1, TX1, 6), (RX2, TX2, 4), (RX3, TX3, 7), (RX4, TX4, 3), (RX5, TX5, 14), (RX6, TX6, 6), (RX8, TX8, 2), (RX9, TX9, 5), (RX10, TX10, 2), (RX11, TX11, 15)]
end
section
/-- the tables' words that last -/
def hGW : List Cond := lw_tbl.filter goodWord
theorem hgw {w : Cond} (i : Nat) (h : lw_tbl[i]? = some w) (hg : goodWord w = true) : w ∈ hGW := List.mem_filter.mpr ⟨List.mem_of_getElem? h, hg⟩
theorem hgw_good {w : Cond} (h : w ∈ hGW) : w ∈ hGW ∧ ((w.onTables && w.keeps) = true ∨ ∃ ty, w = .arrayClass ty) := ⟨h, good_of_word (List.mem_filter.mp h).2⟩
theorem hgi0 {c : Cond} (hc : c ∈ hGW) : GoodIn hGW (c :: hGW) := fun w h => by
  rcases List.mem_cons.mp h with rfl | h
  · exact hgw_good hc
  · exact hgw_good h
theorem hgi4 {a b d e c : Cond} (ha : a ∈ hGW) (hb : b ∈ hGW) (hd : d ∈ hGW) (he : e ∈ hGW) (hc : c ∈ hGW) : GoodIn hGW ([a, b, d, e] ++ (c :: hGW)) := fun w h => by
  rcases List.mem_append.mp h with h | h
  · have : w ∈ hGW := by
      simp only [List.mem_cons, List.not_mem_nil, or_false] at h
      rcases h with rfl | rfl | rfl | rfl <;> assumption
    exact hgw_good this
  · exact hgi0 hc w h
theorem hgi3 {a b d c : Cond} (ha : a ∈ hGW) (hb : b ∈ hGW) (hd : d ∈ hGW) (hc : c ∈ hGW) : GoodIn hGW ([a, b, d] ++ (c :: hGW)) := fun w h => by
  rcases List.mem_append.mp h with h | h
  · have : w ∈ hGW := by
      simp only [List.mem_cons, List.not_mem_nil, or_false] at h
      rcases h with rfl | rfl | rfl <;> assumption
    exact hgw_good this
  · exact hgi0 hc w h
theorem hgi5 {a b d e f c : Cond} (ha : a ∈ hGW) (hb : b ∈ hGW) (hd : d ∈ hGW) (he : e ∈ hGW) (hf : f ∈ hGW) (hc : c ∈ hGW) : GoodIn hGW ([a, b, d, e, f] ++ (c :: hGW)) := fun w h => by
  rcases List.mem_append.mp h with h | h
  · have : w ∈ hGW := by
      simp only [List.mem_cons, List.not_mem_nil, or_false] at h
      rcases h with rfl | rfl | rfl | rfl | rfl <;> assumption
    exact hgw_good this
  · exact hgi0 hc w h
theorem hgi6 {a b d e f g c : Cond} (ha : a ∈ hGW) (hb : b ∈ hGW) (hd : d ∈ hGW) (he : e ∈ hGW) (hf : f ∈ hGW) (hg : g ∈ hGW) (hc : c ∈ hGW) : GoodIn hGW ([a, b, d, e, f, g] ++ (c :: hGW)) := fun w h => by
  rcases List.mem_append.mp h with h | h
  · have : w ∈ hGW := by
      simp only [List.mem_cons, List.not_mem_nil, or_false] at h
      rcases h with rfl | rfl | rfl | rfl | rfl | rfl <;> assumption
    exact hgw_good this
  · exact hgi0 hc w h
end
section
theorem kse_Zjava_lang_Throwable_Zjava_lang_Throwable_fillInStackTrace__I_Ljava_lang_Throwable__Zjava_lang_Throwable_fillInStackTrace__I_Ljava_lang_Throwable_ : Cond.selects "java/lang/Throwable" ⟨"java/lang/Throwable", "fillInStackTrace", "(I)Ljava/lang/Throwable;"⟩ ⟨"java/lang/Throwable", "fillInStackTrace", "(I)Ljava/lang/Throwable;"⟩ ∈ hGW := hgw 0 (by decide +kernel) (by decide +kernel)
theorem kse_X11_X11_cedeNow_X11_cedeNow : Cond.selects RX11 yX11_cedeNow yX11_cedeNow ∈ hGW := hgw 1 (by decide +kernel) (by decide +kernel)
theorem kse_X11_X11_tellAmounts_X11_tellAmounts : Cond.selects RX11 yX11_tellAmounts yX11_tellAmounts ∈ hGW := hgw 2 (by decide +kernel) (by decide +kernel)
theorem kse_X1_X1_subject_X1_subject : Cond.selects RX1 yX1_subject yX1_subject ∈ hGW := hgw 3 (by decide +kernel) (by decide +kernel)
theorem kse_X4_X4_join_X4_join : Cond.selects RX4 yX4_join yX4_join ∈ hGW := hgw 4 (by decide +kernel) (by decide +kernel)
theorem kse_X4_X4_leaf_X4_leaf : Cond.selects RX4 yX4_leaf yX4_leaf ∈ hGW := hgw 5 (by decide +kernel) (by decide +kernel)
theorem kse_X11_X11_countOf_X11_countOf : Cond.selects RX11 yX11_countOf yX11_countOf ∈ hGW := hgw 6 (by decide +kernel) (by decide +kernel)
theorem kse_X11_X11_openClaims_X11_openClaims : Cond.selects RX11 yX11_openClaims yX11_openClaims ∈ hGW := hgw 7 (by decide +kernel) (by decide +kernel)
theorem kse_X11_X11_allPaid_X11_allPaid : Cond.selects RX11 yX11_allPaid yX11_allPaid ∈ hGW := hgw 8 (by decide +kernel) (by decide +kernel)
theorem kse_X11_X11_allReserves_X11_allReserves : Cond.selects RX11 yX11_allReserves yX11_allReserves ∈ hGW := hgw 9 (by decide +kernel) (by decide +kernel)
theorem kse_X11_X11_hasLayer_X11_hasLayer : Cond.selects RX11 yX11_hasLayer yX11_hasLayer ∈ hGW := hgw 10 (by decide +kernel) (by decide +kernel)
theorem kse_X11_X11_isYear_X11_isYear : Cond.selects RX11 yX11_isYear yX11_isYear ∈ hGW := hgw 11 (by decide +kernel) (by decide +kernel)
theorem kse_X11_X11_hasClaim_X11_hasClaim : Cond.selects RX11 yX11_hasClaim yX11_hasClaim ∈ hGW := hgw 12 (by decide +kernel) (by decide +kernel)
theorem kse_X11_X11_claimOf_X11_claimOf : Cond.selects RX11 yX11_claimOf yX11_claimOf ∈ hGW := hgw 13 (by decide +kernel) (by decide +kernel)
theorem kse_X11_X11_usedOf_X11_usedOf : Cond.selects RX11 yX11_usedOf yX11_usedOf ∈ hGW := hgw 14 (by decide +kernel) (by decide +kernel)
theorem kse_X11_X11_isKind_X11_isKind : Cond.selects RX11 yX11_isKind yX11_isKind ∈ hGW := hgw 15 (by decide +kernel) (by decide +kernel)
theorem kse_X11_X11_isYearSoFar_X11_isYearSoFar : Cond.selects RX11 yX11_isYearSoFar yX11_isYearSoFar ∈ hGW := hgw 16 (by decide +kernel) (by decide +kernel)
theorem kse_X11_X11_fillTriangle_X11_fillTriangle : Cond.selects RX11 yX11_fillTriangle yX11_fillTriangle ∈ hGW := hgw 17 (by decide +kernel) (by decide +kernel)
theorem kse_X11_X11_tellAmountsAt_X11_tellAmountsAt : Cond.selects RX11 yX11_tellAmountsAt yX11_tellAmountsAt ∈ hGW := hgw 18 (by decide +kernel) (by decide +kernel)
theorem kse_X10_X10_grown_X10_grown : Cond.selects RX10 yX10_grown yX10_grown ∈ hGW := hgw 19 (by decide +kernel) (by decide +kernel)
theorem kse_X11_X11_isMethod_X11_isMethod : Cond.selects RX11 yX11_isMethod yX11_isMethod ∈ hGW := hgw 20 (by decide +kernel) (by decide +kernel)
theorem kse_X11_X11_reserveOf_X11_reserveOf : Cond.selects RX11 yX11_reserveOf yX11_reserveOf ∈ hGW := hgw 21 (by decide +kernel) (by decide +kernel)
theorem kse_X11_X11_isReserve_X11_isReserve : Cond.selects RX11 yX11_isReserve yX11_isReserve ∈ hGW := hgw 22 (by decide +kernel) (by decide +kernel)
theorem kse_X11_X11_mix_X11_mix : Cond.selects RX11 yX11_mix yX11_mix ∈ hGW := hgw 23 (by decide +kernel) (by decide +kernel)
theorem kse_X11_X11_mixLayers_X11_mixLayers : Cond.selects RX11 yX11_mixLayers yX11_mixLayers ∈ hGW := hgw 24 (by decide +kernel) (by decide +kernel)
theorem kse_X11_X11_mixClaims_X11_mixClaims : Cond.selects RX11 yX11_mixClaims yX11_mixClaims ∈ hGW := hgw 25 (by decide +kernel) (by decide +kernel)
theorem kse_X11_X11_mixYears_X11_mixYears : Cond.selects RX11 yX11_mixYears yX11_mixYears ∈ hGW := hgw 26 (by decide +kernel) (by decide +kernel)
theorem kse_X11_X11_mixFactors_X11_mixFactors : Cond.selects RX11 yX11_mixFactors yX11_mixFactors ∈ hGW := hgw 27 (by decide +kernel) (by decide +kernel)
theorem kse_X9_X9_endOf_X9_endOf : Cond.selects RX9 yX9_endOf yX9_endOf ∈ hGW := hgw 28 (by decide +kernel) (by decide +kernel)
theorem kse_X9_X9_keyword_X9_keyword : Cond.selects RX9 yX9_keyword yX9_keyword ∈ hGW := hgw 29 (by decide +kernel) (by decide +kernel)
theorem kse_X9_X9_signOf_X9_signOf : Cond.selects RX9 yX9_signOf yX9_signOf ∈ hGW := hgw 30 (by decide +kernel) (by decide +kernel)
theorem kse_X6_X6_takes_X6_takes : Cond.selects RX6 yX6_takes yX6_takes ∈ hGW := hgw 31 (by decide +kernel) (by decide +kernel)
theorem kse_X6_X6_readLayer_X6_readLayer : Cond.selects RX6 yX6_readLayer yX6_readLayer ∈ hGW := hgw 32 (by decide +kernel) (by decide +kernel)
theorem kse_X6_X6_need_X6_need : Cond.selects RX6 yX6_need yX6_need ∈ hGW := hgw 33 (by decide +kernel) (by decide +kernel)
theorem kse_X6_X6_readSum_X6_readSum : Cond.selects RX6 yX6_readSum yX6_readSum ∈ hGW := hgw 34 (by decide +kernel) (by decide +kernel)
theorem kse_X6_X6_sum_X6_sum : Cond.selects RX6 yX6_sum yX6_sum ∈ hGW := hgw 35 (by decide +kernel) (by decide +kernel)
theorem kse_X6_X6_product_X6_product : Cond.selects RX6 yX6_product yX6_product ∈ hGW := hgw 36 (by decide +kernel) (by decide +kernel)
theorem kse_X6_X6_value_X6_value : Cond.selects RX6 yX6_value yX6_value ∈ hGW := hgw 37 (by decide +kernel) (by decide +kernel)
theorem kse_X6_X6_step_X6_step : Cond.selects RX6 yX6_step yX6_step ∈ hGW := hgw 38 (by decide +kernel) (by decide +kernel)
theorem kse_X6_X6_takesDeeper_X6_takesDeeper : Cond.selects RX6 yX6_takesDeeper yX6_takesDeeper ∈ hGW := hgw 39 (by decide +kernel) (by decide +kernel)
theorem kse_X6_X6_pair_X6_pair : Cond.selects RX6 yX6_pair yX6_pair ∈ hGW := hgw 40 (by decide +kernel) (by decide +kernel)
theorem kse_X6_X6_needEach_X6_needEach : Cond.selects RX6 yX6_needEach yX6_needEach ∈ hGW := hgw 41 (by decide +kernel) (by decide +kernel)
theorem kse_X6_X6_readTest_X6_readTest : Cond.selects RX6 yX6_readTest yX6_readTest ∈ hGW := hgw 42 (by decide +kernel) (by decide +kernel)
theorem kse_X6_X6_test_X6_test : Cond.selects RX6 yX6_test yX6_test ∈ hGW := hgw 43 (by decide +kernel) (by decide +kernel)
theorem kse_X6_X6_both_X6_both : Cond.selects RX6 yX6_both yX6_both ∈ hGW := hgw 44 (by decide +kernel) (by decide +kernel)
theorem kse_X6_X6_single_X6_single : Cond.selects RX6 yX6_single yX6_single ∈ hGW := hgw 45 (by decide +kernel) (by decide +kernel)
theorem kse_Jx4a65c_Jx4a65c_add_72be8_Jx4a65c_add_72be8 : Cond.selects RJx4a65c yJx4a65c_add_72be8 yJx4a65c_add_72be8 ∈ hGW := hgw 46 (by decide +kernel) (by decide +kernel)
theorem kse_Jx4a65c_Jx4a65c_grow_d5877_Jx4a65c_grow_d5877 : Cond.selects RJx4a65c yJx4a65c_grow_d5877 yJx4a65c_grow_d5877 ∈ hGW := hgw 47 (by decide +kernel) (by decide +kernel)
theorem kse_Jx4a65c_Jx4a65c_grow_92f84_Jx4a65c_grow_92f84 : Cond.selects RJx4a65c yJx4a65c_grow_92f84 yJx4a65c_grow_92f84 ∈ hGW := hgw 48 (by decide +kernel) (by decide +kernel)
theorem kse_X2_X2_errorOf_X2_errorOf : Cond.selects RX2 yX2_errorOf yX2_errorOf ∈ hGW := hgw 49 (by decide +kernel) (by decide +kernel)
theorem kse_X2_X2_nameLayer_X2_nameLayer : Cond.selects RX2 yX2_nameLayer yX2_nameLayer ∈ hGW := hgw 50 (by decide +kernel) (by decide +kernel)
theorem kse_X2_X2_layerNamed_X2_layerNamed : Cond.selects RX2 yX2_layerNamed yX2_layerNamed ∈ hGW := hgw 51 (by decide +kernel) (by decide +kernel)
theorem kse_X2_X2_netError_X2_netError : Cond.selects RX2 yX2_netError yX2_netError ∈ hGW := hgw 52 (by decide +kernel) (by decide +kernel)
theorem kse_X11_X11_adopt_X11_adopt : Cond.selects RX11 yX11_adopt yX11_adopt ∈ hGW := hgw 53 (by decide +kernel) (by decide +kernel)
theorem kse_X5_X5_boundOf_X5_boundOf : Cond.selects RX5 yX5_boundOf yX5_boundOf ∈ hGW := hgw 54 (by decide +kernel) (by decide +kernel)
theorem kini_L : Cond.initialized RL ∈ hGW := hgw 55 (by decide +kernel) (by decide +kernel)
theorem kini_X11 : Cond.initialized RX11 ∈ hGW := hgw 56 (by decide +kernel) (by decide +kernel)
theorem kini_X8 : Cond.initialized RX8 ∈ hGW := hgw 57 (by decide +kernel) (by decide +kernel)
theorem kini_X9 : Cond.initialized RX9 ∈ hGW := hgw 58 (by decide +kernel) (by decide +kernel)
theorem kini_X6 : Cond.initialized RX6 ∈ hGW := hgw 59 (by decide +kernel) (by decide +kernel)
theorem kini_Jx29ce0 : Cond.initialized RJx29ce0 ∈ hGW := hgw 60 (by decide +kernel) (by decide +kernel)
theorem kini_X7 : Cond.initialized RX7 ∈ hGW := hgw 61 (by decide +kernel) (by decide +kernel)
theorem kini_X2 : Cond.initialized RX2 ∈ hGW := hgw 62 (by decide +kernel) (by decide +kernel)
theorem kini_Jxa1e45 : Cond.initialized RJxa1e45 ∈ hGW := hgw 63 (by decide +kernel) (by decide +kernel)
theorem kini_Jxc12de : Cond.initialized RJxc12de ∈ hGW := hgw 64 (by decide +kernel) (by decide +kernel)
theorem kini_Jx4a65c : Cond.initialized RJx4a65c ∈ hGW := hgw 65 (by decide +kernel) (by decide +kernel)
theorem kini_X1 : Cond.initialized RX1 ∈ hGW := hgw 66 (by decide +kernel) (by decide +kernel)
theorem kini_X10 : Cond.initialized RX10 ∈ hGW := hgw 67 (by decide +kernel) (by decide +kernel)
theorem kini_J5 : Cond.initialized RJ5 ∈ hGW := hgw 68 (by decide +kernel) (by decide +kernel)
theorem kini_J4 : Cond.initialized RJ4 ∈ hGW := hgw 69 (by decide +kernel) (by decide +kernel)
theorem kini_J0 : Cond.initialized RJ0 ∈ hGW := hgw 70 (by decide +kernel) (by decide +kernel)
theorem kini_J2 : Cond.initialized RJ2 ∈ hGW := hgw 71 (by decide +kernel) (by decide +kernel)
theorem kini_J8 : Cond.initialized RJ8 ∈ hGW := hgw 72 (by decide +kernel) (by decide +kernel)
theorem kini_J9 : Cond.initialized RJ9 ∈ hGW := hgw 73 (by decide +kernel) (by decide +kernel)
theorem kini_J7 : Cond.initialized RJ7 ∈ hGW := hgw 74 (by decide +kernel) (by decide +kernel)
theorem kini_J10 : Cond.initialized RJ10 ∈ hGW := hgw 75 (by decide +kernel) (by decide +kernel)
theorem kini_J3 : Cond.initialized RJ3 ∈ hGW := hgw 76 (by decide +kernel) (by decide +kernel)
theorem kini_J1 : Cond.initialized RJ1 ∈ hGW := hgw 77 (by decide +kernel) (by decide +kernel)
theorem kini_Jxd2413 : Cond.initialized RJxd2413 ∈ hGW := hgw 78 (by decide +kernel) (by decide +kernel)
theorem kini_J6 : Cond.initialized RJ6 ∈ hGW := hgw 79 (by decide +kernel) (by decide +kernel)
theorem kini_Zjava_lang_Throwable : Cond.initialized "java/lang/Throwable" ∈ hGW := hgw 80 (by decide +kernel) (by decide +kernel)
theorem kini_Zjava_lang_Exception : Cond.initialized "java/lang/Exception" ∈ hGW := hgw 81 (by decide +kernel) (by decide +kernel)
theorem kini_Zjava_lang_RuntimeException : Cond.initialized "java/lang/RuntimeException" ∈ hGW := hgw 82 (by decide +kernel) (by decide +kernel)
theorem kini_Zjava_lang_IllegalStateException : Cond.initialized "java/lang/IllegalStateException" ∈ hGW := hgw 83 (by decide +kernel) (by decide +kernel)
theorem kini_Zjava_lang_IllegalArgumentException : Cond.initialized "java/lang/IllegalArgumentException" ∈ hGW := hgw 84 (by decide +kernel) (by decide +kernel)
theorem kini_X4 : Cond.initialized RX4 ∈ hGW := hgw 85 (by decide +kernel) (by decide +kernel)
theorem kini_X5 : Cond.initialized RX5 ∈ hGW := hgw 86 (by decide +kernel) (by decide +kernel)
theorem kini_J15 : Cond.initialized RJ15 ∈ hGW := hgw 87 (by decide +kernel) (by decide +kernel)
theorem kini_X0 : Cond.initialized RX0 ∈ hGW := hgw 88 (by decide +kernel) (by decide +kernel)
theorem kini_X3 : Cond.initialized RX3 ∈ hGW := hgw 89 (by decide +kernel) (by decide +kernel)
theorem kini_Zjava_lang_IndexOutOfBoundsException : Cond.initialized "java/lang/IndexOutOfBoundsException" ∈ hGW := hgw 90 (by decide +kernel) (by decide +kernel)
theorem kcl_L_20 : Cond.classLink RL 20 RX11 ∈ hGW := hgw 91 (by decide +kernel) (by decide +kernel)
theorem kinst_X11 : Cond.instantiable RX11 15 ∈ hGW := hgw 92 (by decide +kernel) (by decide +kernel)
theorem kml_L_129 : Cond.methodLink RL 129 yX11_init ∈ hGW := hgw 93 (by decide +kernel) (by decide +kernel)
theorem kin_X11_init : Cond.instanceMethod yX11_init ∈ hGW := hgw 94 (by decide +kernel) (by decide +kernel)
theorem kco_X11_init : Cond.code yX11_init cX11_init 1 (Option.none : Option Jvm.ClassFile.FieldType) ∈ hGW := hgw 95 (by decide +kernel) (by decide +kernel)
theorem kml_X11_1 : Cond.methodLink RX11 1 ⟨"java/lang/Object", "<init>", "()V"⟩ ∈ hGW := hgw 96 (by decide +kernel) (by decide +kernel)
theorem kin_Zjava_lang_Object__init____V : Cond.instanceMethod ⟨"java/lang/Object", "<init>", "()V"⟩ ∈ hGW := hgw 97 (by decide +kernel) (by decide +kernel)
theorem kco_Zjava_lang_Object__init____V : Cond.code ⟨"java/lang/Object", "<init>", "()V"⟩ object_method_1_code 1 (Option.none : Option Jvm.ClassFile.FieldType) ∈ hGW := hgw 98 (by decide +kernel) (by decide +kernel)
theorem kcl_X11_7 : Cond.classLink RX11 7 RX8 ∈ hGW := hgw 99 (by decide +kernel) (by decide +kernel)
theorem kinst_X8 : Cond.instantiable RX8 2 ∈ hGW := hgw 100 (by decide +kernel) (by decide +kernel)
theorem kin_X8_init : Cond.instanceMethod yX8_init ∈ hGW := hgw 102 (by decide +kernel) (by decide +kernel)
theorem kco_X8_init : Cond.code yX8_init cX8_init 1 (Option.none : Option Jvm.ClassFile.FieldType) ∈ hGW := hgw 103 (by decide +kernel) (by decide +kernel)
theorem kml_X8_3 : Cond.methodLink RX8 3 ⟨"java/lang/Object", "<init>", "()V"⟩ ∈ hGW := hgw 104 (by decide +kernel) (by decide +kernel)
theorem kfl_X8_9 : Cond.fieldLink RX8 9 RX8 "bytes" "[B" ∈ hGW := hgw 105 (by decide +kernel) (by decide +kernel)
theorem kfl_X8_15 : Cond.fieldLink RX8 15 RX8 "length" "I" ∈ hGW := hgw 106 (by decide +kernel) (by decide +kernel)
theorem kfl_X11_88 : Cond.fieldLink RX11 88 RX8 "length" "I" ∈ hGW := hgw 107 (by decide +kernel) (by decide +kernel)
theorem kfl_X9_83 : Cond.fieldLink RX9 83 RX8 "length" "I" ∈ hGW := hgw 108 (by decide +kernel) (by decide +kernel)
theorem kac_byte : Cond.arrayClass (Jvm.ClassFile.FieldType.byte) ∈ hGW := hgw 114 (by decide +kernel) (by decide +kernel)
theorem kcl_X11_16 : Cond.classLink RX11 16 RX9 ∈ hGW := hgw 115 (by decide +kernel) (by decide +kernel)
theorem kinst_X9 : Cond.instantiable RX9 5 ∈ hGW := hgw 116 (by decide +kernel) (by decide +kernel)
theorem kin_X9_init : Cond.instanceMethod yX9_init ∈ hGW := hgw 118 (by decide +kernel) (by decide +kernel)
theorem kco_X9_init : Cond.code yX9_init cX9_init 1 (Option.none : Option Jvm.ClassFile.FieldType) ∈ hGW := hgw 119 (by decide +kernel) (by decide +kernel)
theorem kml_X9_3 : Cond.methodLink RX9 3 ⟨"java/lang/Object", "<init>", "()V"⟩ ∈ hGW := hgw 120 (by decide +kernel) (by decide +kernel)
theorem kcl_X9_9 : Cond.classLink RX9 9 RX7 ∈ hGW := hgw 121 (by decide +kernel) (by decide +kernel)
theorem kfl_X9_11 : Cond.fieldLink RX9 11 RX9 "signs" "[LLossHouse$Sign;" ∈ hGW := hgw 123 (by decide +kernel) (by decide +kernel)
theorem kfl_X9_17 : Cond.fieldLink RX9 17 RX9 "starts" "[I" ∈ hGW := hgw 124 (by decide +kernel) (by decide +kernel)
theorem kfl_X9_21 : Cond.fieldLink RX9 21 RX9 "numbers" "[I" ∈ hGW := hgw 125 (by decide +kernel) (by decide +kernel)
theorem kfl_X9_24 : Cond.fieldLink RX9 24 RX9 "words" "[J" ∈ hGW := hgw 126 (by decide +kernel) (by decide +kernel)
theorem kfl_X9_28 : Cond.fieldLink RX9 28 RX9 "count" "I" ∈ hGW := hgw 127 (by decide +kernel) (by decide +kernel)
theorem kfl_X2_26 : Cond.fieldLink RX2 26 RX9 "count" "I" ∈ hGW := hgw 128 (by decide +kernel) (by decide +kernel)
theorem kac_int : Cond.arrayClass (Jvm.ClassFile.FieldType.int) ∈ hGW := hgw 140 (by decide +kernel) (by decide +kernel)
theorem kac_long : Cond.arrayClass (Jvm.ClassFile.FieldType.long) ∈ hGW := hgw 141 (by decide +kernel) (by decide +kernel)
theorem kcl_X11_23 : Cond.classLink RX11 23 RX6 ∈ hGW := hgw 142 (by decide +kernel) (by decide +kernel)
theorem kinst_X6 : Cond.instantiable RX6 6 ∈ hGW := hgw 143 (by decide +kernel) (by decide +kernel)
theorem kml_X11_25 : Cond.methodLink RX11 25 yX6_init ∈ hGW := hgw 144 (by decide +kernel) (by decide +kernel)
theorem kin_X6_init : Cond.instanceMethod yX6_init ∈ hGW := hgw 145 (by decide +kernel) (by decide +kernel)
theorem kco_X6_init : Cond.code yX6_init cX6_init 2 (Option.none : Option Jvm.ClassFile.FieldType) ∈ hGW := hgw 146 (by decide +kernel) (by decide +kernel)
theorem kml_X6_3 : Cond.methodLink RX6 3 ⟨"java/lang/Object", "<init>", "()V"⟩ ∈ hGW := hgw 147 (by decide +kernel) (by decide +kernel)
theorem kcl_X6_9 : Cond.classLink RX6 9 RX7 ∈ hGW := hgw 148 (by decide +kernel) (by decide +kernel)
theorem kfl_X6_28 : Cond.fieldLink RX6 28 RX7 "WRONG" "LLossHouse$Sign;" ∈ hGW := hgw 149 (by decide +kernel) (by decide +kernel)
theorem kfl_X6_35 : Cond.fieldLink RX6 35 RX6 "tokens" "LLossHouse$Tokens;" ∈ hGW := hgw 151 (by decide +kernel) (by decide +kernel)
theorem kfl_X6_11 : Cond.fieldLink RX6 11 RX6 "steps" "[LLossHouse$Sign;" ∈ hGW := hgw 152 (by decide +kernel) (by decide +kernel)
theorem kfl_X6_17 : Cond.fieldLink RX6 17 RX6 "numbers" "[I" ∈ hGW := hgw 153 (by decide +kernel) (by decide +kernel)
theorem kfl_X6_21 : Cond.fieldLink RX6 21 RX6 "stepCount" "I" ∈ hGW := hgw 154 (by decide +kernel) (by decide +kernel)
theorem kfl_X6_25 : Cond.fieldLink RX6 25 RX6 "next" "I" ∈ hGW := hgw 155 (by decide +kernel) (by decide +kernel)
theorem kfl_X6_32 : Cond.fieldLink RX6 32 RX6 "sign" "LLossHouse$Sign;" ∈ hGW := hgw 156 (by decide +kernel) (by decide +kernel)
theorem kcl_X11_32 : Cond.classLink RX11 32 RX2 ∈ hGW := hgw 170 (by decide +kernel) (by decide +kernel)
theorem kinst_X2 : Cond.instantiable RX2 4 ∈ hGW := hgw 171 (by decide +kernel) (by decide +kernel)
theorem kml_X11_34 : Cond.methodLink RX11 34 yX2_init ∈ hGW := hgw 172 (by decide +kernel) (by decide +kernel)
theorem kin_X2_init : Cond.instanceMethod yX2_init ∈ hGW := hgw 173 (by decide +kernel) (by decide +kernel)
theorem kco_X2_init : Cond.code yX2_init cX2_init 2 (Option.none : Option Jvm.ClassFile.FieldType) ∈ hGW := hgw 174 (by decide +kernel) (by decide +kernel)
theorem kml_X2_3 : Cond.methodLink RX2 3 ⟨"java/lang/Object", "<init>", "()V"⟩ ∈ hGW := hgw 175 (by decide +kernel) (by decide +kernel)
theorem kfl_X2_22 : Cond.fieldLink RX2 22 RX2 "tokens" "LLossHouse$Tokens;" ∈ hGW := hgw 176 (by decide +kernel) (by decide +kernel)
theorem kfl_X2_9 : Cond.fieldLink RX2 9 RX2 "names" "[J" ∈ hGW := hgw 177 (by decide +kernel) (by decide +kernel)
theorem kfl_X2_15 : Cond.fieldLink RX2 15 RX2 "count" "I" ∈ hGW := hgw 178 (by decide +kernel) (by decide +kernel)
theorem kfl_X2_19 : Cond.fieldLink RX2 19 RX2 "wrong" "I" ∈ hGW := hgw 179 (by decide +kernel) (by decide +kernel)
theorem kcl_X11_39 : Cond.classLink RX11 39 RJx4a65c ∈ hGW := hgw 189 (by decide +kernel) (by decide +kernel)
theorem kinst_Jx4a65c : Cond.instantiable RJx4a65c 3 ∈ hGW := hgw 190 (by decide +kernel) (by decide +kernel)
theorem kml_X11_41 : Cond.methodLink RX11 41 yJx4a65c_init_da8c8 ∈ hGW := hgw 191 (by decide +kernel) (by decide +kernel)
theorem kin_Jx4a65c_init_da8c8 : Cond.instanceMethod yJx4a65c_init_da8c8 ∈ hGW := hgw 192 (by decide +kernel) (by decide +kernel)
theorem kco_Jx4a65c_init_da8c8 : Cond.code yJx4a65c_init_da8c8 cJx4a65c_init_da8c8 1 (Option.none : Option Jvm.ClassFile.FieldType) ∈ hGW := hgw 193 (by decide +kernel) (by decide +kernel)
theorem kml_Jx4a65c_1 : Cond.methodLink RJx4a65c 1 yJxc12de_init_da8c8 ∈ hGW := hgw 194 (by decide +kernel) (by decide +kernel)
theorem kin_Jxc12de_init_da8c8 : Cond.instanceMethod yJxc12de_init_da8c8 ∈ hGW := hgw 195 (by decide +kernel) (by decide +kernel)
theorem kco_Jxc12de_init_da8c8 : Cond.code yJxc12de_init_da8c8 cJxc12de_init_da8c8 1 (Option.none : Option Jvm.ClassFile.FieldType) ∈ hGW := hgw 196 (by decide +kernel) (by decide +kernel)
theorem kml_Jxc12de_1 : Cond.methodLink RJxc12de 1 yJxa1e45_init_da8c8 ∈ hGW := hgw 197 (by decide +kernel) (by decide +kernel)
theorem kin_Jxa1e45_init_da8c8 : Cond.instanceMethod yJxa1e45_init_da8c8 ∈ hGW := hgw 198 (by decide +kernel) (by decide +kernel)
theorem kco_Jxa1e45_init_da8c8 : Cond.code yJxa1e45_init_da8c8 cJxa1e45_init_da8c8 1 (Option.none : Option Jvm.ClassFile.FieldType) ∈ hGW := hgw 199 (by decide +kernel) (by decide +kernel)
theorem kml_Jxa1e45_1 : Cond.methodLink RJxa1e45 1 ⟨"java/lang/Object", "<init>", "()V"⟩ ∈ hGW := hgw 200 (by decide +kernel) (by decide +kernel)
theorem kfl_Jx4a65c_39 : Cond.fieldLink RJx4a65c 39 RJx4a65c "DEFAULTCAPACITY_EMPTY_ELEMENTDATA" "[Ljava/lang/Object;" ∈ hGW := hgw 201 (by decide +kernel) (by decide +kernel)
theorem kfl_Jx4a65c_9 : Cond.fieldLink RJx4a65c 9 RJx4a65c "elementData" "[Ljava/lang/Object;" ∈ hGW := hgw 203 (by decide +kernel) (by decide +kernel)
theorem kfl_Jx4a65c_48 : Cond.fieldLink RJx4a65c 48 RJx4a65c "size" "I" ∈ hGW := hgw 204 (by decide +kernel) (by decide +kernel)
theorem kfl_Jxc12de_7 : Cond.fieldLink RJxc12de 7 RJxc12de "modCount" "I" ∈ hGW := hgw 205 (by decide +kernel) (by decide +kernel)
theorem kfl_Jx4a65c_63 : Cond.fieldLink RJx4a65c 63 RJx4a65c "modCount" "I" ∈ hGW := hgw 206 (by decide +kernel) (by decide +kernel)
theorem ksf_Jx4a65c_modCount : Cond.sameField RJx4a65c RJxc12de "modCount" "I" ∈ hGW := hgw 207 (by decide +kernel) (by decide +kernel)
theorem kcl_X11_49 : Cond.classLink RX11 49 RX1 ∈ hGW := hgw 215 (by decide +kernel) (by decide +kernel)
theorem kinst_X1 : Cond.instantiable RX1 6 ∈ hGW := hgw 216 (by decide +kernel) (by decide +kernel)
theorem kml_X11_51 : Cond.methodLink RX11 51 yX1_init ∈ hGW := hgw 217 (by decide +kernel) (by decide +kernel)
theorem kin_X1_init : Cond.instanceMethod yX1_init ∈ hGW := hgw 218 (by decide +kernel) (by decide +kernel)
theorem kco_X1_init : Cond.code yX1_init cX1_init 3 (Option.none : Option Jvm.ClassFile.FieldType) ∈ hGW := hgw 219 (by decide +kernel) (by decide +kernel)
theorem kml_X1_3 : Cond.methodLink RX1 3 ⟨"java/lang/Object", "<init>", "()V"⟩ ∈ hGW := hgw 220 (by decide +kernel) (by decide +kernel)
theorem kcl_X1_15 : Cond.classLink RX1 15 "[[I" ∈ hGW := hgw 221 (by decide +kernel) (by decide +kernel)
theorem kfl_X1_9 : Cond.fieldLink RX1 9 RX1 "amounts" "[I" ∈ hGW := hgw 223 (by decide +kernel) (by decide +kernel)
theorem kfl_X11_295 : Cond.fieldLink RX11 295 RX1 "amounts" "[I" ∈ hGW := hgw 224 (by decide +kernel) (by decide +kernel)
theorem kfl_X1_17 : Cond.fieldLink RX1 17 RX1 "bears" "[[I" ∈ hGW := hgw 225 (by decide +kernel) (by decide +kernel)
theorem kfl_X11_318 : Cond.fieldLink RX11 318 RX1 "bears" "[[I" ∈ hGW := hgw 226 (by decide +kernel) (by decide +kernel)
theorem kfl_X1_20 : Cond.fieldLink RX1 20 RX1 "yearLosses" "[[I" ∈ hGW := hgw 227 (by decide +kernel) (by decide +kernel)
theorem kfl_X1_23 : Cond.fieldLink RX1 23 RX1 "claimLosses" "[I" ∈ hGW := hgw 228 (by decide +kernel) (by decide +kernel)
theorem kfl_X1_26 : Cond.fieldLink RX1 26 RX1 "layers" "Ljava/util/List;" ∈ hGW := hgw 229 (by decide +kernel) (by decide +kernel)
theorem kfl_X1_30 : Cond.fieldLink RX1 30 RX1 "claims" "Ljava/util/List;" ∈ hGW := hgw 230 (by decide +kernel) (by decide +kernel)
theorem kcl_X11_64 : Cond.classLink RX11 64 RX10 ∈ hGW := hgw 244 (by decide +kernel) (by decide +kernel)
theorem kinst_X10 : Cond.instantiable RX10 2 ∈ hGW := hgw 246 (by decide +kernel) (by decide +kernel)
theorem kin_X10_init : Cond.instanceMethod yX10_init ∈ hGW := hgw 248 (by decide +kernel) (by decide +kernel)
theorem kco_X10_init : Cond.code yX10_init cX10_init 1 (Option.none : Option Jvm.ClassFile.FieldType) ∈ hGW := hgw 249 (by decide +kernel) (by decide +kernel)
theorem kml_X10_3 : Cond.methodLink RX10 3 ⟨"java/lang/Object", "<init>", "()V"⟩ ∈ hGW := hgw 250 (by decide +kernel) (by decide +kernel)
theorem kcl_X10_9 : Cond.classLink RX10 9 "[[I" ∈ hGW := hgw 251 (by decide +kernel) (by decide +kernel)
theorem kfl_X10_11 : Cond.fieldLink RX10 11 RX10 "cells" "[[I" ∈ hGW := hgw 252 (by decide +kernel) (by decide +kernel)
theorem kfl_X11_262 : Cond.fieldLink RX11 262 RX10 "cells" "[[I" ∈ hGW := hgw 253 (by decide +kernel) (by decide +kernel)
theorem kfl_X10_16 : Cond.fieldLink RX10 16 RX10 "now" "I" ∈ hGW := hgw 254 (by decide +kernel) (by decide +kernel)
theorem kfl_X11_10 : Cond.fieldLink RX11 10 RX11 "tape" "LLossHouse$Tape;" ∈ hGW := hgw 260 (by decide +kernel) (by decide +kernel)
theorem kfl_X11_19 : Cond.fieldLink RX11 19 RX11 "tokens" "LLossHouse$Tokens;" ∈ hGW := hgw 261 (by decide +kernel) (by decide +kernel)
theorem kfl_X11_28 : Cond.fieldLink RX11 28 RX11 "parser" "LLossHouse$Parser;" ∈ hGW := hgw 262 (by decide +kernel) (by decide +kernel)
theorem kfl_X11_35 : Cond.fieldLink RX11 35 RX11 "checker" "LLossHouse$Checker;" ∈ hGW := hgw 263 (by decide +kernel) (by decide +kernel)
theorem kfl_X11_42 : Cond.fieldLink RX11 42 RX11 "layers" "Ljava/util/ArrayList;" ∈ hGW := hgw 264 (by decide +kernel) (by decide +kernel)
theorem kfl_X11_46 : Cond.fieldLink RX11 46 RX11 "claims" "Ljava/util/ArrayList;" ∈ hGW := hgw 265 (by decide +kernel) (by decide +kernel)
theorem kfl_X11_54 : Cond.fieldLink RX11 54 RX11 "paidNow" "LLossHouse$Cession;" ∈ hGW := hgw 266 (by decide +kernel) (by decide +kernel)
theorem kfl_X11_58 : Cond.fieldLink RX11 58 RX11 "incurredNow" "LLossHouse$Cession;" ∈ hGW := hgw 267 (by decide +kernel) (by decide +kernel)
theorem kfl_X11_61 : Cond.fieldLink RX11 61 RX11 "trial" "LLossHouse$Cession;" ∈ hGW := hgw 268 (by decide +kernel) (by decide +kernel)
theorem kfl_X11_67 : Cond.fieldLink RX11 67 RX11 "triangles" "[LLossHouse$Triangle;" ∈ hGW := hgw 269 (by decide +kernel) (by decide +kernel)
theorem kfl_X11_71 : Cond.fieldLink RX11 71 RX11 "premiums" "[I" ∈ hGW := hgw 270 (by decide +kernel) (by decide +kernel)
theorem kfl_X11_75 : Cond.fieldLink RX11 75 RX11 "expecteds" "[I" ∈ hGW := hgw 271 (by decide +kernel) (by decide +kernel)
theorem kfl_X11_78 : Cond.fieldLink RX11 78 RX11 "now" "I" ∈ hGW := hgw 272 (by decide +kernel) (by decide +kernel)
theorem kfl_X11_82 : Cond.fieldLink RX11 82 RX11 "tail" "I" ∈ hGW := hgw 273 (by decide +kernel) (by decide +kernel)
theorem kfl_X11_85 : Cond.fieldLink RX11 85 RX11 "errorPosition" "I" ∈ hGW := hgw 274 (by decide +kernel) (by decide +kernel)
theorem kml_L_188 : Cond.methodLink RL 188 yX11_count ∈ hGW := hgw 306 (by decide +kernel) (by decide +kernel)
theorem kin_X11_count : Cond.instanceMethod yX11_count ∈ hGW := hgw 307 (by decide +kernel) (by decide +kernel)
theorem kse_X11_X11_count_X11_count : Cond.selects RX11 yX11_count yX11_count ∈ hGW := hgw 308 (by decide +kernel) (by decide +kernel)
theorem kco_X11_count : Cond.code yX11_count cX11_count 2 (Option.some Jvm.ClassFile.FieldType.int) ∈ hGW := hgw 309 (by decide +kernel) (by decide +kernel)
theorem kcl_X11_132 : Cond.classLink RX11 132 "java/lang/IndexOutOfBoundsException" ∈ hGW := hgw 310 (by decide +kernel) (by decide +kernel)
theorem kinst_Zjava_lang_IndexOutOfBoundsException : Cond.instantiable "java/lang/IndexOutOfBoundsException" 6 ∈ hGW := hgw 311 (by decide +kernel) (by decide +kernel)
theorem kse_Zjava_lang_IndexOutOfBoundsException_Zjava_lang_Throwable_fillInStackTrace__I_Ljava_lang_Throwable__Zjava_lang_Throwable_fillInStackTrace__I_Ljava_lang_Throwable_ : Cond.selects "java/lang/IndexOutOfBoundsException" ⟨"java/lang/Throwable", "fillInStackTrace", "(I)Ljava/lang/Throwable;"⟩ ⟨"java/lang/Throwable", "fillInStackTrace", "(I)Ljava/lang/Throwable;"⟩ ∈ hGW := hgw 319 (by decide +kernel) (by decide +kernel)
theorem kse_Zjava_lang_IndexOutOfBoundsException_Zjava_lang_Throwable_fillInStackTrace___Ljava_lang_Throwable__Zjava_lang_Throwable_fillInStackTrace___Ljava_lang_Throwable_ : Cond.selects "java/lang/IndexOutOfBoundsException" ⟨"java/lang/Throwable", "fillInStackTrace", "()Ljava/lang/Throwable;"⟩ ⟨"java/lang/Throwable", "fillInStackTrace", "()Ljava/lang/Throwable;"⟩ ∈ hGW := hgw 320 (by decide +kernel) (by decide +kernel)
theorem kfl_Zjava_lang_Throwable_198 : Cond.fieldLink "java/lang/Throwable" 198 "java/lang/Throwable" "backtrace" "Ljava/lang/Object;" ∈ hGW := hgw 331 (by decide +kernel) (by decide +kernel)
theorem kin_Zjava_lang_Throwable__init____V : Cond.instanceMethod ⟨"java/lang/Throwable", "<init>", "()V"⟩ ∈ hGW := hgw 333 (by decide +kernel) (by decide +kernel)
theorem kco_Zjava_lang_Throwable__init____V : Cond.code ⟨"java/lang/Throwable", "<init>", "()V"⟩ prog_38_method_1_code 1 (Option.none : Option Jvm.ClassFile.FieldType) ∈ hGW := hgw 334 (by decide +kernel) (by decide +kernel)
theorem kml_Zjava_lang_Throwable_1 : Cond.methodLink "java/lang/Throwable" 1 ⟨"java/lang/Object", "<init>", "()V"⟩ ∈ hGW := hgw 335 (by decide +kernel) (by decide +kernel)
theorem kfl_Zjava_lang_Throwable_13 : Cond.fieldLink "java/lang/Throwable" 13 "java/lang/Throwable" "UNASSIGNED_STACK" "[Ljava/lang/StackTraceElement;" ∈ hGW := hgw 336 (by decide +kernel) (by decide +kernel)
theorem kfl_Zjava_lang_Throwable_20 : Cond.fieldLink "java/lang/Throwable" 20 "java/lang/Throwable" "SUPPRESSED_SENTINEL" "Ljava/util/List;" ∈ hGW := hgw 338 (by decide +kernel) (by decide +kernel)
theorem kml_Zjava_lang_Throwable_27 : Cond.methodLink "java/lang/Throwable" 27 ⟨"java/lang/Throwable", "fillInStackTrace", "()Ljava/lang/Throwable;"⟩ ∈ hGW := hgw 340 (by decide +kernel) (by decide +kernel)
theorem kin_Zjava_lang_Throwable_fillInStackTrace___Ljava_lang_Throwable_ : Cond.instanceMethod ⟨"java/lang/Throwable", "fillInStackTrace", "()Ljava/lang/Throwable;"⟩ ∈ hGW := hgw 341 (by decide +kernel) (by decide +kernel)
theorem ksm_Zjava_lang_Throwable_fillInStackTrace__Ljava_lang_Throwable_ : Cond.sameMethod "java/lang/Throwable" "java/lang/Throwable" "fillInStackTrace" "()Ljava/lang/Throwable;" ∈ hGW := hgw 342 (by decide +kernel) (by decide +kernel)
theorem kse_Zjava_lang_IllegalArgumentException_Zjava_lang_Throwable_fillInStackTrace___Ljava_lang_Throwable__Zjava_lang_Throwable_fillInStackTrace___Ljava_lang_Throwable_ : Cond.selects "java/lang/IllegalArgumentException" ⟨"java/lang/Throwable", "fillInStackTrace", "()Ljava/lang/Throwable;"⟩ ⟨"java/lang/Throwable", "fillInStackTrace", "()Ljava/lang/Throwable;"⟩ ∈ hGW := hgw 343 (by decide +kernel) (by decide +kernel)
theorem kse_Zjava_lang_IllegalStateException_Zjava_lang_Throwable_fillInStackTrace___Ljava_lang_Throwable__Zjava_lang_Throwable_fillInStackTrace___Ljava_lang_Throwable_ : Cond.selects "java/lang/IllegalStateException" ⟨"java/lang/Throwable", "fillInStackTrace", "()Ljava/lang/Throwable;"⟩ ⟨"java/lang/Throwable", "fillInStackTrace", "()Ljava/lang/Throwable;"⟩ ∈ hGW := hgw 344 (by decide +kernel) (by decide +kernel)
theorem kml_Zjava_lang_Throwable_202 : Cond.methodLink "java/lang/Throwable" 202 ⟨"java/lang/Throwable", "fillInStackTrace", "(I)Ljava/lang/Throwable;"⟩ ∈ hGW := hgw 346 (by decide +kernel) (by decide +kernel)
theorem kin_Zjava_lang_Throwable_fillInStackTrace__I_Ljava_lang_Throwable_ : Cond.instanceMethod ⟨"java/lang/Throwable", "fillInStackTrace", "(I)Ljava/lang/Throwable;"⟩ ∈ hGW := hgw 348 (by decide +kernel) (by decide +kernel)
theorem kinst_Zjava_lang_Throwable : Cond.instantiable "java/lang/Throwable" 6 ∈ hGW := hgw 349 (by decide +kernel) (by decide +kernel)
theorem kml_X11_136 : Cond.methodLink RX11 136 ⟨"java/lang/IndexOutOfBoundsException", "<init>", "(Ljava/lang/String;)V"⟩ ∈ hGW := hgw 352 (by decide +kernel) (by decide +kernel)
theorem kin_Zjava_lang_IndexOutOfBoundsException__init___Ljava_lang_String__V : Cond.instanceMethod ⟨"java/lang/IndexOutOfBoundsException", "<init>", "(Ljava/lang/String;)V"⟩ ∈ hGW := hgw 353 (by decide +kernel) (by decide +kernel)
theorem kco_Zjava_lang_IndexOutOfBoundsException__init___Ljava_lang_String__V : Cond.code ⟨"java/lang/IndexOutOfBoundsException", "<init>", "(Ljava/lang/String;)V"⟩ prog_27_method_2_code 2 (Option.none : Option Jvm.ClassFile.FieldType) ∈ hGW := hgw 354 (by decide +kernel) (by decide +kernel)
theorem kml_Zjava_lang_IndexOutOfBoundsException_7 : Cond.methodLink "java/lang/IndexOutOfBoundsException" 7 ⟨"java/lang/RuntimeException", "<init>", "(Ljava/lang/String;)V"⟩ ∈ hGW := hgw 355 (by decide +kernel) (by decide +kernel)
theorem kin_Zjava_lang_RuntimeException__init___Ljava_lang_String__V : Cond.instanceMethod ⟨"java/lang/RuntimeException", "<init>", "(Ljava/lang/String;)V"⟩ ∈ hGW := hgw 356 (by decide +kernel) (by decide +kernel)
theorem kco_Zjava_lang_RuntimeException__init___Ljava_lang_String__V : Cond.code ⟨"java/lang/RuntimeException", "<init>", "(Ljava/lang/String;)V"⟩ prog_32_method_2_code 2 (Option.none : Option Jvm.ClassFile.FieldType) ∈ hGW := hgw 357 (by decide +kernel) (by decide +kernel)
theorem kml_Zjava_lang_RuntimeException_7 : Cond.methodLink "java/lang/RuntimeException" 7 ⟨"java/lang/Exception", "<init>", "(Ljava/lang/String;)V"⟩ ∈ hGW := hgw 358 (by decide +kernel) (by decide +kernel)
theorem kin_Zjava_lang_Exception__init___Ljava_lang_String__V : Cond.instanceMethod ⟨"java/lang/Exception", "<init>", "(Ljava/lang/String;)V"⟩ ∈ hGW := hgw 359 (by decide +kernel) (by decide +kernel)
theorem kco_Zjava_lang_Exception__init___Ljava_lang_String__V : Cond.code ⟨"java/lang/Exception", "<init>", "(Ljava/lang/String;)V"⟩ prog_24_method_2_code 2 (Option.none : Option Jvm.ClassFile.FieldType) ∈ hGW := hgw 360 (by decide +kernel) (by decide +kernel)
theorem kml_Zjava_lang_Exception_7 : Cond.methodLink "java/lang/Exception" 7 ⟨"java/lang/Throwable", "<init>", "(Ljava/lang/String;)V"⟩ ∈ hGW := hgw 361 (by decide +kernel) (by decide +kernel)
theorem kin_Zjava_lang_Throwable__init___Ljava_lang_String__V : Cond.instanceMethod ⟨"java/lang/Throwable", "<init>", "(Ljava/lang/String;)V"⟩ ∈ hGW := hgw 362 (by decide +kernel) (by decide +kernel)
theorem kco_Zjava_lang_Throwable__init___Ljava_lang_String__V : Cond.code ⟨"java/lang/Throwable", "<init>", "(Ljava/lang/String;)V"⟩ prog_38_method_2_code 2 (Option.none : Option Jvm.ClassFile.FieldType) ∈ hGW := hgw 363 (by decide +kernel) (by decide +kernel)
theorem kfl_Zjava_lang_Throwable_31 : Cond.fieldLink "java/lang/Throwable" 31 "java/lang/Throwable" "detailMessage" "Ljava/lang/String;" ∈ hGW := hgw 365 (by decide +kernel) (by decide +kernel)
theorem kfl_Zjava_lang_Throwable_7 : Cond.fieldLink "java/lang/Throwable" 7 "java/lang/Throwable" "cause" "Ljava/lang/Throwable;" ∈ hGW := hgw 366 (by decide +kernel) (by decide +kernel)
theorem kfl_Zjava_lang_Throwable_17 : Cond.fieldLink "java/lang/Throwable" 17 "java/lang/Throwable" "stackTrace" "[Ljava/lang/StackTraceElement;" ∈ hGW := hgw 367 (by decide +kernel) (by decide +kernel)
theorem kfl_Zjava_lang_Throwable_24 : Cond.fieldLink "java/lang/Throwable" 24 "java/lang/Throwable" "suppressedExceptions" "Ljava/util/List;" ∈ hGW := hgw 368 (by decide +kernel) (by decide +kernel)
theorem kml_X11_137 : Cond.methodLink RX11 137 yX11_cedeNow ∈ hGW := hgw 377 (by decide +kernel) (by decide +kernel)
theorem kin_X11_cedeNow : Cond.instanceMethod yX11_cedeNow ∈ hGW := hgw 379 (by decide +kernel) (by decide +kernel)
theorem kco_X11_cedeNow : Cond.code yX11_cedeNow cX11_cedeNow 4 (Option.none : Option Jvm.ClassFile.FieldType) ∈ hGW := hgw 380 (by decide +kernel) (by decide +kernel)
theorem kml_X11_291 : Cond.methodLink RX11 291 yX11_tellAmounts ∈ hGW := hgw 381 (by decide +kernel) (by decide +kernel)
theorem kin_X11_tellAmounts : Cond.instanceMethod yX11_tellAmounts ∈ hGW := hgw 383 (by decide +kernel) (by decide +kernel)
theorem kco_X11_tellAmounts : Cond.code yX11_tellAmounts cX11_tellAmounts 5 (Option.none : Option Jvm.ClassFile.FieldType) ∈ hGW := hgw 384 (by decide +kernel) (by decide +kernel)
theorem kml_X11_176 : Cond.methodLink RX11 176 yJx4a65c_size_8abf5 ∈ hGW := hgw 385 (by decide +kernel) (by decide +kernel)
theorem kin_Jx4a65c_size_8abf5 : Cond.instanceMethod yJx4a65c_size_8abf5 ∈ hGW := hgw 386 (by decide +kernel) (by decide +kernel)
theorem kse_Jx4a65c_Jx4a65c_size_8abf5_Jx4a65c_size_8abf5 : Cond.selects RJx4a65c yJx4a65c_size_8abf5 yJx4a65c_size_8abf5 ∈ hGW := hgw 387 (by decide +kernel) (by decide +kernel)
theorem kco_Jx4a65c_size_8abf5 : Cond.code yJx4a65c_size_8abf5 cJx4a65c_size_8abf5 1 (Option.some Jvm.ClassFile.FieldType.int) ∈ hGW := hgw 388 (by decide +kernel) (by decide +kernel)
theorem kml_X11_150 : Cond.methodLink RX11 150 yJx4a65c_get_915e3 ∈ hGW := hgw 389 (by decide +kernel) (by decide +kernel)
theorem kin_Jx4a65c_get_915e3 : Cond.instanceMethod yJx4a65c_get_915e3 ∈ hGW := hgw 390 (by decide +kernel) (by decide +kernel)
theorem kse_Jx4a65c_Jx4a65c_get_915e3_Jx4a65c_get_915e3 : Cond.selects RJx4a65c yJx4a65c_get_915e3 yJx4a65c_get_915e3 ∈ hGW := hgw 391 (by decide +kernel) (by decide +kernel)
theorem kco_Jx4a65c_get_915e3 : Cond.code yJx4a65c_get_915e3 cJx4a65c_get_915e3 2 (Option.some (Jvm.ClassFile.FieldType.object "java/lang/Object")) ∈ hGW := hgw 392 (by decide +kernel) (by decide +kernel)
theorem kml_Jx4a65c_118 : Cond.methodLink RJx4a65c 118 yJ15_checkIndex_7cf53 ∈ hGW := hgw 393 (by decide +kernel) (by decide +kernel)
theorem kst_J15_checkIndex_7cf53 : Cond.static yJ15_checkIndex_7cf53 ∈ hGW := hgw 394 (by decide +kernel) (by decide +kernel)
theorem kco_J15_checkIndex_7cf53 : Cond.code yJ15_checkIndex_7cf53 cJ15_checkIndex_7cf53 2 (Option.some Jvm.ClassFile.FieldType.int) ∈ hGW := hgw 395 (by decide +kernel) (by decide +kernel)
theorem kml_J15_105 : Cond.methodLink RJ15 105 yJ3_checkIndex_8e157 ∈ hGW := hgw 396 (by decide +kernel) (by decide +kernel)
theorem kst_J3_checkIndex_8e157 : Cond.static yJ3_checkIndex_8e157 ∈ hGW := hgw 397 (by decide +kernel) (by decide +kernel)
theorem kco_J3_checkIndex_8e157 : Cond.code yJ3_checkIndex_8e157 cJ3_checkIndex_8e157 3 (Option.some Jvm.ClassFile.FieldType.int) ∈ hGW := hgw 398 (by decide +kernel) (by decide +kernel)
theorem kml_Jx4a65c_123 : Cond.methodLink RJx4a65c 123 yJx4a65c_elementData_915e3 ∈ hGW := hgw 399 (by decide +kernel) (by decide +kernel)
theorem kin_Jx4a65c_elementData_915e3 : Cond.instanceMethod yJx4a65c_elementData_915e3 ∈ hGW := hgw 400 (by decide +kernel) (by decide +kernel)
theorem kse_Jx4a65c_Jx4a65c_elementData_915e3_Jx4a65c_elementData_915e3 : Cond.selects RJx4a65c yJx4a65c_elementData_915e3 yJx4a65c_elementData_915e3 ∈ hGW := hgw 401 (by decide +kernel) (by decide +kernel)
theorem kco_Jx4a65c_elementData_915e3 : Cond.code yJx4a65c_elementData_915e3 cJx4a65c_elementData_915e3 2 (Option.some (Jvm.ClassFile.FieldType.object "java/lang/Object")) ∈ hGW := hgw 402 (by decide +kernel) (by decide +kernel)
theorem kcl_X11_181 : Cond.classLink RX11 181 RX3 ∈ hGW := hgw 403 (by decide +kernel) (by decide +kernel)
theorem kml_X11_229 : Cond.methodLink RX11 229 yX3_known ∈ hGW := hgw 404 (by decide +kernel) (by decide +kernel)
theorem kin_X3_known : Cond.instanceMethod yX3_known ∈ hGW := hgw 405 (by decide +kernel) (by decide +kernel)
theorem kse_X3_X3_known_X3_known : Cond.selects RX3 yX3_known yX3_known ∈ hGW := hgw 406 (by decide +kernel) (by decide +kernel)
theorem kco_X3_known : Cond.code yX3_known cX3_known 4 (Option.some Jvm.ClassFile.FieldType.int) ∈ hGW := hgw 407 (by decide +kernel) (by decide +kernel)
theorem kml_X11_298 : Cond.methodLink RX11 298 yX1_cedeAhead ∈ hGW := hgw 408 (by decide +kernel) (by decide +kernel)
theorem kin_X1_cedeAhead : Cond.instanceMethod yX1_cedeAhead ∈ hGW := hgw 409 (by decide +kernel) (by decide +kernel)
theorem kse_X1_X1_cedeAhead_X1_cedeAhead : Cond.selects RX1 yX1_cedeAhead yX1_cedeAhead ∈ hGW := hgw 410 (by decide +kernel) (by decide +kernel)
theorem kco_X1_cedeAhead : Cond.code yX1_cedeAhead cX1_cedeAhead 6 (Option.none : Option Jvm.ClassFile.FieldType) ∈ hGW := hgw 411 (by decide +kernel) (by decide +kernel)
theorem kml_X1_33 : Cond.methodLink RX1 33 ⟨"java/util/List", "size", "()I"⟩ ∈ hGW := hgw 413 (by decide +kernel) (by decide +kernel)
theorem kse_Jx4a65c_Zjava_util_List_size___I_Jx4a65c_size_8abf5 : Cond.selects RJx4a65c ⟨"java/util/List", "size", "()I"⟩ yJx4a65c_size_8abf5 ∈ hGW := hgw 417 (by decide +kernel) (by decide +kernel)
theorem kml_X1_39 : Cond.methodLink RX1 39 yX1_cede ∈ hGW := hgw 420 (by decide +kernel) (by decide +kernel)
theorem kin_X1_cede : Cond.instanceMethod yX1_cede ∈ hGW := hgw 421 (by decide +kernel) (by decide +kernel)
theorem kse_X1_X1_cede_X1_cede : Cond.selects RX1 yX1_cede yX1_cede ∈ hGW := hgw 422 (by decide +kernel) (by decide +kernel)
theorem kco_X1_cede : Cond.code yX1_cede cX1_cede 8 (Option.none : Option Jvm.ClassFile.FieldType) ∈ hGW := hgw 423 (by decide +kernel) (by decide +kernel)
theorem kml_X1_43 : Cond.methodLink RX1 43 ⟨"java/util/List", "get", "(I)Ljava/lang/Object;"⟩ ∈ hGW := hgw 425 (by decide +kernel) (by decide +kernel)
theorem kse_Jx4a65c_Zjava_util_List_get__I_Ljava_lang_Object__Jx4a65c_get_915e3 : Cond.selects RJx4a65c ⟨"java/util/List", "get", "(I)Ljava/lang/Object;"⟩ yJx4a65c_get_915e3 ∈ hGW := hgw 428 (by decide +kernel) (by decide +kernel)
theorem kcl_X1_47 : Cond.classLink RX1 47 RX3 ∈ hGW := hgw 431 (by decide +kernel) (by decide +kernel)
theorem kcl_X1_53 : Cond.classLink RX1 53 RX5 ∈ hGW := hgw 432 (by decide +kernel) (by decide +kernel)
theorem kml_X1_55 : Cond.methodLink RX1 55 yX1_subject ∈ hGW := hgw 433 (by decide +kernel) (by decide +kernel)
theorem kin_X1_subject : Cond.instanceMethod yX1_subject ∈ hGW := hgw 435 (by decide +kernel) (by decide +kernel)
theorem kco_X1_subject : Cond.code yX1_subject cX1_subject 6 (Option.some Jvm.ClassFile.FieldType.int) ∈ hGW := hgw 436 (by decide +kernel) (by decide +kernel)
theorem kml_X1_67 : Cond.methodLink RX1 67 yX5_isNetOf ∈ hGW := hgw 437 (by decide +kernel) (by decide +kernel)
theorem kin_X5_isNetOf : Cond.instanceMethod yX5_isNetOf ∈ hGW := hgw 438 (by decide +kernel) (by decide +kernel)
theorem kse_X5_X5_isNetOf_X5_isNetOf : Cond.selects RX5 yX5_isNetOf yX5_isNetOf ∈ hGW := hgw 439 (by decide +kernel) (by decide +kernel)
theorem kco_X5_isNetOf : Cond.code yX5_isNetOf cX5_isNetOf 2 (Option.some Jvm.ClassFile.FieldType.boolean) ∈ hGW := hgw 440 (by decide +kernel) (by decide +kernel)
theorem kml_X1_71 : Cond.methodLink RX1 71 yX1_given ∈ hGW := hgw 441 (by decide +kernel) (by decide +kernel)
theorem kin_X1_given : Cond.instanceMethod yX1_given ∈ hGW := hgw 442 (by decide +kernel) (by decide +kernel)
theorem kse_X1_X1_given_X1_given : Cond.selects RX1 yX1_given yX1_given ∈ hGW := hgw 443 (by decide +kernel) (by decide +kernel)
theorem kco_X1_given : Cond.code yX1_given cX1_given 3 (Option.some Jvm.ClassFile.FieldType.int) ∈ hGW := hgw 444 (by decide +kernel) (by decide +kernel)
theorem kml_X1_79 : Cond.methodLink RX1 79 yX5_shareOf ∈ hGW := hgw 445 (by decide +kernel) (by decide +kernel)
theorem kin_X5_shareOf : Cond.instanceMethod yX5_shareOf ∈ hGW := hgw 446 (by decide +kernel) (by decide +kernel)
theorem kse_X5_X5_shareOf_X5_shareOf : Cond.selects RX5 yX5_shareOf yX5_shareOf ∈ hGW := hgw 447 (by decide +kernel) (by decide +kernel)
theorem kco_X5_shareOf : Cond.code yX5_shareOf cX5_shareOf 2 (Option.some Jvm.ClassFile.FieldType.int) ∈ hGW := hgw 448 (by decide +kernel) (by decide +kernel)
theorem kcJ_X5_95 : Cond.constantLong RX5 95 (100 : Int64) ∈ hGW := hgw 449 (by decide +kernel) (by decide +kernel)
theorem kml_X1_74 : Cond.methodLink RX1 74 Lib.Math.max.name ∈ hGW := hgw 450 (by decide +kernel) (by decide +kernel)
theorem kst_max : Cond.static Lib.Math.max.name ∈ hGW := hgw 451 (by decide +kernel) (by decide +kernel)
theorem kco_max : Cond.code Lib.Math.max.name Lib.Math.max.code 2 (Option.some Jvm.ClassFile.FieldType.int) ∈ hGW := hgw 452 (by decide +kernel) (by decide +kernel)
theorem kml_X1_59 : Cond.methodLink RX1 59 yX5_lossOf ∈ hGW := hgw 453 (by decide +kernel) (by decide +kernel)
theorem kin_X5_lossOf : Cond.instanceMethod yX5_lossOf ∈ hGW := hgw 454 (by decide +kernel) (by decide +kernel)
theorem kse_X5_X5_lossOf_X5_lossOf : Cond.selects RX5 yX5_lossOf yX5_lossOf ∈ hGW := hgw 455 (by decide +kernel) (by decide +kernel)
theorem kco_X5_lossOf : Cond.code yX5_lossOf cX5_lossOf 6 (Option.some Jvm.ClassFile.FieldType.int) ∈ hGW := hgw 456 (by decide +kernel) (by decide +kernel)
theorem kml_X5_85 : Cond.methodLink RX5 85 yX4_value ∈ hGW := hgw 457 (by decide +kernel) (by decide +kernel)
theorem kin_X4_value : Cond.instanceMethod yX4_value ∈ hGW := hgw 458 (by decide +kernel) (by decide +kernel)
theorem kse_X4_X4_value_X4_value : Cond.selects RX4 yX4_value yX4_value ∈ hGW := hgw 459 (by decide +kernel) (by decide +kernel)
theorem kco_X4_value : Cond.code yX4_value cX4_value 7 (Option.some Jvm.ClassFile.FieldType.int) ∈ hGW := hgw 460 (by decide +kernel) (by decide +kernel)
theorem kml_X4_35 : Cond.methodLink RX4 35 yX4_join ∈ hGW := hgw 461 (by decide +kernel) (by decide +kernel)
theorem kin_X4_join : Cond.instanceMethod yX4_join ∈ hGW := hgw 463 (by decide +kernel) (by decide +kernel)
theorem kinst_X4 : Cond.instantiable RX4 3 ∈ hGW := hgw 464 (by decide +kernel) (by decide +kernel)
theorem kco_X4_join : Cond.code yX4_join cX4_join 4 (Option.some Jvm.ClassFile.FieldType.int) ∈ hGW := hgw 465 (by decide +kernel) (by decide +kernel)
theorem kfl_X4_51 : Cond.fieldLink RX4 51 RX0 "$SwitchMap$LossHouse$Sign" "[I" ∈ hGW := hgw 466 (by decide +kernel) (by decide +kernel)
theorem kml_X4_56 : Cond.methodLink RX4 56 ⟨"LossHouse$Sign", "ordinal", "()I"⟩ ∈ hGW := hgw 468 (by decide +kernel) (by decide +kernel)
theorem ksm_X7_ordinal__I : Cond.sameMethod RX7 RJx29ce0 "ordinal" "()I" ∈ hGW := hgw 469 (by decide +kernel) (by decide +kernel)
theorem kse_X7_ZLossHouse_Sign_ordinal___I_Jx29ce0_ordinal_8abf5 : Cond.selects RX7 ⟨"LossHouse$Sign", "ordinal", "()I"⟩ yJx29ce0_ordinal_8abf5 ∈ hGW := hgw 471 (by decide +kernel) (by decide +kernel)
theorem kin_Jx29ce0_ordinal_8abf5 : Cond.instanceMethod yJx29ce0_ordinal_8abf5 ∈ hGW := hgw 472 (by decide +kernel) (by decide +kernel)
theorem kco_Jx29ce0_ordinal_8abf5 : Cond.code yJx29ce0_ordinal_8abf5 cJx29ce0_ordinal_8abf5 1 (Option.some Jvm.ClassFile.FieldType.int) ∈ hGW := hgw 473 (by decide +kernel) (by decide +kernel)
theorem kfl_X4_39 : Cond.fieldLink RX4 39 RX7 "NOT" "LLossHouse$Sign;" ∈ hGW := hgw 474 (by decide +kernel) (by decide +kernel)
theorem kml_X4_43 : Cond.methodLink RX4 43 yX4_leaf ∈ hGW := hgw 476 (by decide +kernel) (by decide +kernel)
theorem kin_X4_leaf : Cond.instanceMethod yX4_leaf ∈ hGW := hgw 478 (by decide +kernel) (by decide +kernel)
theorem kco_X4_leaf : Cond.code yX4_leaf cX4_leaf 6 (Option.some Jvm.ClassFile.FieldType.int) ∈ hGW := hgw 479 (by decide +kernel) (by decide +kernel)
theorem kml_X5_89 : Cond.methodLink RX5 89 Lib.Math.max.name ∈ hGW := hgw 480 (by decide +kernel) (by decide +kernel)
theorem kml_X5_93 : Cond.methodLink RX5 93 Lib.Math.min.name ∈ hGW := hgw 481 (by decide +kernel) (by decide +kernel)
theorem kst_min : Cond.static Lib.Math.min.name ∈ hGW := hgw 482 (by decide +kernel) (by decide +kernel)
theorem kco_min : Cond.code Lib.Math.min.name Lib.Math.min.code 2 (Option.some Jvm.ClassFile.FieldType.int) ∈ hGW := hgw 483 (by decide +kernel) (by decide +kernel)
theorem kml_X1_63 : Cond.methodLink RX1 63 yX5_borneOf ∈ hGW := hgw 484 (by decide +kernel) (by decide +kernel)
theorem kin_X5_borneOf : Cond.instanceMethod yX5_borneOf ∈ hGW := hgw 485 (by decide +kernel) (by decide +kernel)
theorem kse_X5_X5_borneOf_X5_borneOf : Cond.selects RX5 yX5_borneOf yX5_borneOf ∈ hGW := hgw 486 (by decide +kernel) (by decide +kernel)
theorem kco_X5_borneOf : Cond.code yX5_borneOf cX5_borneOf 6 (Option.some Jvm.ClassFile.FieldType.int) ∈ hGW := hgw 487 (by decide +kernel) (by decide +kernel)
theorem kcJ_X5_67 : Cond.constantLong RX5 67 (-1 : Int64) ∈ hGW := hgw 488 (by decide +kernel) (by decide +kernel)
theorem kml_X5_69 : Cond.methodLink RX5 69 Lib.MathLoose.min_long.x ∈ hGW := hgw 489 (by decide +kernel) (by decide +kernel)
theorem kst_minL : Cond.static Lib.MathLoose.min_long.x ∈ hGW := hgw 490 (by decide +kernel) (by decide +kernel)
theorem kco_minL : Cond.code Lib.MathLoose.min_long.x Lib.MathLoose.min_long.code 4 (Option.some Jvm.ClassFile.FieldType.long) ∈ hGW := hgw 491 (by decide +kernel) (by decide +kernel)
theorem kml_X11_141 : Cond.methodLink RX11 141 yX11_countOf ∈ hGW := hgw 492 (by decide +kernel) (by decide +kernel)
theorem kin_X11_countOf : Cond.instanceMethod yX11_countOf ∈ hGW := hgw 494 (by decide +kernel) (by decide +kernel)
theorem kco_X11_countOf : Cond.code yX11_countOf cX11_countOf 2 (Option.some Jvm.ClassFile.FieldType.int) ∈ hGW := hgw 495 (by decide +kernel) (by decide +kernel)
theorem kml_X11_360 : Cond.methodLink RX11 360 yX11_openClaims ∈ hGW := hgw 496 (by decide +kernel) (by decide +kernel)
theorem kin_X11_openClaims : Cond.instanceMethod yX11_openClaims ∈ hGW := hgw 498 (by decide +kernel) (by decide +kernel)
theorem kco_X11_openClaims : Cond.code yX11_openClaims cX11_openClaims 3 (Option.some Jvm.ClassFile.FieldType.int) ∈ hGW := hgw 499 (by decide +kernel) (by decide +kernel)
theorem kml_X11_363 : Cond.methodLink RX11 363 yX11_allPaid ∈ hGW := hgw 500 (by decide +kernel) (by decide +kernel)
theorem kin_X11_allPaid : Cond.instanceMethod yX11_allPaid ∈ hGW := hgw 502 (by decide +kernel) (by decide +kernel)
theorem kco_X11_allPaid : Cond.code yX11_allPaid cX11_allPaid 3 (Option.some Jvm.ClassFile.FieldType.int) ∈ hGW := hgw 503 (by decide +kernel) (by decide +kernel)
theorem kml_X11_366 : Cond.methodLink RX11 366 yX11_allReserves ∈ hGW := hgw 504 (by decide +kernel) (by decide +kernel)
theorem kin_X11_allReserves : Cond.instanceMethod yX11_allReserves ∈ hGW := hgw 506 (by decide +kernel) (by decide +kernel)
theorem kco_X11_allReserves : Cond.code yX11_allReserves cX11_allReserves 3 (Option.some Jvm.ClassFile.FieldType.int) ∈ hGW := hgw 507 (by decide +kernel) (by decide +kernel)
theorem kml_X11_302 : Cond.methodLink RX11 302 yX1_allLeft ∈ hGW := hgw 508 (by decide +kernel) (by decide +kernel)
theorem kin_X1_allLeft : Cond.instanceMethod yX1_allLeft ∈ hGW := hgw 509 (by decide +kernel) (by decide +kernel)
theorem kse_X1_X1_allLeft_X1_allLeft : Cond.selects RX1 yX1_allLeft yX1_allLeft ∈ hGW := hgw 510 (by decide +kernel) (by decide +kernel)
theorem kco_X1_allLeft : Cond.code yX1_allLeft cX1_allLeft 3 (Option.some Jvm.ClassFile.FieldType.int) ∈ hGW := hgw 511 (by decide +kernel) (by decide +kernel)
theorem kml_X1_86 : Cond.methodLink RX1 86 yX1_leftOf ∈ hGW := hgw 512 (by decide +kernel) (by decide +kernel)
theorem kin_X1_leftOf : Cond.instanceMethod yX1_leftOf ∈ hGW := hgw 513 (by decide +kernel) (by decide +kernel)
theorem kse_X1_X1_leftOf_X1_leftOf : Cond.selects RX1 yX1_leftOf yX1_leftOf ∈ hGW := hgw 514 (by decide +kernel) (by decide +kernel)
theorem kco_X1_leftOf : Cond.code yX1_leftOf cX1_leftOf 2 (Option.some Jvm.ClassFile.FieldType.int) ∈ hGW := hgw 515 (by decide +kernel) (by decide +kernel)
theorem kml_X1_83 : Cond.methodLink RX1 83 yX1_allGiven ∈ hGW := hgw 516 (by decide +kernel) (by decide +kernel)
theorem kin_X1_allGiven : Cond.instanceMethod yX1_allGiven ∈ hGW := hgw 517 (by decide +kernel) (by decide +kernel)
theorem kse_X1_X1_allGiven_X1_allGiven : Cond.selects RX1 yX1_allGiven yX1_allGiven ∈ hGW := hgw 518 (by decide +kernel) (by decide +kernel)
theorem kco_X1_allGiven : Cond.code yX1_allGiven cX1_allGiven 4 (Option.some Jvm.ClassFile.FieldType.int) ∈ hGW := hgw 519 (by decide +kernel) (by decide +kernel)
theorem kml_X11_308 : Cond.methodLink RX11 308 yX1_allCharged ∈ hGW := hgw 520 (by decide +kernel) (by decide +kernel)
theorem kin_X1_allCharged : Cond.instanceMethod yX1_allCharged ∈ hGW := hgw 521 (by decide +kernel) (by decide +kernel)
theorem kse_X1_X1_allCharged_X1_allCharged : Cond.selects RX1 yX1_allCharged yX1_allCharged ∈ hGW := hgw 522 (by decide +kernel) (by decide +kernel)
theorem kco_X1_allCharged : Cond.code yX1_allCharged cX1_allCharged 4 (Option.some Jvm.ClassFile.FieldType.int) ∈ hGW := hgw 523 (by decide +kernel) (by decide +kernel)
theorem kml_X1_95 : Cond.methodLink RX1 95 yX1_chargedIn ∈ hGW := hgw 524 (by decide +kernel) (by decide +kernel)
theorem kin_X1_chargedIn : Cond.instanceMethod yX1_chargedIn ∈ hGW := hgw 525 (by decide +kernel) (by decide +kernel)
theorem kse_X1_X1_chargedIn_X1_chargedIn : Cond.selects RX1 yX1_chargedIn yX1_chargedIn ∈ hGW := hgw 526 (by decide +kernel) (by decide +kernel)
theorem kco_X1_chargedIn : Cond.code yX1_chargedIn cX1_chargedIn 3 (Option.some Jvm.ClassFile.FieldType.int) ∈ hGW := hgw 527 (by decide +kernel) (by decide +kernel)
theorem kml_X1_89 : Cond.methodLink RX1 89 yX1_borneIn ∈ hGW := hgw 528 (by decide +kernel) (by decide +kernel)
theorem kin_X1_borneIn : Cond.instanceMethod yX1_borneIn ∈ hGW := hgw 529 (by decide +kernel) (by decide +kernel)
theorem kse_X1_X1_borneIn_X1_borneIn : Cond.selects RX1 yX1_borneIn yX1_borneIn ∈ hGW := hgw 530 (by decide +kernel) (by decide +kernel)
theorem kco_X1_borneIn : Cond.code yX1_borneIn cX1_borneIn 3 (Option.some Jvm.ClassFile.FieldType.int) ∈ hGW := hgw 531 (by decide +kernel) (by decide +kernel)
theorem kml_X1_92 : Cond.methodLink RX1 92 yX5_chargeOf ∈ hGW := hgw 532 (by decide +kernel) (by decide +kernel)
theorem kin_X5_chargeOf : Cond.instanceMethod yX5_chargeOf ∈ hGW := hgw 533 (by decide +kernel) (by decide +kernel)
theorem kse_X5_X5_chargeOf_X5_chargeOf : Cond.selects RX5 yX5_chargeOf yX5_chargeOf ∈ hGW := hgw 534 (by decide +kernel) (by decide +kernel)
theorem kco_X5_chargeOf : Cond.code yX5_chargeOf cX5_chargeOf 10 (Option.some Jvm.ClassFile.FieldType.int) ∈ hGW := hgw 535 (by decide +kernel) (by decide +kernel)
theorem kml_X5_97 : Cond.methodLink RX5 97 Lib.MathLoose.max_long.x ∈ hGW := hgw 536 (by decide +kernel) (by decide +kernel)
theorem kst_maxL : Cond.static Lib.MathLoose.max_long.x ∈ hGW := hgw 537 (by decide +kernel) (by decide +kernel)
theorem kco_maxL : Cond.code Lib.MathLoose.max_long.x Lib.MathLoose.max_long.code 4 (Option.some Jvm.ClassFile.FieldType.long) ∈ hGW := hgw 538 (by decide +kernel) (by decide +kernel)
theorem kml_L_162 : Cond.methodLink RL 162 yX11_terms ∈ hGW := hgw 539 (by decide +kernel) (by decide +kernel)
theorem kin_X11_terms : Cond.instanceMethod yX11_terms ∈ hGW := hgw 540 (by decide +kernel) (by decide +kernel)
theorem kse_X11_X11_terms_X11_terms : Cond.selects RX11 yX11_terms yX11_terms ∈ hGW := hgw 541 (by decide +kernel) (by decide +kernel)
theorem kco_X11_terms : Cond.code yX11_terms cX11_terms 4 (Option.some Jvm.ClassFile.FieldType.int) ∈ hGW := hgw 542 (by decide +kernel) (by decide +kernel)
theorem kml_X11_144 : Cond.methodLink RX11 144 yX11_hasLayer ∈ hGW := hgw 543 (by decide +kernel) (by decide +kernel)
theorem kin_X11_hasLayer : Cond.instanceMethod yX11_hasLayer ∈ hGW := hgw 545 (by decide +kernel) (by decide +kernel)
theorem kco_X11_hasLayer : Cond.code yX11_hasLayer cX11_hasLayer 2 (Option.some Jvm.ClassFile.FieldType.boolean) ∈ hGW := hgw 546 (by decide +kernel) (by decide +kernel)
theorem kml_X11_159 : Cond.methodLink RX11 159 yX11_isYear ∈ hGW := hgw 547 (by decide +kernel) (by decide +kernel)
theorem kin_X11_isYear : Cond.instanceMethod yX11_isYear ∈ hGW := hgw 549 (by decide +kernel) (by decide +kernel)
theorem kco_X11_isYear : Cond.code yX11_isYear cX11_isYear 2 (Option.some Jvm.ClassFile.FieldType.boolean) ∈ hGW := hgw 550 (by decide +kernel) (by decide +kernel)
theorem kcl_X11_154 : Cond.classLink RX11 154 RX5 ∈ hGW := hgw 552 (by decide +kernel) (by decide +kernel)
theorem kml_X11_164 : Cond.methodLink RX11 164 yX5_tellYear ∈ hGW := hgw 553 (by decide +kernel) (by decide +kernel)
theorem kin_X5_tellYear : Cond.instanceMethod yX5_tellYear ∈ hGW := hgw 554 (by decide +kernel) (by decide +kernel)
theorem kse_X5_X5_tellYear_X5_tellYear : Cond.selects RX5 yX5_tellYear yX5_tellYear ∈ hGW := hgw 555 (by decide +kernel) (by decide +kernel)
theorem kco_X5_tellYear : Cond.code yX5_tellYear cX5_tellYear 3 (Option.some Jvm.ClassFile.FieldType.int) ∈ hGW := hgw 556 (by decide +kernel) (by decide +kernel)
theorem kcJ_X5_75 : Cond.constantLong RX5 75 (2147483647 : Int64) ∈ hGW := hgw 557 (by decide +kernel) (by decide +kernel)
theorem kml_L_149 : Cond.methodLink RL 149 yX11_claim ∈ hGW := hgw 558 (by decide +kernel) (by decide +kernel)
theorem kin_X11_claim : Cond.instanceMethod yX11_claim ∈ hGW := hgw 559 (by decide +kernel) (by decide +kernel)
theorem kse_X11_X11_claim_X11_claim : Cond.selects RX11 yX11_claim yX11_claim ∈ hGW := hgw 560 (by decide +kernel) (by decide +kernel)
theorem kco_X11_claim : Cond.code yX11_claim cX11_claim 3 (Option.some Jvm.ClassFile.FieldType.int) ∈ hGW := hgw 561 (by decide +kernel) (by decide +kernel)
theorem kml_X11_190 : Cond.methodLink RX11 190 yX11_hasClaim ∈ hGW := hgw 562 (by decide +kernel) (by decide +kernel)
theorem kin_X11_hasClaim : Cond.instanceMethod yX11_hasClaim ∈ hGW := hgw 564 (by decide +kernel) (by decide +kernel)
theorem kco_X11_hasClaim : Cond.code yX11_hasClaim cX11_hasClaim 2 (Option.some Jvm.ClassFile.FieldType.boolean) ∈ hGW := hgw 565 (by decide +kernel) (by decide +kernel)
theorem kml_X11_221 : Cond.methodLink RX11 221 yX11_claimOf ∈ hGW := hgw 567 (by decide +kernel) (by decide +kernel)
theorem kin_X11_claimOf : Cond.instanceMethod yX11_claimOf ∈ hGW := hgw 569 (by decide +kernel) (by decide +kernel)
theorem kco_X11_claimOf : Cond.code yX11_claimOf cX11_claimOf 4 (Option.some Jvm.ClassFile.FieldType.int) ∈ hGW := hgw 570 (by decide +kernel) (by decide +kernel)
theorem kml_X11_357 : Cond.methodLink RX11 357 yX1_leftOf ∈ hGW := hgw 571 (by decide +kernel) (by decide +kernel)
theorem kml_L_159 : Cond.methodLink RL 159 yX11_at ∈ hGW := hgw 572 (by decide +kernel) (by decide +kernel)
theorem kin_X11_at : Cond.instanceMethod yX11_at ∈ hGW := hgw 573 (by decide +kernel) (by decide +kernel)
theorem kse_X11_X11_at_X11_at : Cond.selects RX11 yX11_at yX11_at ∈ hGW := hgw 574 (by decide +kernel) (by decide +kernel)
theorem kco_X11_at : Cond.code yX11_at cX11_at 4 (Option.some Jvm.ClassFile.FieldType.int) ∈ hGW := hgw 575 (by decide +kernel) (by decide +kernel)
theorem kml_L_152 : Cond.methodLink RL 152 yX11_gets ∈ hGW := hgw 577 (by decide +kernel) (by decide +kernel)
theorem kin_X11_gets : Cond.instanceMethod yX11_gets ∈ hGW := hgw 578 (by decide +kernel) (by decide +kernel)
theorem kse_X11_X11_gets_X11_gets : Cond.selects RX11 yX11_gets yX11_gets ∈ hGW := hgw 579 (by decide +kernel) (by decide +kernel)
theorem kco_X11_gets : Cond.code yX11_gets cX11_gets 5 (Option.some Jvm.ClassFile.FieldType.int) ∈ hGW := hgw 580 (by decide +kernel) (by decide +kernel)
theorem kml_X11_235 : Cond.methodLink RX11 235 yX1_given ∈ hGW := hgw 582 (by decide +kernel) (by decide +kernel)
theorem kml_L_164 : Cond.methodLink RL 164 yX11_used ∈ hGW := hgw 583 (by decide +kernel) (by decide +kernel)
theorem kin_X11_used : Cond.instanceMethod yX11_used ∈ hGW := hgw 584 (by decide +kernel) (by decide +kernel)
theorem kse_X11_X11_used_X11_used : Cond.selects RX11 yX11_used yX11_used ∈ hGW := hgw 585 (by decide +kernel) (by decide +kernel)
theorem kco_X11_used : Cond.code yX11_used cX11_used 4 (Option.some Jvm.ClassFile.FieldType.int) ∈ hGW := hgw 586 (by decide +kernel) (by decide +kernel)
theorem kml_X11_238 : Cond.methodLink RX11 238 yX11_usedOf ∈ hGW := hgw 587 (by decide +kernel) (by decide +kernel)
theorem kin_X11_usedOf : Cond.instanceMethod yX11_usedOf ∈ hGW := hgw 589 (by decide +kernel) (by decide +kernel)
theorem kco_X11_usedOf : Cond.code yX11_usedOf cX11_usedOf 4 (Option.some Jvm.ClassFile.FieldType.int) ∈ hGW := hgw 590 (by decide +kernel) (by decide +kernel)
theorem kml_X11_372 : Cond.methodLink RX11 372 yX1_borneIn ∈ hGW := hgw 591 (by decide +kernel) (by decide +kernel)
theorem kml_X11_375 : Cond.methodLink RX11 375 yX5_roomIn ∈ hGW := hgw 592 (by decide +kernel) (by decide +kernel)
theorem kin_X5_roomIn : Cond.instanceMethod yX5_roomIn ∈ hGW := hgw 593 (by decide +kernel) (by decide +kernel)
theorem kse_X5_X5_roomIn_X5_roomIn : Cond.selects RX5 yX5_roomIn yX5_roomIn ∈ hGW := hgw 594 (by decide +kernel) (by decide +kernel)
theorem kco_X5_roomIn : Cond.code yX5_roomIn cX5_roomIn 5 (Option.some Jvm.ClassFile.FieldType.int) ∈ hGW := hgw 595 (by decide +kernel) (by decide +kernel)
theorem kml_X11_378 : Cond.methodLink RX11 378 yX1_chargedIn ∈ hGW := hgw 596 (by decide +kernel) (by decide +kernel)
theorem kml_X11_381 : Cond.methodLink RX11 381 yX1_borneClaims ∈ hGW := hgw 597 (by decide +kernel) (by decide +kernel)
theorem kin_X1_borneClaims : Cond.instanceMethod yX1_borneClaims ∈ hGW := hgw 598 (by decide +kernel) (by decide +kernel)
theorem kse_X1_X1_borneClaims_X1_borneClaims : Cond.selects RX1 yX1_borneClaims yX1_borneClaims ∈ hGW := hgw 599 (by decide +kernel) (by decide +kernel)
theorem kco_X1_borneClaims : Cond.code yX1_borneClaims cX1_borneClaims 5 (Option.some Jvm.ClassFile.FieldType.int) ∈ hGW := hgw 600 (by decide +kernel) (by decide +kernel)
theorem kml_L_170 : Cond.methodLink RL 170 yX11_triangle ∈ hGW := hgw 601 (by decide +kernel) (by decide +kernel)
theorem kin_X11_triangle : Cond.instanceMethod yX11_triangle ∈ hGW := hgw 602 (by decide +kernel) (by decide +kernel)
theorem kse_X11_X11_triangle_X11_triangle : Cond.selects RX11 yX11_triangle yX11_triangle ∈ hGW := hgw 603 (by decide +kernel) (by decide +kernel)
theorem kco_X11_triangle : Cond.code yX11_triangle cX11_triangle 4 (Option.some Jvm.ClassFile.FieldType.int) ∈ hGW := hgw 604 (by decide +kernel) (by decide +kernel)
theorem kml_X11_254 : Cond.methodLink RX11 254 yX11_isKind ∈ hGW := hgw 605 (by decide +kernel) (by decide +kernel)
theorem kin_X11_isKind : Cond.instanceMethod yX11_isKind ∈ hGW := hgw 607 (by decide +kernel) (by decide +kernel)
theorem kco_X11_isKind : Cond.code yX11_isKind cX11_isKind 2 (Option.some Jvm.ClassFile.FieldType.boolean) ∈ hGW := hgw 608 (by decide +kernel) (by decide +kernel)
theorem kml_X11_168 : Cond.methodLink RX11 168 yX11_isYearSoFar ∈ hGW := hgw 609 (by decide +kernel) (by decide +kernel)
theorem kin_X11_isYearSoFar : Cond.instanceMethod yX11_isYearSoFar ∈ hGW := hgw 611 (by decide +kernel) (by decide +kernel)
theorem kco_X11_isYearSoFar : Cond.code yX11_isYearSoFar cX11_isYearSoFar 2 (Option.some Jvm.ClassFile.FieldType.boolean) ∈ hGW := hgw 612 (by decide +kernel) (by decide +kernel)
theorem kml_X11_259 : Cond.methodLink RX11 259 yX11_fillTriangle ∈ hGW := hgw 614 (by decide +kernel) (by decide +kernel)
theorem kin_X11_fillTriangle : Cond.instanceMethod yX11_fillTriangle ∈ hGW := hgw 616 (by decide +kernel) (by decide +kernel)
theorem kco_X11_fillTriangle : Cond.code yX11_fillTriangle cX11_fillTriangle 6 (Option.none : Option Jvm.ClassFile.FieldType) ∈ hGW := hgw 617 (by decide +kernel) (by decide +kernel)
theorem kml_X11_350 : Cond.methodLink RX11 350 yX10_begin ∈ hGW := hgw 618 (by decide +kernel) (by decide +kernel)
theorem kin_X10_begin : Cond.instanceMethod yX10_begin ∈ hGW := hgw 619 (by decide +kernel) (by decide +kernel)
theorem kse_X10_X10_begin_X10_begin : Cond.selects RX10 yX10_begin yX10_begin ∈ hGW := hgw 620 (by decide +kernel) (by decide +kernel)
theorem kco_X10_begin : Cond.code yX10_begin cX10_begin 4 (Option.none : Option Jvm.ClassFile.FieldType) ∈ hGW := hgw 621 (by decide +kernel) (by decide +kernel)
theorem kml_X11_353 : Cond.methodLink RX11 353 yX11_tellAmountsAt ∈ hGW := hgw 622 (by decide +kernel) (by decide +kernel)
theorem kin_X11_tellAmountsAt : Cond.instanceMethod yX11_tellAmountsAt ∈ hGW := hgw 624 (by decide +kernel) (by decide +kernel)
theorem kco_X11_tellAmountsAt : Cond.code yX11_tellAmountsAt cX11_tellAmountsAt 5 (Option.none : Option Jvm.ClassFile.FieldType) ∈ hGW := hgw 625 (by decide +kernel) (by decide +kernel)
theorem kml_L_173 : Cond.methodLink RL 173 yX11_ultimate ∈ hGW := hgw 626 (by decide +kernel) (by decide +kernel)
theorem kin_X11_ultimate : Cond.instanceMethod yX11_ultimate ∈ hGW := hgw 627 (by decide +kernel) (by decide +kernel)
theorem kse_X11_X11_ultimate_X11_ultimate : Cond.selects RX11 yX11_ultimate yX11_ultimate ∈ hGW := hgw 628 (by decide +kernel) (by decide +kernel)
theorem kco_X11_ultimate : Cond.code yX11_ultimate cX11_ultimate 4 (Option.some Jvm.ClassFile.FieldType.int) ∈ hGW := hgw 629 (by decide +kernel) (by decide +kernel)
theorem kml_X11_273 : Cond.methodLink RX11 273 yX10_growthOf ∈ hGW := hgw 631 (by decide +kernel) (by decide +kernel)
theorem kin_X10_growthOf : Cond.instanceMethod yX10_growthOf ∈ hGW := hgw 632 (by decide +kernel) (by decide +kernel)
theorem kse_X10_X10_growthOf_X10_growthOf : Cond.selects RX10 yX10_growthOf yX10_growthOf ∈ hGW := hgw 633 (by decide +kernel) (by decide +kernel)
theorem kco_X10_growthOf : Cond.code yX10_growthOf cX10_growthOf 3 (Option.some Jvm.ClassFile.FieldType.int) ∈ hGW := hgw 634 (by decide +kernel) (by decide +kernel)
theorem kcJ_X10_20 : Cond.constantLong RX10 20 (1000 : Int64) ∈ hGW := hgw 635 (by decide +kernel) (by decide +kernel)
theorem kml_X10_34 : Cond.methodLink RX10 34 yX10_grown ∈ hGW := hgw 636 (by decide +kernel) (by decide +kernel)
theorem kin_X10_grown : Cond.instanceMethod yX10_grown ∈ hGW := hgw 638 (by decide +kernel) (by decide +kernel)
theorem kco_X10_grown : Cond.code yX10_grown cX10_grown 8 (Option.some Jvm.ClassFile.FieldType.int) ∈ hGW := hgw 639 (by decide +kernel) (by decide +kernel)
theorem kml_X10_38 : Cond.methodLink RX10 38 yX10_factorAt ∈ hGW := hgw 640 (by decide +kernel) (by decide +kernel)
theorem kin_X10_factorAt : Cond.instanceMethod yX10_factorAt ∈ hGW := hgw 641 (by decide +kernel) (by decide +kernel)
theorem kse_X10_X10_factorAt_X10_factorAt : Cond.selects RX10 yX10_factorAt yX10_factorAt ∈ hGW := hgw 642 (by decide +kernel) (by decide +kernel)
theorem kco_X10_factorAt : Cond.code yX10_factorAt cX10_factorAt 7 (Option.some Jvm.ClassFile.FieldType.int) ∈ hGW := hgw 643 (by decide +kernel) (by decide +kernel)
theorem kcJ_X10_22 : Cond.constantLong RX10 22 (1000000 : Int64) ∈ hGW := hgw 644 (by decide +kernel) (by decide +kernel)
theorem kml_X10_24 : Cond.methodLink RX10 24 Lib.MathLoose.min_long.x ∈ hGW := hgw 645 (by decide +kernel) (by decide +kernel)
theorem kcJ_X10_41 : Cond.constantLong RX10 41 (2000000000 : Int64) ∈ hGW := hgw 646 (by decide +kernel) (by decide +kernel)
theorem kml_X11_276 : Cond.methodLink RX11 276 yX10_ultimateOf ∈ hGW := hgw 647 (by decide +kernel) (by decide +kernel)
theorem kin_X10_ultimateOf : Cond.instanceMethod yX10_ultimateOf ∈ hGW := hgw 648 (by decide +kernel) (by decide +kernel)
theorem kse_X10_X10_ultimateOf_X10_ultimateOf : Cond.selects RX10 yX10_ultimateOf yX10_ultimateOf ∈ hGW := hgw 649 (by decide +kernel) (by decide +kernel)
theorem kco_X10_ultimateOf : Cond.code yX10_ultimateOf cX10_ultimateOf 3 (Option.some Jvm.ClassFile.FieldType.int) ∈ hGW := hgw 650 (by decide +kernel) (by decide +kernel)
theorem kml_X10_30 : Cond.methodLink RX10 30 yX10_nowOf ∈ hGW := hgw 651 (by decide +kernel) (by decide +kernel)
theorem kin_X10_nowOf : Cond.instanceMethod yX10_nowOf ∈ hGW := hgw 652 (by decide +kernel) (by decide +kernel)
theorem kse_X10_X10_nowOf_X10_nowOf : Cond.selects RX10 yX10_nowOf yX10_nowOf ∈ hGW := hgw 653 (by decide +kernel) (by decide +kernel)
theorem kco_X10_nowOf : Cond.code yX10_nowOf cX10_nowOf 2 (Option.some Jvm.ClassFile.FieldType.int) ∈ hGW := hgw 654 (by decide +kernel) (by decide +kernel)
theorem kml_L_176 : Cond.methodLink RL 176 yX11_reserve ∈ hGW := hgw 655 (by decide +kernel) (by decide +kernel)
theorem kin_X11_reserve : Cond.instanceMethod yX11_reserve ∈ hGW := hgw 656 (by decide +kernel) (by decide +kernel)
theorem kse_X11_X11_reserve_X11_reserve : Cond.selects RX11 yX11_reserve yX11_reserve ∈ hGW := hgw 657 (by decide +kernel) (by decide +kernel)
theorem kco_X11_reserve : Cond.code yX11_reserve cX11_reserve 3 (Option.some Jvm.ClassFile.FieldType.int) ∈ hGW := hgw 658 (by decide +kernel) (by decide +kernel)
theorem kml_X11_279 : Cond.methodLink RX11 279 yX11_isMethod ∈ hGW := hgw 659 (by decide +kernel) (by decide +kernel)
theorem kin_X11_isMethod : Cond.instanceMethod yX11_isMethod ∈ hGW := hgw 661 (by decide +kernel) (by decide +kernel)
theorem kco_X11_isMethod : Cond.code yX11_isMethod cX11_isMethod 2 (Option.some Jvm.ClassFile.FieldType.boolean) ∈ hGW := hgw 662 (by decide +kernel) (by decide +kernel)
theorem kml_X11_284 : Cond.methodLink RX11 284 yX11_reserveOf ∈ hGW := hgw 664 (by decide +kernel) (by decide +kernel)
theorem kin_X11_reserveOf : Cond.instanceMethod yX11_reserveOf ∈ hGW := hgw 666 (by decide +kernel) (by decide +kernel)
theorem kco_X11_reserveOf : Cond.code yX11_reserveOf cX11_reserveOf 9 (Option.some Jvm.ClassFile.FieldType.int) ∈ hGW := hgw 667 (by decide +kernel) (by decide +kernel)
theorem kml_X11_384 : Cond.methodLink RX11 384 yX10_nowOf ∈ hGW := hgw 668 (by decide +kernel) (by decide +kernel)
theorem kcJ_X11_387 : Cond.constantLong RX11 387 (100 : Int64) ∈ hGW := hgw 669 (by decide +kernel) (by decide +kernel)
theorem kcI_X11_195 : Cond.constant RX11 195 (1000000 : Int32) ∈ hGW := hgw 670 (by decide +kernel) (by decide +kernel)
theorem kcJ_X11_389 : Cond.constantLong RX11 389 (1000 : Int64) ∈ hGW := hgw 671 (by decide +kernel) (by decide +kernel)
theorem kml_X11_391 : Cond.methodLink RX11 391 Lib.MathLoose.max_long.x ∈ hGW := hgw 672 (by decide +kernel) (by decide +kernel)
theorem kml_L_182 : Cond.methodLink RL 182 yX11_would ∈ hGW := hgw 673 (by decide +kernel) (by decide +kernel)
theorem kin_X11_would : Cond.instanceMethod yX11_would ∈ hGW := hgw 674 (by decide +kernel) (by decide +kernel)
theorem kse_X11_X11_would_X11_would : Cond.selects RX11 yX11_would yX11_would ∈ hGW := hgw 675 (by decide +kernel) (by decide +kernel)
theorem kco_X11_would : Cond.code yX11_would cX11_would 4 (Option.some Jvm.ClassFile.FieldType.int) ∈ hGW := hgw 676 (by decide +kernel) (by decide +kernel)
theorem kml_X11_171 : Cond.methodLink RX11 171 yX11_isReserve ∈ hGW := hgw 678 (by decide +kernel) (by decide +kernel)
theorem kin_X11_isReserve : Cond.instanceMethod yX11_isReserve ∈ hGW := hgw 680 (by decide +kernel) (by decide +kernel)
theorem kco_X11_isReserve : Cond.code yX11_isReserve cX11_isReserve 2 (Option.some Jvm.ClassFile.FieldType.boolean) ∈ hGW := hgw 681 (by decide +kernel) (by decide +kernel)
theorem kcl_X11_102 : Cond.classLink RX11 102 "java/lang/IllegalArgumentException" ∈ hGW := hgw 682 (by decide +kernel) (by decide +kernel)
theorem kinst_Zjava_lang_IllegalArgumentException : Cond.instantiable "java/lang/IllegalArgumentException" 6 ∈ hGW := hgw 683 (by decide +kernel) (by decide +kernel)
theorem kse_Zjava_lang_IllegalArgumentException_Zjava_lang_Throwable_fillInStackTrace__I_Ljava_lang_Throwable__Zjava_lang_Throwable_fillInStackTrace__I_Ljava_lang_Throwable_ : Cond.selects "java/lang/IllegalArgumentException" ⟨"java/lang/Throwable", "fillInStackTrace", "(I)Ljava/lang/Throwable;"⟩ ⟨"java/lang/Throwable", "fillInStackTrace", "(I)Ljava/lang/Throwable;"⟩ ∈ hGW := hgw 685 (by decide +kernel) (by decide +kernel)
theorem kml_X11_106 : Cond.methodLink RX11 106 ⟨"java/lang/IllegalArgumentException", "<init>", "(Ljava/lang/String;)V"⟩ ∈ hGW := hgw 692 (by decide +kernel) (by decide +kernel)
theorem kin_Zjava_lang_IllegalArgumentException__init___Ljava_lang_String__V : Cond.instanceMethod ⟨"java/lang/IllegalArgumentException", "<init>", "(Ljava/lang/String;)V"⟩ ∈ hGW := hgw 693 (by decide +kernel) (by decide +kernel)
theorem kco_Zjava_lang_IllegalArgumentException__init___Ljava_lang_String__V : Cond.code ⟨"java/lang/IllegalArgumentException", "<init>", "(Ljava/lang/String;)V"⟩ prog_25_method_2_code 2 (Option.none : Option Jvm.ClassFile.FieldType) ∈ hGW := hgw 694 (by decide +kernel) (by decide +kernel)
theorem kml_Zjava_lang_IllegalArgumentException_7 : Cond.methodLink "java/lang/IllegalArgumentException" 7 ⟨"java/lang/RuntimeException", "<init>", "(Ljava/lang/String;)V"⟩ ∈ hGW := hgw 695 (by decide +kernel) (by decide +kernel)
theorem kml_X11_305 : Cond.methodLink RX11 305 yX1_allGiven ∈ hGW := hgw 698 (by decide +kernel) (by decide +kernel)
theorem kml_L_167 : Cond.methodLink RL 167 yX11_without ∈ hGW := hgw 699 (by decide +kernel) (by decide +kernel)
theorem kin_X11_without : Cond.instanceMethod yX11_without ∈ hGW := hgw 700 (by decide +kernel) (by decide +kernel)
theorem kse_X11_X11_without_X11_without : Cond.selects RX11 yX11_without yX11_without ∈ hGW := hgw 701 (by decide +kernel) (by decide +kernel)
theorem kco_X11_without : Cond.code yX11_without cX11_without 2 (Option.some Jvm.ClassFile.FieldType.int) ∈ hGW := hgw 702 (by decide +kernel) (by decide +kernel)
theorem kml_L_185 : Cond.methodLink RL 185 yX11_reaches ∈ hGW := hgw 704 (by decide +kernel) (by decide +kernel)
theorem kin_X11_reaches : Cond.instanceMethod yX11_reaches ∈ hGW := hgw 705 (by decide +kernel) (by decide +kernel)
theorem kse_X11_X11_reaches_X11_reaches : Cond.selects RX11 yX11_reaches yX11_reaches ∈ hGW := hgw 706 (by decide +kernel) (by decide +kernel)
theorem kco_X11_reaches : Cond.code yX11_reaches cX11_reaches 5 (Option.some Jvm.ClassFile.FieldType.int) ∈ hGW := hgw 707 (by decide +kernel) (by decide +kernel)
theorem kml_X11_315 : Cond.methodLink RX11 315 yX1_cede ∈ hGW := hgw 709 (by decide +kernel) (by decide +kernel)
theorem kml_L_179 : Cond.methodLink RL 179 yX11_keenest ∈ hGW := hgw 710 (by decide +kernel) (by decide +kernel)
theorem kin_X11_keenest : Cond.instanceMethod yX11_keenest ∈ hGW := hgw 711 (by decide +kernel) (by decide +kernel)
theorem kse_X11_X11_keenest_X11_keenest : Cond.selects RX11 yX11_keenest yX11_keenest ∈ hGW := hgw 712 (by decide +kernel) (by decide +kernel)
theorem kco_X11_keenest : Cond.code yX11_keenest cX11_keenest 5 (Option.some Jvm.ClassFile.FieldType.int) ∈ hGW := hgw 713 (by decide +kernel) (by decide +kernel)
theorem kml_L_191 : Cond.methodLink RL 191 yX11_kept ∈ hGW := hgw 714 (by decide +kernel) (by decide +kernel)
theorem kin_X11_kept : Cond.instanceMethod yX11_kept ∈ hGW := hgw 715 (by decide +kernel) (by decide +kernel)
theorem kse_X11_X11_kept_X11_kept : Cond.selects RX11 yX11_kept yX11_kept ∈ hGW := hgw 716 (by decide +kernel) (by decide +kernel)
theorem kco_X11_kept : Cond.code yX11_kept cX11_kept 3 (Option.some Jvm.ClassFile.FieldType.double) ∈ hGW := hgw 717 (by decide +kernel) (by decide +kernel)
theorem kml_L_145 : Cond.methodLink RL 145 yX11_digest ∈ hGW := hgw 718 (by decide +kernel) (by decide +kernel)
theorem kin_X11_digest : Cond.instanceMethod yX11_digest ∈ hGW := hgw 719 (by decide +kernel) (by decide +kernel)
theorem kse_X11_X11_digest_X11_digest : Cond.selects RX11 yX11_digest yX11_digest ∈ hGW := hgw 720 (by decide +kernel) (by decide +kernel)
theorem kco_X11_digest : Cond.code yX11_digest cX11_digest 4 (Option.some Jvm.ClassFile.FieldType.long) ∈ hGW := hgw 721 (by decide +kernel) (by decide +kernel)
theorem kcJ_X11_321 : Cond.constantLong RX11 321 (641 : Int64) ∈ hGW := hgw 722 (by decide +kernel) (by decide +kernel)
theorem kml_X11_323 : Cond.methodLink RX11 323 yX11_mix ∈ hGW := hgw 723 (by decide +kernel) (by decide +kernel)
theorem kin_X11_mix : Cond.instanceMethod yX11_mix ∈ hGW := hgw 725 (by decide +kernel) (by decide +kernel)
theorem kco_X11_mix : Cond.code yX11_mix cX11_mix 5 (Option.some Jvm.ClassFile.FieldType.long) ∈ hGW := hgw 726 (by decide +kernel) (by decide +kernel)
theorem kcJ_X11_393 : Cond.constantLong RX11 393 (31 : Int64) ∈ hGW := hgw 727 (by decide +kernel) (by decide +kernel)
theorem kml_X11_327 : Cond.methodLink RX11 327 yX11_mixLayers ∈ hGW := hgw 728 (by decide +kernel) (by decide +kernel)
theorem kin_X11_mixLayers : Cond.instanceMethod yX11_mixLayers ∈ hGW := hgw 730 (by decide +kernel) (by decide +kernel)
theorem kco_X11_mixLayers : Cond.code yX11_mixLayers cX11_mixLayers 8 (Option.some Jvm.ClassFile.FieldType.long) ∈ hGW := hgw 731 (by decide +kernel) (by decide +kernel)
theorem kml_X11_156 : Cond.methodLink RX11 156 yX5_tell ∈ hGW := hgw 732 (by decide +kernel) (by decide +kernel)
theorem kin_X5_tell : Cond.instanceMethod yX5_tell ∈ hGW := hgw 733 (by decide +kernel) (by decide +kernel)
theorem kse_X5_X5_tell_X5_tell : Cond.selects RX5 yX5_tell yX5_tell ∈ hGW := hgw 734 (by decide +kernel) (by decide +kernel)
theorem kco_X5_tell : Cond.code yX5_tell cX5_tell 2 (Option.some Jvm.ClassFile.FieldType.int) ∈ hGW := hgw 735 (by decide +kernel) (by decide +kernel)
theorem kml_X11_331 : Cond.methodLink RX11 331 yX11_mixClaims ∈ hGW := hgw 736 (by decide +kernel) (by decide +kernel)
theorem kin_X11_mixClaims : Cond.instanceMethod yX11_mixClaims ∈ hGW := hgw 738 (by decide +kernel) (by decide +kernel)
theorem kco_X11_mixClaims : Cond.code yX11_mixClaims cX11_mixClaims 8 (Option.some Jvm.ClassFile.FieldType.long) ∈ hGW := hgw 739 (by decide +kernel) (by decide +kernel)
theorem kml_X11_334 : Cond.methodLink RX11 334 yX11_mixYears ∈ hGW := hgw 740 (by decide +kernel) (by decide +kernel)
theorem kin_X11_mixYears : Cond.instanceMethod yX11_mixYears ∈ hGW := hgw 742 (by decide +kernel) (by decide +kernel)
theorem kco_X11_mixYears : Cond.code yX11_mixYears cX11_mixYears 7 (Option.some Jvm.ClassFile.FieldType.long) ∈ hGW := hgw 743 (by decide +kernel) (by decide +kernel)
theorem kml_X11_337 : Cond.methodLink RX11 337 yX11_mixFactors ∈ hGW := hgw 744 (by decide +kernel) (by decide +kernel)
theorem kin_X11_mixFactors : Cond.instanceMethod yX11_mixFactors ∈ hGW := hgw 746 (by decide +kernel) (by decide +kernel)
theorem kco_X11_mixFactors : Cond.code yX11_mixFactors cX11_mixFactors 7 (Option.some Jvm.ClassFile.FieldType.long) ∈ hGW := hgw 747 (by decide +kernel) (by decide +kernel)
theorem kml_X11_268 : Cond.methodLink RX11 268 yX10_factorAt ∈ hGW := hgw 748 (by decide +kernel) (by decide +kernel)
theorem kml_L_42 : Cond.methodLink RL 42 yL_below ∈ hGW := hgw 749 (by decide +kernel) (by decide +kernel)
theorem kst_L_below : Cond.static yL_below ∈ hGW := hgw 750 (by decide +kernel) (by decide +kernel)
theorem kco_L_below : Cond.code yL_below cL_below 2 (Option.some Jvm.ClassFile.FieldType.int) ∈ hGW := hgw 751 (by decide +kernel) (by decide +kernel)
theorem kcI_L_7 : Cond.constant RL 7 (2147483647 : Int32) ∈ hGW := hgw 752 (by decide +kernel) (by decide +kernel)
theorem kml_L_36 : Cond.methodLink RL 36 yL_cell ∈ hGW := hgw 753 (by decide +kernel) (by decide +kernel)
theorem kst_L_cell : Cond.static yL_cell ∈ hGW := hgw 754 (by decide +kernel) (by decide +kernel)
theorem kco_L_cell : Cond.code yL_cell cL_cell 2 (Option.some Jvm.ClassFile.FieldType.int) ∈ hGW := hgw 755 (by decide +kernel) (by decide +kernel)
theorem kcI_L_8 : Cond.constant RL 8 (790386105 : Int32) ∈ hGW := hgw 756 (by decide +kernel) (by decide +kernel)
theorem kml_L_138 : Cond.methodLink RL 138 yL_teach ∈ hGW := hgw 757 (by decide +kernel) (by decide +kernel)
theorem kst_L_teach : Cond.static yL_teach ∈ hGW := hgw 758 (by decide +kernel) (by decide +kernel)
theorem kco_L_teach : Cond.code yL_teach cL_teach 5 (Option.some Jvm.ClassFile.FieldType.int) ∈ hGW := hgw 759 (by decide +kernel) (by decide +kernel)
theorem kml_L_9 : Cond.methodLink RL 9 yJ0_length_8abf5 ∈ hGW := hgw 760 (by decide +kernel) (by decide +kernel)
theorem kin_J0_length_8abf5 : Cond.instanceMethod yJ0_length_8abf5 ∈ hGW := hgw 761 (by decide +kernel) (by decide +kernel)
theorem kse_J0_J0_length_8abf5_J0_length_8abf5 : Cond.selects RJ0 yJ0_length_8abf5 yJ0_length_8abf5 ∈ hGW := hgw 762 (by decide +kernel) (by decide +kernel)
theorem kco_J0_length_8abf5 : Cond.code yJ0_length_8abf5 cJ0_length_8abf5 1 (Option.some Jvm.ClassFile.FieldType.int) ∈ hGW := hgw 763 (by decide +kernel) (by decide +kernel)
theorem kml_J0_335 : Cond.methodLink RJ0 335 yJ0_coder_7d493 ∈ hGW := hgw 764 (by decide +kernel) (by decide +kernel)
theorem kin_J0_coder_7d493 : Cond.instanceMethod yJ0_coder_7d493 ∈ hGW := hgw 765 (by decide +kernel) (by decide +kernel)
theorem kse_J0_J0_coder_7d493_J0_coder_7d493 : Cond.selects RJ0 yJ0_coder_7d493 yJ0_coder_7d493 ∈ hGW := hgw 766 (by decide +kernel) (by decide +kernel)
theorem kco_J0_coder_7d493 : Cond.code yJ0_coder_7d493 cJ0_coder_7d493 1 (Option.some Jvm.ClassFile.FieldType.byte) ∈ hGW := hgw 767 (by decide +kernel) (by decide +kernel)
theorem kfl_J0_38 : Cond.fieldLink RJ0 38 RJ0 "COMPACT_STRINGS" "Z" ∈ hGW := hgw 768 (by decide +kernel) (by decide +kernel)
theorem kml_L_15 : Cond.methodLink RL 15 yJ0_charAt_5068e ∈ hGW := hgw 770 (by decide +kernel) (by decide +kernel)
theorem kin_J0_charAt_5068e : Cond.instanceMethod yJ0_charAt_5068e ∈ hGW := hgw 771 (by decide +kernel) (by decide +kernel)
theorem kse_J0_J0_charAt_5068e_J0_charAt_5068e : Cond.selects RJ0 yJ0_charAt_5068e yJ0_charAt_5068e ∈ hGW := hgw 772 (by decide +kernel) (by decide +kernel)
theorem kco_J0_charAt_5068e : Cond.code yJ0_charAt_5068e cJ0_charAt_5068e 2 (Option.some Jvm.ClassFile.FieldType.char) ∈ hGW := hgw 773 (by decide +kernel) (by decide +kernel)
theorem kml_J0_492 : Cond.methodLink RJ0 492 yJ0_isLatin1_aae02 ∈ hGW := hgw 774 (by decide +kernel) (by decide +kernel)
theorem kin_J0_isLatin1_aae02 : Cond.instanceMethod yJ0_isLatin1_aae02 ∈ hGW := hgw 775 (by decide +kernel) (by decide +kernel)
theorem kse_J0_J0_isLatin1_aae02_J0_isLatin1_aae02 : Cond.selects RJ0 yJ0_isLatin1_aae02 yJ0_isLatin1_aae02 ∈ hGW := hgw 776 (by decide +kernel) (by decide +kernel)
theorem kco_J0_isLatin1_aae02 : Cond.code yJ0_isLatin1_aae02 cJ0_isLatin1_aae02 1 (Option.some Jvm.ClassFile.FieldType.boolean) ∈ hGW := hgw 777 (by decide +kernel) (by decide +kernel)
theorem kml_J0_495 : Cond.methodLink RJ0 495 yJ1_charAt_3b067 ∈ hGW := hgw 778 (by decide +kernel) (by decide +kernel)
theorem kst_J1_charAt_3b067 : Cond.static yJ1_charAt_3b067 ∈ hGW := hgw 779 (by decide +kernel) (by decide +kernel)
theorem kco_J1_charAt_3b067 : Cond.code yJ1_charAt_3b067 cJ1_charAt_3b067 2 (Option.some Jvm.ClassFile.FieldType.char) ∈ hGW := hgw 780 (by decide +kernel) (by decide +kernel)
theorem kml_J1_9 : Cond.methodLink RJ1 9 yJ0_checkIndex_df160 ∈ hGW := hgw 781 (by decide +kernel) (by decide +kernel)
theorem kst_J0_checkIndex_df160 : Cond.static yJ0_checkIndex_df160 ∈ hGW := hgw 782 (by decide +kernel) (by decide +kernel)
theorem kco_J0_checkIndex_df160 : Cond.code yJ0_checkIndex_df160 cJ0_checkIndex_df160 2 (Option.none : Option Jvm.ClassFile.FieldType) ∈ hGW := hgw 783 (by decide +kernel) (by decide +kernel)
theorem kfl_J0_1053 : Cond.fieldLink RJ0 1053 RJ3 "SIOOBE_FORMATTER" "Ljava/util/function/BiFunction;" ∈ hGW := hgw 784 (by decide +kernel) (by decide +kernel)
theorem kml_J0_1059 : Cond.methodLink RJ0 1059 yJ3_checkIndex_8e157 ∈ hGW := hgw 786 (by decide +kernel) (by decide +kernel)
theorem kml_J0_498 : Cond.methodLink RJ0 498 yJ2_charAt_3b067 ∈ hGW := hgw 787 (by decide +kernel) (by decide +kernel)
theorem kst_J2_charAt_3b067 : Cond.static yJ2_charAt_3b067 ∈ hGW := hgw 788 (by decide +kernel) (by decide +kernel)
theorem kco_J2_charAt_3b067 : Cond.code yJ2_charAt_3b067 cJ2_charAt_3b067 2 (Option.some Jvm.ClassFile.FieldType.char) ∈ hGW := hgw 789 (by decide +kernel) (by decide +kernel)
theorem kml_J2_67 : Cond.methodLink RJ2 67 yJ2_checkIndex_2214a ∈ hGW := hgw 790 (by decide +kernel) (by decide +kernel)
theorem kst_J2_checkIndex_2214a : Cond.static yJ2_checkIndex_2214a ∈ hGW := hgw 791 (by decide +kernel) (by decide +kernel)
theorem kco_J2_checkIndex_2214a : Cond.code yJ2_checkIndex_2214a cJ2_checkIndex_2214a 2 (Option.none : Option Jvm.ClassFile.FieldType) ∈ hGW := hgw 792 (by decide +kernel) (by decide +kernel)
theorem kml_J2_48 : Cond.methodLink RJ2 48 yJ2_length_9d52b ∈ hGW := hgw 793 (by decide +kernel) (by decide +kernel)
theorem kst_J2_length_9d52b : Cond.static yJ2_length_9d52b ∈ hGW := hgw 794 (by decide +kernel) (by decide +kernel)
theorem kco_J2_length_9d52b : Cond.code yJ2_length_9d52b cJ2_length_9d52b 1 (Option.some Jvm.ClassFile.FieldType.int) ∈ hGW := hgw 795 (by decide +kernel) (by decide +kernel)
theorem kml_J2_414 : Cond.methodLink RJ2 414 yJ0_checkIndex_df160 ∈ hGW := hgw 796 (by decide +kernel) (by decide +kernel)
theorem kml_J2_71 : Cond.methodLink RJ2 71 yJ2_getChar_3b067 ∈ hGW := hgw 797 (by decide +kernel) (by decide +kernel)
theorem kst_J2_getChar_3b067 : Cond.static yJ2_getChar_3b067 ∈ hGW := hgw 798 (by decide +kernel) (by decide +kernel)
theorem kco_J2_getChar_3b067 : Cond.code yJ2_getChar_3b067 cJ2_getChar_3b067 2 (Option.some Jvm.ClassFile.FieldType.char) ∈ hGW := hgw 799 (by decide +kernel) (by decide +kernel)
theorem kfl_J2_44 : Cond.fieldLink RJ2 44 RJ2 "$assertionsDisabled" "Z" ∈ hGW := hgw 800 (by decide +kernel) (by decide +kernel)
theorem kfl_J2_59 : Cond.fieldLink RJ2 59 RJ2 "HI_BYTE_SHIFT" "I" ∈ hGW := hgw 802 (by decide +kernel) (by decide +kernel)
theorem kfl_J2_63 : Cond.fieldLink RJ2 63 RJ2 "LO_BYTE_SHIFT" "I" ∈ hGW := hgw 804 (by decide +kernel) (by decide +kernel)
theorem kml_L_19 : Cond.methodLink RL 19 yX11_feed ∈ hGW := hgw 806 (by decide +kernel) (by decide +kernel)
theorem kin_X11_feed : Cond.instanceMethod yX11_feed ∈ hGW := hgw 807 (by decide +kernel) (by decide +kernel)
theorem kse_X11_X11_feed_X11_feed : Cond.selects RX11 yX11_feed yX11_feed ∈ hGW := hgw 808 (by decide +kernel) (by decide +kernel)
theorem kco_X11_feed : Cond.code yX11_feed cX11_feed 6 (Option.some Jvm.ClassFile.FieldType.int) ∈ hGW := hgw 809 (by decide +kernel) (by decide +kernel)
theorem kcl_X11_91 : Cond.classLink RX11 91 "java/lang/IllegalStateException" ∈ hGW := hgw 810 (by decide +kernel) (by decide +kernel)
theorem kinst_Zjava_lang_IllegalStateException : Cond.instantiable "java/lang/IllegalStateException" 6 ∈ hGW := hgw 811 (by decide +kernel) (by decide +kernel)
theorem kse_Zjava_lang_IllegalStateException_Zjava_lang_Throwable_fillInStackTrace__I_Ljava_lang_Throwable__Zjava_lang_Throwable_fillInStackTrace__I_Ljava_lang_Throwable_ : Cond.selects "java/lang/IllegalStateException" ⟨"java/lang/Throwable", "fillInStackTrace", "(I)Ljava/lang/Throwable;"⟩ ⟨"java/lang/Throwable", "fillInStackTrace", "(I)Ljava/lang/Throwable;"⟩ ∈ hGW := hgw 813 (by decide +kernel) (by decide +kernel)
theorem kml_X11_95 : Cond.methodLink RX11 95 ⟨"java/lang/IllegalStateException", "<init>", "(Ljava/lang/String;)V"⟩ ∈ hGW := hgw 820 (by decide +kernel) (by decide +kernel)
theorem kin_Zjava_lang_IllegalStateException__init___Ljava_lang_String__V : Cond.instanceMethod ⟨"java/lang/IllegalStateException", "<init>", "(Ljava/lang/String;)V"⟩ ∈ hGW := hgw 821 (by decide +kernel) (by decide +kernel)
theorem kco_Zjava_lang_IllegalStateException__init___Ljava_lang_String__V : Cond.code ⟨"java/lang/IllegalStateException", "<init>", "(Ljava/lang/String;)V"⟩ prog_26_method_2_code 2 (Option.none : Option Jvm.ClassFile.FieldType) ∈ hGW := hgw 822 (by decide +kernel) (by decide +kernel)
theorem kml_Zjava_lang_IllegalStateException_7 : Cond.methodLink "java/lang/IllegalStateException" 7 ⟨"java/lang/RuntimeException", "<init>", "(Ljava/lang/String;)V"⟩ ∈ hGW := hgw 823 (by decide +kernel) (by decide +kernel)
theorem kml_X11_98 : Cond.methodLink RX11 98 yX8_append ∈ hGW := hgw 826 (by decide +kernel) (by decide +kernel)
theorem kin_X8_append : Cond.instanceMethod yX8_append ∈ hGW := hgw 827 (by decide +kernel) (by decide +kernel)
theorem kse_X8_X8_append_X8_append : Cond.selects RX8 yX8_append yX8_append ∈ hGW := hgw 828 (by decide +kernel) (by decide +kernel)
theorem kco_X8_append : Cond.code yX8_append cX8_append 3 (Option.none : Option Jvm.ClassFile.FieldType) ∈ hGW := hgw 829 (by decide +kernel) (by decide +kernel)
theorem kml_L_25 : Cond.methodLink RL 25 yX11_trim ∈ hGW := hgw 830 (by decide +kernel) (by decide +kernel)
theorem kin_X11_trim : Cond.instanceMethod yX11_trim ∈ hGW := hgw 831 (by decide +kernel) (by decide +kernel)
theorem kse_X11_X11_trim_X11_trim : Cond.selects RX11 yX11_trim yX11_trim ∈ hGW := hgw 832 (by decide +kernel) (by decide +kernel)
theorem kco_X11_trim : Cond.code yX11_trim cX11_trim 2 (Option.some Jvm.ClassFile.FieldType.int) ∈ hGW := hgw 833 (by decide +kernel) (by decide +kernel)
theorem kml_L_29 : Cond.methodLink RL 29 yX11_teach ∈ hGW := hgw 835 (by decide +kernel) (by decide +kernel)
theorem kin_X11_teach : Cond.instanceMethod yX11_teach ∈ hGW := hgw 836 (by decide +kernel) (by decide +kernel)
theorem kse_X11_X11_teach_X11_teach : Cond.selects RX11 yX11_teach yX11_teach ∈ hGW := hgw 837 (by decide +kernel) (by decide +kernel)
theorem kco_X11_teach : Cond.code yX11_teach cX11_teach 4 (Option.some Jvm.ClassFile.FieldType.int) ∈ hGW := hgw 838 (by decide +kernel) (by decide +kernel)
theorem kml_X11_107 : Cond.methodLink RX11 107 yX9_read ∈ hGW := hgw 839 (by decide +kernel) (by decide +kernel)
theorem kin_X9_read : Cond.instanceMethod yX9_read ∈ hGW := hgw 840 (by decide +kernel) (by decide +kernel)
theorem kse_X9_X9_read_X9_read : Cond.selects RX9 yX9_read yX9_read ∈ hGW := hgw 841 (by decide +kernel) (by decide +kernel)
theorem kco_X9_read : Cond.code yX9_read cX9_read 7 (Option.none : Option Jvm.ClassFile.FieldType) ∈ hGW := hgw 842 (by decide +kernel) (by decide +kernel)
theorem kml_X9_32 : Cond.methodLink RX9 32 yX8_behindBlanks ∈ hGW := hgw 843 (by decide +kernel) (by decide +kernel)
theorem kin_X8_behindBlanks : Cond.instanceMethod yX8_behindBlanks ∈ hGW := hgw 844 (by decide +kernel) (by decide +kernel)
theorem kse_X8_X8_behindBlanks_X8_behindBlanks : Cond.selects RX8 yX8_behindBlanks yX8_behindBlanks ∈ hGW := hgw 845 (by decide +kernel) (by decide +kernel)
theorem kco_X8_behindBlanks : Cond.code yX8_behindBlanks cX8_behindBlanks 3 (Option.some Jvm.ClassFile.FieldType.int) ∈ hGW := hgw 846 (by decide +kernel) (by decide +kernel)
theorem kml_X8_19 : Cond.methodLink RX8 19 yX8_byteAt ∈ hGW := hgw 847 (by decide +kernel) (by decide +kernel)
theorem kin_X8_byteAt : Cond.instanceMethod yX8_byteAt ∈ hGW := hgw 848 (by decide +kernel) (by decide +kernel)
theorem kse_X8_X8_byteAt_X8_byteAt : Cond.selects RX8 yX8_byteAt yX8_byteAt ∈ hGW := hgw 849 (by decide +kernel) (by decide +kernel)
theorem kco_X8_byteAt : Cond.code yX8_byteAt cX8_byteAt 3 (Option.some Jvm.ClassFile.FieldType.int) ∈ hGW := hgw 850 (by decide +kernel) (by decide +kernel)
theorem kml_X9_38 : Cond.methodLink RX9 38 yX9_endOf ∈ hGW := hgw 851 (by decide +kernel) (by decide +kernel)
theorem kin_X9_endOf : Cond.instanceMethod yX9_endOf ∈ hGW := hgw 853 (by decide +kernel) (by decide +kernel)
theorem kco_X9_endOf : Cond.code yX9_endOf cX9_endOf 3 (Option.some Jvm.ClassFile.FieldType.int) ∈ hGW := hgw 854 (by decide +kernel) (by decide +kernel)
theorem kml_X9_67 : Cond.methodLink RX9 67 yX8_isLetter ∈ hGW := hgw 855 (by decide +kernel) (by decide +kernel)
theorem kin_X8_isLetter : Cond.instanceMethod yX8_isLetter ∈ hGW := hgw 856 (by decide +kernel) (by decide +kernel)
theorem kse_X8_X8_isLetter_X8_isLetter : Cond.selects RX8 yX8_isLetter yX8_isLetter ∈ hGW := hgw 857 (by decide +kernel) (by decide +kernel)
theorem kco_X8_isLetter : Cond.code yX8_isLetter cX8_isLetter 3 (Option.some Jvm.ClassFile.FieldType.boolean) ∈ hGW := hgw 858 (by decide +kernel) (by decide +kernel)
theorem kml_X9_71 : Cond.methodLink RX9 71 yX8_behindWord ∈ hGW := hgw 859 (by decide +kernel) (by decide +kernel)
theorem kin_X8_behindWord : Cond.instanceMethod yX8_behindWord ∈ hGW := hgw 860 (by decide +kernel) (by decide +kernel)
theorem kse_X8_X8_behindWord_X8_behindWord : Cond.selects RX8 yX8_behindWord yX8_behindWord ∈ hGW := hgw 861 (by decide +kernel) (by decide +kernel)
theorem kco_X8_behindWord : Cond.code yX8_behindWord cX8_behindWord 3 (Option.some Jvm.ClassFile.FieldType.int) ∈ hGW := hgw 862 (by decide +kernel) (by decide +kernel)
theorem kml_X8_27 : Cond.methodLink RX8 27 yX8_isLetter ∈ hGW := hgw 863 (by decide +kernel) (by decide +kernel)
theorem kml_X8_23 : Cond.methodLink RX8 23 yX8_isDigit ∈ hGW := hgw 864 (by decide +kernel) (by decide +kernel)
theorem kin_X8_isDigit : Cond.instanceMethod yX8_isDigit ∈ hGW := hgw 865 (by decide +kernel) (by decide +kernel)
theorem kse_X8_X8_isDigit_X8_isDigit : Cond.selects RX8 yX8_isDigit yX8_isDigit ∈ hGW := hgw 866 (by decide +kernel) (by decide +kernel)
theorem kco_X8_isDigit : Cond.code yX8_isDigit cX8_isDigit 3 (Option.some Jvm.ClassFile.FieldType.boolean) ∈ hGW := hgw 867 (by decide +kernel) (by decide +kernel)
theorem kml_X9_74 : Cond.methodLink RX9 74 yX8_isDigit ∈ hGW := hgw 868 (by decide +kernel) (by decide +kernel)
theorem kml_X9_77 : Cond.methodLink RX9 77 yX8_behindDigits ∈ hGW := hgw 869 (by decide +kernel) (by decide +kernel)
theorem kin_X8_behindDigits : Cond.instanceMethod yX8_behindDigits ∈ hGW := hgw 870 (by decide +kernel) (by decide +kernel)
theorem kse_X8_X8_behindDigits_X8_behindDigits : Cond.selects RX8 yX8_behindDigits yX8_behindDigits ∈ hGW := hgw 871 (by decide +kernel) (by decide +kernel)
theorem kco_X8_behindDigits : Cond.code yX8_behindDigits cX8_behindDigits 3 (Option.some Jvm.ClassFile.FieldType.int) ∈ hGW := hgw 872 (by decide +kernel) (by decide +kernel)
theorem kml_X9_80 : Cond.methodLink RX9 80 yX9_keyword ∈ hGW := hgw 873 (by decide +kernel) (by decide +kernel)
theorem kin_X9_keyword : Cond.instanceMethod yX9_keyword ∈ hGW := hgw 875 (by decide +kernel) (by decide +kernel)
theorem kco_X9_keyword : Cond.code yX9_keyword cX9_keyword 5 (Option.some (Jvm.ClassFile.FieldType.object "LossHouse$Sign")) ∈ hGW := hgw 876 (by decide +kernel) (by decide +kernel)
theorem kfl_X9_86 : Cond.fieldLink RX9 86 RX9 "SIGNS" "[LLossHouse$Sign;" ∈ hGW := hgw 877 (by decide +kernel) (by decide +kernel)
theorem kml_X9_93 : Cond.methodLink RX9 93 yX8_spells ∈ hGW := hgw 879 (by decide +kernel) (by decide +kernel)
theorem kin_X8_spells : Cond.instanceMethod yX8_spells ∈ hGW := hgw 880 (by decide +kernel) (by decide +kernel)
theorem kse_X8_X8_spells_X8_spells : Cond.selects RX8 yX8_spells yX8_spells ∈ hGW := hgw 881 (by decide +kernel) (by decide +kernel)
theorem kco_X8_spells : Cond.code yX8_spells cX8_spells 5 (Option.some Jvm.ClassFile.FieldType.boolean) ∈ hGW := hgw 882 (by decide +kernel) (by decide +kernel)
theorem kml_X8_30 : Cond.methodLink RX8 30 yJ0_length_8abf5 ∈ hGW := hgw 883 (by decide +kernel) (by decide +kernel)
theorem kml_X8_35 : Cond.methodLink RX8 35 yJ0_charAt_5068e ∈ hGW := hgw 884 (by decide +kernel) (by decide +kernel)
theorem kfl_X9_50 : Cond.fieldLink RX9 50 RX7 "WRONG" "LLossHouse$Sign;" ∈ hGW := hgw 885 (by decide +kernel) (by decide +kernel)
theorem kml_X9_42 : Cond.methodLink RX9 42 yX9_signOf ∈ hGW := hgw 886 (by decide +kernel) (by decide +kernel)
theorem kin_X9_signOf : Cond.instanceMethod yX9_signOf ∈ hGW := hgw 888 (by decide +kernel) (by decide +kernel)
theorem kco_X9_signOf : Cond.code yX9_signOf cX9_signOf 6 (Option.some (Jvm.ClassFile.FieldType.object "LossHouse$Sign")) ∈ hGW := hgw 889 (by decide +kernel) (by decide +kernel)
theorem kfl_X9_46 : Cond.fieldLink RX9 46 RX7 "END" "LLossHouse$Sign;" ∈ hGW := hgw 890 (by decide +kernel) (by decide +kernel)
theorem kfl_X9_53 : Cond.fieldLink RX9 53 RX7 "NUMBER" "LLossHouse$Sign;" ∈ hGW := hgw 892 (by decide +kernel) (by decide +kernel)
theorem kfl_X9_60 : Cond.fieldLink RX9 60 RX7 "NAME" "LLossHouse$Sign;" ∈ hGW := hgw 894 (by decide +kernel) (by decide +kernel)
theorem kml_X9_56 : Cond.methodLink RX9 56 yX8_numberAt ∈ hGW := hgw 896 (by decide +kernel) (by decide +kernel)
theorem kin_X8_numberAt : Cond.instanceMethod yX8_numberAt ∈ hGW := hgw 897 (by decide +kernel) (by decide +kernel)
theorem kse_X8_X8_numberAt_X8_numberAt : Cond.selects RX8 yX8_numberAt yX8_numberAt ∈ hGW := hgw 898 (by decide +kernel) (by decide +kernel)
theorem kco_X8_numberAt : Cond.code yX8_numberAt cX8_numberAt 5 (Option.some Jvm.ClassFile.FieldType.int) ∈ hGW := hgw 899 (by decide +kernel) (by decide +kernel)
theorem kml_X9_63 : Cond.methodLink RX9 63 yX8_wordAt ∈ hGW := hgw 900 (by decide +kernel) (by decide +kernel)
theorem kin_X8_wordAt : Cond.instanceMethod yX8_wordAt ∈ hGW := hgw 901 (by decide +kernel) (by decide +kernel)
theorem kse_X8_X8_wordAt_X8_wordAt : Cond.selects RX8 yX8_wordAt yX8_wordAt ∈ hGW := hgw 902 (by decide +kernel) (by decide +kernel)
theorem kco_X8_wordAt : Cond.code yX8_wordAt cX8_wordAt 7 (Option.some Jvm.ClassFile.FieldType.long) ∈ hGW := hgw 903 (by decide +kernel) (by decide +kernel)
theorem kcJ_X8_39 : Cond.constantLong RX8 39 (37 : Int64) ∈ hGW := hgw 904 (by decide +kernel) (by decide +kernel)
theorem kml_X11_111 : Cond.methodLink RX11 111 yX6_parse ∈ hGW := hgw 905 (by decide +kernel) (by decide +kernel)
theorem kin_X6_parse : Cond.instanceMethod yX6_parse ∈ hGW := hgw 906 (by decide +kernel) (by decide +kernel)
theorem kse_X6_X6_parse_X6_parse : Cond.selects RX6 yX6_parse yX6_parse ∈ hGW := hgw 907 (by decide +kernel) (by decide +kernel)
theorem kco_X6_parse : Cond.code yX6_parse cX6_parse 3 (Option.some (Jvm.ClassFile.FieldType.object "java/util/List")) ∈ hGW := hgw 908 (by decide +kernel) (by decide +kernel)
theorem kml_X6_39 : Cond.methodLink RX6 39 yX9_signAt ∈ hGW := hgw 909 (by decide +kernel) (by decide +kernel)
theorem kin_X9_signAt : Cond.instanceMethod yX9_signAt ∈ hGW := hgw 910 (by decide +kernel) (by decide +kernel)
theorem kse_X9_X9_signAt_X9_signAt : Cond.selects RX9 yX9_signAt yX9_signAt ∈ hGW := hgw 911 (by decide +kernel) (by decide +kernel)
theorem kco_X9_signAt : Cond.code yX9_signAt cX9_signAt 2 (Option.some (Jvm.ClassFile.FieldType.object "LossHouse$Sign")) ∈ hGW := hgw 912 (by decide +kernel) (by decide +kernel)
theorem kcl_X6_45 : Cond.classLink RX6 45 RJx4a65c ∈ hGW := hgw 913 (by decide +kernel) (by decide +kernel)
theorem kml_X6_47 : Cond.methodLink RX6 47 yJx4a65c_init_da8c8 ∈ hGW := hgw 914 (by decide +kernel) (by decide +kernel)
theorem kfl_X6_48 : Cond.fieldLink RX6 48 RX7 "LAYER" "LLossHouse$Sign;" ∈ hGW := hgw 915 (by decide +kernel) (by decide +kernel)
theorem kml_X6_51 : Cond.methodLink RX6 51 yX6_takes ∈ hGW := hgw 917 (by decide +kernel) (by decide +kernel)
theorem kin_X6_takes : Cond.instanceMethod yX6_takes ∈ hGW := hgw 919 (by decide +kernel) (by decide +kernel)
theorem kco_X6_takes : Cond.code yX6_takes cX6_takes 2 (Option.some Jvm.ClassFile.FieldType.boolean) ∈ hGW := hgw 920 (by decide +kernel) (by decide +kernel)
theorem kml_X6_55 : Cond.methodLink RX6 55 yX6_readLayer ∈ hGW := hgw 921 (by decide +kernel) (by decide +kernel)
theorem kin_X6_readLayer : Cond.instanceMethod yX6_readLayer ∈ hGW := hgw 923 (by decide +kernel) (by decide +kernel)
theorem kco_X6_readLayer : Cond.code yX6_readLayer cX6_readLayer 3 (Option.some (Jvm.ClassFile.FieldType.object "LossHouse$Layer")) ∈ hGW := hgw 924 (by decide +kernel) (by decide +kernel)
theorem kfl_X6_66 : Cond.fieldLink RX6 66 RX7 "NAME" "LLossHouse$Sign;" ∈ hGW := hgw 925 (by decide +kernel) (by decide +kernel)
theorem kml_X6_69 : Cond.methodLink RX6 69 yX6_need ∈ hGW := hgw 926 (by decide +kernel) (by decide +kernel)
theorem kin_X6_need : Cond.instanceMethod yX6_need ∈ hGW := hgw 928 (by decide +kernel) (by decide +kernel)
theorem kco_X6_need : Cond.code yX6_need cX6_need 2 (Option.none : Option Jvm.ClassFile.FieldType) ∈ hGW := hgw 929 (by decide +kernel) (by decide +kernel)
theorem kml_X6_73 : Cond.methodLink RX6 73 yX6_readSum ∈ hGW := hgw 930 (by decide +kernel) (by decide +kernel)
theorem kin_X6_readSum : Cond.instanceMethod yX6_readSum ∈ hGW := hgw 932 (by decide +kernel) (by decide +kernel)
theorem kco_X6_readSum : Cond.code yX6_readSum cX6_readSum 1 (Option.some (Jvm.ClassFile.FieldType.object "LossHouse$Formula")) ∈ hGW := hgw 933 (by decide +kernel) (by decide +kernel)
theorem kml_X6_135 : Cond.methodLink RX6 135 yX6_sum ∈ hGW := hgw 934 (by decide +kernel) (by decide +kernel)
theorem kin_X6_sum : Cond.instanceMethod yX6_sum ∈ hGW := hgw 936 (by decide +kernel) (by decide +kernel)
theorem kco_X6_sum : Cond.code yX6_sum cX6_sum 4 (Option.none : Option Jvm.ClassFile.FieldType) ∈ hGW := hgw 937 (by decide +kernel) (by decide +kernel)
theorem kml_X6_180 : Cond.methodLink RX6 180 yX6_product ∈ hGW := hgw 938 (by decide +kernel) (by decide +kernel)
theorem kin_X6_product : Cond.instanceMethod yX6_product ∈ hGW := hgw 940 (by decide +kernel) (by decide +kernel)
theorem kco_X6_product : Cond.code yX6_product cX6_product 4 (Option.none : Option Jvm.ClassFile.FieldType) ∈ hGW := hgw 941 (by decide +kernel) (by decide +kernel)
theorem kml_X6_189 : Cond.methodLink RX6 189 yX6_value ∈ hGW := hgw 942 (by decide +kernel) (by decide +kernel)
theorem kin_X6_value : Cond.instanceMethod yX6_value ∈ hGW := hgw 944 (by decide +kernel) (by decide +kernel)
theorem kco_X6_value : Cond.code yX6_value cX6_value 3 (Option.none : Option Jvm.ClassFile.FieldType) ∈ hGW := hgw 945 (by decide +kernel) (by decide +kernel)
theorem kfl_X6_88 : Cond.fieldLink RX6 88 RX7 "NUMBER" "LLossHouse$Sign;" ∈ hGW := hgw 946 (by decide +kernel) (by decide +kernel)
theorem kfl_X6_198 : Cond.fieldLink RX6 198 RX7 "LINE" "LLossHouse$Sign;" ∈ hGW := hgw 947 (by decide +kernel) (by decide +kernel)
theorem kfl_X6_201 : Cond.fieldLink RX6 201 RX7 "YEAR" "LLossHouse$Sign;" ∈ hGW := hgw 949 (by decide +kernel) (by decide +kernel)
theorem kfl_X6_204 : Cond.fieldLink RX6 204 RX7 "AMOUNT" "LLossHouse$Sign;" ∈ hGW := hgw 951 (by decide +kernel) (by decide +kernel)
theorem kml_X6_207 : Cond.methodLink RX6 207 yX9_numberAt ∈ hGW := hgw 953 (by decide +kernel) (by decide +kernel)
theorem kin_X9_numberAt : Cond.instanceMethod yX9_numberAt ∈ hGW := hgw 954 (by decide +kernel) (by decide +kernel)
theorem kse_X9_X9_numberAt_X9_numberAt : Cond.selects RX9 yX9_numberAt yX9_numberAt ∈ hGW := hgw 955 (by decide +kernel) (by decide +kernel)
theorem kco_X9_numberAt : Cond.code yX9_numberAt cX9_numberAt 2 (Option.some Jvm.ClassFile.FieldType.int) ∈ hGW := hgw 956 (by decide +kernel) (by decide +kernel)
theorem kml_X6_153 : Cond.methodLink RX6 153 yX6_step ∈ hGW := hgw 957 (by decide +kernel) (by decide +kernel)
theorem kin_X6_step : Cond.instanceMethod yX6_step ∈ hGW := hgw 959 (by decide +kernel) (by decide +kernel)
theorem kco_X6_step : Cond.code yX6_step cX6_step 3 (Option.none : Option Jvm.ClassFile.FieldType) ∈ hGW := hgw 960 (by decide +kernel) (by decide +kernel)
theorem kfl_X6_186 : Cond.fieldLink RX6 186 RX7 "MINUS" "LLossHouse$Sign;" ∈ hGW := hgw 961 (by decide +kernel) (by decide +kernel)
theorem kml_X6_166 : Cond.methodLink RX6 166 yX6_takesDeeper ∈ hGW := hgw 963 (by decide +kernel) (by decide +kernel)
theorem kin_X6_takesDeeper : Cond.instanceMethod yX6_takesDeeper ∈ hGW := hgw 965 (by decide +kernel) (by decide +kernel)
theorem kco_X6_takesDeeper : Cond.code yX6_takesDeeper cX6_takesDeeper 3 (Option.some Jvm.ClassFile.FieldType.boolean) ∈ hGW := hgw 966 (by decide +kernel) (by decide +kernel)
theorem kfl_X6_211 : Cond.fieldLink RX6 211 RX7 "TURNED" "LLossHouse$Sign;" ∈ hGW := hgw 967 (by decide +kernel) (by decide +kernel)
theorem kfl_X6_214 : Cond.fieldLink RX6 214 RX7 "ROUND" "LLossHouse$Sign;" ∈ hGW := hgw 969 (by decide +kernel) (by decide +kernel)
theorem kfl_X6_217 : Cond.fieldLink RX6 217 RX7 "ROUND_END" "LLossHouse$Sign;" ∈ hGW := hgw 971 (by decide +kernel) (by decide +kernel)
theorem kfl_X6_220 : Cond.fieldLink RX6 220 RX7 "MIN" "LLossHouse$Sign;" ∈ hGW := hgw 973 (by decide +kernel) (by decide +kernel)
theorem kfl_X6_223 : Cond.fieldLink RX6 223 RX7 "MAX" "LLossHouse$Sign;" ∈ hGW := hgw 975 (by decide +kernel) (by decide +kernel)
theorem kml_X6_226 : Cond.methodLink RX6 226 yX6_pair ∈ hGW := hgw 977 (by decide +kernel) (by decide +kernel)
theorem kin_X6_pair : Cond.instanceMethod yX6_pair ∈ hGW := hgw 979 (by decide +kernel) (by decide +kernel)
theorem kco_X6_pair : Cond.code yX6_pair cX6_pair 2 (Option.none : Option Jvm.ClassFile.FieldType) ∈ hGW := hgw 980 (by decide +kernel) (by decide +kernel)
theorem kfl_X6_120 : Cond.fieldLink RX6 120 RX7 "COMMA" "LLossHouse$Sign;" ∈ hGW := hgw 981 (by decide +kernel) (by decide +kernel)
theorem kfl_X6_192 : Cond.fieldLink RX6 192 RX7 "TIMES" "LLossHouse$Sign;" ∈ hGW := hgw 983 (by decide +kernel) (by decide +kernel)
theorem kfl_X6_195 : Cond.fieldLink RX6 195 RX7 "OVER" "LLossHouse$Sign;" ∈ hGW := hgw 985 (by decide +kernel) (by decide +kernel)
theorem kfl_X6_183 : Cond.fieldLink RX6 183 RX7 "PLUS" "LLossHouse$Sign;" ∈ hGW := hgw 987 (by decide +kernel) (by decide +kernel)
theorem kcl_X6_139 : Cond.classLink RX6 139 RX4 ∈ hGW := hgw 989 (by decide +kernel) (by decide +kernel)
theorem kml_X6_141 : Cond.methodLink RX6 141 yX4_init ∈ hGW := hgw 990 (by decide +kernel) (by decide +kernel)
theorem kin_X4_init : Cond.instanceMethod yX4_init ∈ hGW := hgw 991 (by decide +kernel) (by decide +kernel)
theorem kco_X4_init : Cond.code yX4_init cX4_init 6 (Option.none : Option Jvm.ClassFile.FieldType) ∈ hGW := hgw 992 (by decide +kernel) (by decide +kernel)
theorem kml_X4_1 : Cond.methodLink RX4 1 ⟨"java/lang/Object", "<init>", "()V"⟩ ∈ hGW := hgw 993 (by decide +kernel) (by decide +kernel)
theorem kml_X4_7 : Cond.methodLink RX4 7 Lib.Math.min.name ∈ hGW := hgw 994 (by decide +kernel) (by decide +kernel)
theorem kml_X4_13 : Cond.methodLink RX4 13 Lib.Math.max.name ∈ hGW := hgw 995 (by decide +kernel) (by decide +kernel)
theorem kcl_X4_16 : Cond.classLink RX4 16 RX7 ∈ hGW := hgw 996 (by decide +kernel) (by decide +kernel)
theorem kfl_X4_18 : Cond.fieldLink RX4 18 RX4 "steps" "[LLossHouse$Sign;" ∈ hGW := hgw 997 (by decide +kernel) (by decide +kernel)
theorem kfl_X4_24 : Cond.fieldLink RX4 24 RX4 "numbers" "[I" ∈ hGW := hgw 998 (by decide +kernel) (by decide +kernel)
theorem kfl_X4_28 : Cond.fieldLink RX4 28 RX4 "stack" "[I" ∈ hGW := hgw 999 (by decide +kernel) (by decide +kernel)
theorem kfl_X6_77 : Cond.fieldLink RX6 77 RX7 "XS" "LLossHouse$Sign;" ∈ hGW := hgw 1007 (by decide +kernel) (by decide +kernel)
theorem kcl_X6_80 : Cond.classLink RX6 80 RX5 ∈ hGW := hgw 1009 (by decide +kernel) (by decide +kernel)
theorem kinst_X5 : Cond.instantiable RX5 14 ∈ hGW := hgw 1010 (by decide +kernel) (by decide +kernel)
theorem kml_X6_82 : Cond.methodLink RX6 82 yX5_init ∈ hGW := hgw 1011 (by decide +kernel) (by decide +kernel)
theorem kin_X5_init : Cond.instanceMethod yX5_init ∈ hGW := hgw 1012 (by decide +kernel) (by decide +kernel)
theorem kco_X5_init : Cond.code yX5_init cX5_init 3 (Option.none : Option Jvm.ClassFile.FieldType) ∈ hGW := hgw 1013 (by decide +kernel) (by decide +kernel)
theorem kml_X5_3 : Cond.methodLink RX5 3 ⟨"java/lang/Object", "<init>", "()V"⟩ ∈ hGW := hgw 1014 (by decide +kernel) (by decide +kernel)
theorem kfl_X5_51 : Cond.fieldLink RX5 51 RX5 "limit" "LLossHouse$Formula;" ∈ hGW := hgw 1015 (by decide +kernel) (by decide +kernel)
theorem kfl_X5_54 : Cond.fieldLink RX5 54 RX5 "retention" "LLossHouse$Formula;" ∈ hGW := hgw 1016 (by decide +kernel) (by decide +kernel)
theorem kfl_X5_9 : Cond.fieldLink RX5 9 RX5 "yearly" "LLossHouse$Formula;" ∈ hGW := hgw 1017 (by decide +kernel) (by decide +kernel)
theorem kfl_X5_15 : Cond.fieldLink RX5 15 RX5 "after" "LLossHouse$Formula;" ∈ hGW := hgw 1019 (by decide +kernel) (by decide +kernel)
theorem kfl_X5_18 : Cond.fieldLink RX5 18 RX5 "when" "LLossHouse$Formula;" ∈ hGW := hgw 1021 (by decide +kernel) (by decide +kernel)
theorem kfl_X5_21 : Cond.fieldLink RX5 21 RX5 "share" "I" ∈ hGW := hgw 1023 (by decide +kernel) (by decide +kernel)
theorem kfl_X5_25 : Cond.fieldLink RX5 25 RX5 "reinstate" "I" ∈ hGW := hgw 1024 (by decide +kernel) (by decide +kernel)
theorem kfl_X5_28 : Cond.fieldLink RX5 28 RX5 "ats" "[I" ∈ hGW := hgw 1025 (by decide +kernel) (by decide +kernel)
theorem kfl_X5_32 : Cond.fieldLink RX5 32 RX5 "atCount" "I" ∈ hGW := hgw 1026 (by decide +kernel) (by decide +kernel)
theorem kfl_X5_35 : Cond.fieldLink RX5 35 RX5 "net" "I" ∈ hGW := hgw 1027 (by decide +kernel) (by decide +kernel)
theorem kfl_X5_38 : Cond.fieldLink RX5 38 RX5 "yearLimits" "[I" ∈ hGW := hgw 1029 (by decide +kernel) (by decide +kernel)
theorem kfl_X5_41 : Cond.fieldLink RX5 41 RX5 "yearRetentions" "[I" ∈ hGW := hgw 1030 (by decide +kernel) (by decide +kernel)
theorem kfl_X5_44 : Cond.fieldLink RX5 44 RX5 "yearAfters" "[I" ∈ hGW := hgw 1031 (by decide +kernel) (by decide +kernel)
theorem kfl_X5_47 : Cond.fieldLink RX5 47 RX5 "yearBounds" "[J" ∈ hGW := hgw 1032 (by decide +kernel) (by decide +kernel)
theorem kfl_X6_85 : Cond.fieldLink RX6 85 RX7 "SHARE" "LLossHouse$Sign;" ∈ hGW := hgw 1062 (by decide +kernel) (by decide +kernel)
theorem kfl_X6_91 : Cond.fieldLink RX6 91 RX7 "YEARLY" "LLossHouse$Sign;" ∈ hGW := hgw 1064 (by decide +kernel) (by decide +kernel)
theorem kfl_X6_98 : Cond.fieldLink RX6 98 RX7 "AFTER" "LLossHouse$Sign;" ∈ hGW := hgw 1066 (by decide +kernel) (by decide +kernel)
theorem kfl_X6_104 : Cond.fieldLink RX6 104 RX7 "REINSTATE" "LLossHouse$Sign;" ∈ hGW := hgw 1068 (by decide +kernel) (by decide +kernel)
theorem kfl_X6_107 : Cond.fieldLink RX6 107 RX7 "AT" "LLossHouse$Sign;" ∈ hGW := hgw 1070 (by decide +kernel) (by decide +kernel)
theorem kml_X6_110 : Cond.methodLink RX6 110 yX6_needEach ∈ hGW := hgw 1072 (by decide +kernel) (by decide +kernel)
theorem kin_X6_needEach : Cond.instanceMethod yX6_needEach ∈ hGW := hgw 1074 (by decide +kernel) (by decide +kernel)
theorem kco_X6_needEach : Cond.code yX6_needEach cX6_needEach 4 (Option.none : Option Jvm.ClassFile.FieldType) ∈ hGW := hgw 1075 (by decide +kernel) (by decide +kernel)
theorem kfl_X6_114 : Cond.fieldLink RX6 114 RX7 "NET" "LLossHouse$Sign;" ∈ hGW := hgw 1076 (by decide +kernel) (by decide +kernel)
theorem kfl_X6_117 : Cond.fieldLink RX6 117 RX7 "OF" "LLossHouse$Sign;" ∈ hGW := hgw 1078 (by decide +kernel) (by decide +kernel)
theorem kfl_X6_123 : Cond.fieldLink RX6 123 RX7 "WHEN" "LLossHouse$Sign;" ∈ hGW := hgw 1080 (by decide +kernel) (by decide +kernel)
theorem kml_X6_126 : Cond.methodLink RX6 126 yX6_readTest ∈ hGW := hgw 1082 (by decide +kernel) (by decide +kernel)
theorem kin_X6_readTest : Cond.instanceMethod yX6_readTest ∈ hGW := hgw 1084 (by decide +kernel) (by decide +kernel)
theorem kco_X6_readTest : Cond.code yX6_readTest cX6_readTest 1 (Option.some (Jvm.ClassFile.FieldType.object "LossHouse$Formula")) ∈ hGW := hgw 1085 (by decide +kernel) (by decide +kernel)
theorem kml_X6_144 : Cond.methodLink RX6 144 yX6_test ∈ hGW := hgw 1086 (by decide +kernel) (by decide +kernel)
theorem kin_X6_test : Cond.instanceMethod yX6_test ∈ hGW := hgw 1088 (by decide +kernel) (by decide +kernel)
theorem kco_X6_test : Cond.code yX6_test cX6_test 3 (Option.none : Option Jvm.ClassFile.FieldType) ∈ hGW := hgw 1089 (by decide +kernel) (by decide +kernel)
theorem kml_X6_147 : Cond.methodLink RX6 147 yX6_both ∈ hGW := hgw 1090 (by decide +kernel) (by decide +kernel)
theorem kin_X6_both : Cond.instanceMethod yX6_both ∈ hGW := hgw 1092 (by decide +kernel) (by decide +kernel)
theorem kco_X6_both : Cond.code yX6_both cX6_both 3 (Option.none : Option Jvm.ClassFile.FieldType) ∈ hGW := hgw 1093 (by decide +kernel) (by decide +kernel)
theorem kml_X6_157 : Cond.methodLink RX6 157 yX6_single ∈ hGW := hgw 1094 (by decide +kernel) (by decide +kernel)
theorem kin_X6_single : Cond.instanceMethod yX6_single ∈ hGW := hgw 1096 (by decide +kernel) (by decide +kernel)
theorem kco_X6_single : Cond.code yX6_single cX6_single 3 (Option.none : Option Jvm.ClassFile.FieldType) ∈ hGW := hgw 1097 (by decide +kernel) (by decide +kernel)
theorem kfl_X6_163 : Cond.fieldLink RX6 163 RX7 "NOT" "LLossHouse$Sign;" ∈ hGW := hgw 1098 (by decide +kernel) (by decide +kernel)
theorem kfl_X6_170 : Cond.fieldLink RX6 170 RX7 "SQUARE" "LLossHouse$Sign;" ∈ hGW := hgw 1099 (by decide +kernel) (by decide +kernel)
theorem kfl_X6_173 : Cond.fieldLink RX6 173 RX7 "SQUARE_END" "LLossHouse$Sign;" ∈ hGW := hgw 1101 (by decide +kernel) (by decide +kernel)
theorem kml_X6_176 : Cond.methodLink RX6 176 yX7_isComparison ∈ hGW := hgw 1103 (by decide +kernel) (by decide +kernel)
theorem kin_X7_isComparison : Cond.instanceMethod yX7_isComparison ∈ hGW := hgw 1104 (by decide +kernel) (by decide +kernel)
theorem kse_X7_X7_isComparison_X7_isComparison : Cond.selects RX7 yX7_isComparison yX7_isComparison ∈ hGW := hgw 1105 (by decide +kernel) (by decide +kernel)
theorem kco_X7_isComparison : Cond.code yX7_isComparison cX7_isComparison 1 (Option.some Jvm.ClassFile.FieldType.boolean) ∈ hGW := hgw 1106 (by decide +kernel) (by decide +kernel)
theorem kfl_X7_88 : Cond.fieldLink RX7 88 RX7 "LESS" "LLossHouse$Sign;" ∈ hGW := hgw 1107 (by decide +kernel) (by decide +kernel)
theorem kfl_X7_91 : Cond.fieldLink RX7 91 RX7 "GREATER" "LLossHouse$Sign;" ∈ hGW := hgw 1109 (by decide +kernel) (by decide +kernel)
theorem kfl_X7_94 : Cond.fieldLink RX7 94 RX7 "EQUAL" "LLossHouse$Sign;" ∈ hGW := hgw 1111 (by decide +kernel) (by decide +kernel)
theorem kfl_X7_97 : Cond.fieldLink RX7 97 RX7 "AT_MOST" "LLossHouse$Sign;" ∈ hGW := hgw 1113 (by decide +kernel) (by decide +kernel)
theorem kfl_X7_100 : Cond.fieldLink RX7 100 RX7 "AT_LEAST" "LLossHouse$Sign;" ∈ hGW := hgw 1115 (by decide +kernel) (by decide +kernel)
theorem kfl_X6_160 : Cond.fieldLink RX6 160 RX7 "AND" "LLossHouse$Sign;" ∈ hGW := hgw 1117 (by decide +kernel) (by decide +kernel)
theorem kfl_X6_150 : Cond.fieldLink RX6 150 RX7 "OR" "LLossHouse$Sign;" ∈ hGW := hgw 1119 (by decide +kernel) (by decide +kernel)
theorem kfl_X6_132 : Cond.fieldLink RX6 132 RX7 "SEMICOLON" "LLossHouse$Sign;" ∈ hGW := hgw 1121 (by decide +kernel) (by decide +kernel)
theorem kml_X6_59 : Cond.methodLink RX6 59 yJx4a65c_add_9ea2d ∈ hGW := hgw 1123 (by decide +kernel) (by decide +kernel)
theorem kin_Jx4a65c_add_9ea2d : Cond.instanceMethod yJx4a65c_add_9ea2d ∈ hGW := hgw 1124 (by decide +kernel) (by decide +kernel)
theorem kse_Jx4a65c_Jx4a65c_add_9ea2d_Jx4a65c_add_9ea2d : Cond.selects RJx4a65c yJx4a65c_add_9ea2d yJx4a65c_add_9ea2d ∈ hGW := hgw 1125 (by decide +kernel) (by decide +kernel)
theorem kco_Jx4a65c_add_9ea2d : Cond.code yJx4a65c_add_9ea2d cJx4a65c_add_9ea2d 2 (Option.some Jvm.ClassFile.FieldType.boolean) ∈ hGW := hgw 1126 (by decide +kernel) (by decide +kernel)
theorem kml_Jx4a65c_131 : Cond.methodLink RJx4a65c 131 yJx4a65c_add_72be8 ∈ hGW := hgw 1127 (by decide +kernel) (by decide +kernel)
theorem kin_Jx4a65c_add_72be8 : Cond.instanceMethod yJx4a65c_add_72be8 ∈ hGW := hgw 1129 (by decide +kernel) (by decide +kernel)
theorem kco_Jx4a65c_add_72be8 : Cond.code yJx4a65c_add_72be8 cJx4a65c_add_72be8 4 (Option.none : Option Jvm.ClassFile.FieldType) ∈ hGW := hgw 1130 (by decide +kernel) (by decide +kernel)
theorem kml_Jx4a65c_129 : Cond.methodLink RJx4a65c 129 yJx4a65c_grow_d5877 ∈ hGW := hgw 1131 (by decide +kernel) (by decide +kernel)
theorem kin_Jx4a65c_grow_d5877 : Cond.instanceMethod yJx4a65c_grow_d5877 ∈ hGW := hgw 1133 (by decide +kernel) (by decide +kernel)
theorem kco_Jx4a65c_grow_d5877 : Cond.code yJx4a65c_grow_d5877 cJx4a65c_grow_d5877 1 (Option.some (Jvm.ClassFile.FieldType.array (Jvm.ClassFile.FieldType.object "java/lang/Object"))) ∈ hGW := hgw 1134 (by decide +kernel) (by decide +kernel)
theorem kml_Jx4a65c_69 : Cond.methodLink RJx4a65c 69 yJx4a65c_grow_92f84 ∈ hGW := hgw 1135 (by decide +kernel) (by decide +kernel)
theorem kin_Jx4a65c_grow_92f84 : Cond.instanceMethod yJx4a65c_grow_92f84 ∈ hGW := hgw 1137 (by decide +kernel) (by decide +kernel)
theorem kco_Jx4a65c_grow_92f84 : Cond.code yJx4a65c_grow_92f84 cJx4a65c_grow_92f84 4 (Option.some (Jvm.ClassFile.FieldType.array (Jvm.ClassFile.FieldType.object "java/lang/Object"))) ∈ hGW := hgw 1138 (by decide +kernel) (by decide +kernel)
theorem kml_Jx4a65c_73 : Cond.methodLink RJx4a65c 73 yJ8_newLength_cabcc ∈ hGW := hgw 1139 (by decide +kernel) (by decide +kernel)
theorem kst_J8_newLength_cabcc : Cond.static yJ8_newLength_cabcc ∈ hGW := hgw 1140 (by decide +kernel) (by decide +kernel)
theorem kco_J8_newLength_cabcc : Cond.code yJ8_newLength_cabcc cJ8_newLength_cabcc 4 (Option.some Jvm.ClassFile.FieldType.int) ∈ hGW := hgw 1141 (by decide +kernel) (by decide +kernel)
theorem kml_J8_194 : Cond.methodLink RJ8 194 Lib.Math.max.name ∈ hGW := hgw 1142 (by decide +kernel) (by decide +kernel)
theorem kcI_J8_200 : Cond.constant RJ8 200 (2147483639 : Int32) ∈ hGW := hgw 1143 (by decide +kernel) (by decide +kernel)
theorem kml_J8_201 : Cond.methodLink RJ8 201 yJ8_hugeLength_7cf53 ∈ hGW := hgw 1144 (by decide +kernel) (by decide +kernel)
theorem kst_J8_hugeLength_7cf53 : Cond.static yJ8_hugeLength_7cf53 ∈ hGW := hgw 1145 (by decide +kernel) (by decide +kernel)
theorem kco_J8_hugeLength_7cf53 : Cond.code yJ8_hugeLength_7cf53 cJ8_hugeLength_7cf53 3 (Option.some Jvm.ClassFile.FieldType.int) ∈ hGW := hgw 1146 (by decide +kernel) (by decide +kernel)
theorem kml_Jx4a65c_66 : Cond.methodLink RJx4a65c 66 yJ7_copyOf_1904c ∈ hGW := hgw 1147 (by decide +kernel) (by decide +kernel)
theorem kst_J7_copyOf_1904c : Cond.static yJ7_copyOf_1904c ∈ hGW := hgw 1148 (by decide +kernel) (by decide +kernel)
theorem kco_J7_copyOf_1904c : Cond.code yJ7_copyOf_1904c cJ7_copyOf_1904c 2 (Option.some (Jvm.ClassFile.FieldType.array (Jvm.ClassFile.FieldType.object "java/lang/Object"))) ∈ hGW := hgw 1149 (by decide +kernel) (by decide +kernel)
theorem kml_J7_86 : Cond.methodLink RJ7 86 ⟨"java/lang/Object", "getClass", "()Ljava/lang/Class;"⟩ ∈ hGW := hgw 1150 (by decide +kernel) (by decide +kernel)
theorem kin_Zjava_lang_Object_getClass___Ljava_lang_Class_ : Cond.instanceMethod ⟨"java/lang/Object", "getClass", "()Ljava/lang/Class;"⟩ ∈ hGW := hgw 1151 (by decide +kernel) (by decide +kernel)
theorem ksm_Zjava_lang_Object_getClass__Ljava_lang_Class_ : Cond.sameMethod "java/lang/Object" "java/lang/Object" "getClass" "()Ljava/lang/Class;" ∈ hGW := hgw 1152 (by decide +kernel) (by decide +kernel)
theorem kse_X11_Zjava_lang_Object_getClass___Ljava_lang_Class__Zjava_lang_Object_getClass___Ljava_lang_Class_ : Cond.selects RX11 ⟨"java/lang/Object", "getClass", "()Ljava/lang/Class;"⟩ ⟨"java/lang/Object", "getClass", "()Ljava/lang/Class;"⟩ ∈ hGW := hgw 1153 (by decide +kernel) (by decide +kernel)
theorem kse_X1_Zjava_lang_Object_getClass___Ljava_lang_Class__Zjava_lang_Object_getClass___Ljava_lang_Class_ : Cond.selects RX1 ⟨"java/lang/Object", "getClass", "()Ljava/lang/Class;"⟩ ⟨"java/lang/Object", "getClass", "()Ljava/lang/Class;"⟩ ∈ hGW := hgw 1154 (by decide +kernel) (by decide +kernel)
theorem kse_X2_Zjava_lang_Object_getClass___Ljava_lang_Class__Zjava_lang_Object_getClass___Ljava_lang_Class_ : Cond.selects RX2 ⟨"java/lang/Object", "getClass", "()Ljava/lang/Class;"⟩ ⟨"java/lang/Object", "getClass", "()Ljava/lang/Class;"⟩ ∈ hGW := hgw 1155 (by decide +kernel) (by decide +kernel)
theorem kse_X3_Zjava_lang_Object_getClass___Ljava_lang_Class__Zjava_lang_Object_getClass___Ljava_lang_Class_ : Cond.selects RX3 ⟨"java/lang/Object", "getClass", "()Ljava/lang/Class;"⟩ ⟨"java/lang/Object", "getClass", "()Ljava/lang/Class;"⟩ ∈ hGW := hgw 1156 (by decide +kernel) (by decide +kernel)
theorem kse_X4_Zjava_lang_Object_getClass___Ljava_lang_Class__Zjava_lang_Object_getClass___Ljava_lang_Class_ : Cond.selects RX4 ⟨"java/lang/Object", "getClass", "()Ljava/lang/Class;"⟩ ⟨"java/lang/Object", "getClass", "()Ljava/lang/Class;"⟩ ∈ hGW := hgw 1157 (by decide +kernel) (by decide +kernel)
theorem kse_X5_Zjava_lang_Object_getClass___Ljava_lang_Class__Zjava_lang_Object_getClass___Ljava_lang_Class_ : Cond.selects RX5 ⟨"java/lang/Object", "getClass", "()Ljava/lang/Class;"⟩ ⟨"java/lang/Object", "getClass", "()Ljava/lang/Class;"⟩ ∈ hGW := hgw 1158 (by decide +kernel) (by decide +kernel)
theorem kse_X6_Zjava_lang_Object_getClass___Ljava_lang_Class__Zjava_lang_Object_getClass___Ljava_lang_Class_ : Cond.selects RX6 ⟨"java/lang/Object", "getClass", "()Ljava/lang/Class;"⟩ ⟨"java/lang/Object", "getClass", "()Ljava/lang/Class;"⟩ ∈ hGW := hgw 1159 (by decide +kernel) (by decide +kernel)
theorem kse_X7_Zjava_lang_Object_getClass___Ljava_lang_Class__Zjava_lang_Object_getClass___Ljava_lang_Class_ : Cond.selects RX7 ⟨"java/lang/Object", "getClass", "()Ljava/lang/Class;"⟩ ⟨"java/lang/Object", "getClass", "()Ljava/lang/Class;"⟩ ∈ hGW := hgw 1160 (by decide +kernel) (by decide +kernel)
theorem kse_X8_Zjava_lang_Object_getClass___Ljava_lang_Class__Zjava_lang_Object_getClass___Ljava_lang_Class_ : Cond.selects RX8 ⟨"java/lang/Object", "getClass", "()Ljava/lang/Class;"⟩ ⟨"java/lang/Object", "getClass", "()Ljava/lang/Class;"⟩ ∈ hGW := hgw 1161 (by decide +kernel) (by decide +kernel)
theorem kse_X9_Zjava_lang_Object_getClass___Ljava_lang_Class__Zjava_lang_Object_getClass___Ljava_lang_Class_ : Cond.selects RX9 ⟨"java/lang/Object", "getClass", "()Ljava/lang/Class;"⟩ ⟨"java/lang/Object", "getClass", "()Ljava/lang/Class;"⟩ ∈ hGW := hgw 1162 (by decide +kernel) (by decide +kernel)
theorem kse_X10_Zjava_lang_Object_getClass___Ljava_lang_Class__Zjava_lang_Object_getClass___Ljava_lang_Class_ : Cond.selects RX10 ⟨"java/lang/Object", "getClass", "()Ljava/lang/Class;"⟩ ⟨"java/lang/Object", "getClass", "()Ljava/lang/Class;"⟩ ∈ hGW := hgw 1163 (by decide +kernel) (by decide +kernel)
theorem kse_Zjava_lang_IllegalArgumentException_Zjava_lang_Object_getClass___Ljava_lang_Class__Zjava_lang_Object_getClass___Ljava_lang_Class_ : Cond.selects "java/lang/IllegalArgumentException" ⟨"java/lang/Object", "getClass", "()Ljava/lang/Class;"⟩ ⟨"java/lang/Object", "getClass", "()Ljava/lang/Class;"⟩ ∈ hGW := hgw 1164 (by decide +kernel) (by decide +kernel)
theorem kse_Zjava_lang_IllegalStateException_Zjava_lang_Object_getClass___Ljava_lang_Class__Zjava_lang_Object_getClass___Ljava_lang_Class_ : Cond.selects "java/lang/IllegalStateException" ⟨"java/lang/Object", "getClass", "()Ljava/lang/Class;"⟩ ⟨"java/lang/Object", "getClass", "()Ljava/lang/Class;"⟩ ∈ hGW := hgw 1165 (by decide +kernel) (by decide +kernel)
theorem kse_Zjava_lang_IndexOutOfBoundsException_Zjava_lang_Object_getClass___Ljava_lang_Class__Zjava_lang_Object_getClass___Ljava_lang_Class_ : Cond.selects "java/lang/IndexOutOfBoundsException" ⟨"java/lang/Object", "getClass", "()Ljava/lang/Class;"⟩ ⟨"java/lang/Object", "getClass", "()Ljava/lang/Class;"⟩ ∈ hGW := hgw 1166 (by decide +kernel) (by decide +kernel)
theorem kse_J0_Zjava_lang_Object_getClass___Ljava_lang_Class__Zjava_lang_Object_getClass___Ljava_lang_Class_ : Cond.selects RJ0 ⟨"java/lang/Object", "getClass", "()Ljava/lang/Class;"⟩ ⟨"java/lang/Object", "getClass", "()Ljava/lang/Class;"⟩ ∈ hGW := hgw 1167 (by decide +kernel) (by decide +kernel)
theorem kse_J4_Zjava_lang_Object_getClass___Ljava_lang_Class__Zjava_lang_Object_getClass___Ljava_lang_Class_ : Cond.selects RJ4 ⟨"java/lang/Object", "getClass", "()Ljava/lang/Class;"⟩ ⟨"java/lang/Object", "getClass", "()Ljava/lang/Class;"⟩ ∈ hGW := hgw 1168 (by decide +kernel) (by decide +kernel)
theorem kse_Jx4a65c_Zjava_lang_Object_getClass___Ljava_lang_Class__Zjava_lang_Object_getClass___Ljava_lang_Class_ : Cond.selects RJx4a65c ⟨"java/lang/Object", "getClass", "()Ljava/lang/Class;"⟩ ⟨"java/lang/Object", "getClass", "()Ljava/lang/Class;"⟩ ∈ hGW := hgw 1169 (by decide +kernel) (by decide +kernel)
theorem kml_J7_300 : Cond.methodLink RJ7 300 yJ7_copyOf_6403c ∈ hGW := hgw 1171 (by decide +kernel) (by decide +kernel)
theorem kst_J7_copyOf_6403c : Cond.static yJ7_copyOf_6403c ∈ hGW := hgw 1172 (by decide +kernel) (by decide +kernel)
theorem kco_J7_copyOf_6403c : Cond.code yJ7_copyOf_6403c cJ7_copyOf_6403c 4 (Option.some (Jvm.ClassFile.FieldType.array (Jvm.ClassFile.FieldType.object "java/lang/Object"))) ∈ hGW := hgw 1173 (by decide +kernel) (by decide +kernel)
theorem kcl_J7_110 : Cond.classLink RJ7 110 "[Ljava/lang/Object;" ∈ hGW := hgw 1174 (by decide +kernel) (by decide +kernel)
theorem kcl_J7_2 : Cond.classLink RJ7 2 "java/lang/Object" ∈ hGW := hgw 1176 (by decide +kernel) (by decide +kernel)
theorem kml_J7_304 : Cond.methodLink RJ7 304 Lib.Math.min.name ∈ hGW := hgw 1177 (by decide +kernel) (by decide +kernel)
theorem kml_J7_150 : Cond.methodLink RJ7 150 ⟨"java/lang/System", "arraycopy", "(Ljava/lang/Object;ILjava/lang/Object;II)V"⟩ ∈ hGW := hgw 1178 (by decide +kernel) (by decide +kernel)
theorem kst_Zjava_lang_System_arraycopy__Ljava_lang_Object_ILjava_lang_Object_II_V : Cond.static ⟨"java/lang/System", "arraycopy", "(Ljava/lang/Object;ILjava/lang/Object;II)V"⟩ ∈ hGW := hgw 1179 (by decide +kernel) (by decide +kernel)
theorem kml_Jx4a65c_79 : Cond.methodLink RJx4a65c 79 Lib.Math.max.name ∈ hGW := hgw 1181 (by decide +kernel) (by decide +kernel)
theorem kcl_Jx4a65c_7 : Cond.classLink RJx4a65c 7 "java/lang/Object" ∈ hGW := hgw 1182 (by decide +kernel) (by decide +kernel)
theorem kfl_X6_63 : Cond.fieldLink RX6 63 RX7 "END" "LLossHouse$Sign;" ∈ hGW := hgw 1183 (by decide +kernel) (by decide +kernel)
theorem kml_X11_115 : Cond.methodLink RX11 115 yX6_wrongToken ∈ hGW := hgw 1184 (by decide +kernel) (by decide +kernel)
theorem kin_X6_wrongToken : Cond.instanceMethod yX6_wrongToken ∈ hGW := hgw 1185 (by decide +kernel) (by decide +kernel)
theorem kse_X6_X6_wrongToken_X6_wrongToken : Cond.selects RX6 yX6_wrongToken yX6_wrongToken ∈ hGW := hgw 1186 (by decide +kernel) (by decide +kernel)
theorem kco_X6_wrongToken : Cond.code yX6_wrongToken cX6_wrongToken 1 (Option.some Jvm.ClassFile.FieldType.int) ∈ hGW := hgw 1187 (by decide +kernel) (by decide +kernel)
theorem kml_X11_119 : Cond.methodLink RX11 119 yX2_check ∈ hGW := hgw 1188 (by decide +kernel) (by decide +kernel)
theorem kin_X2_check : Cond.instanceMethod yX2_check ∈ hGW := hgw 1189 (by decide +kernel) (by decide +kernel)
theorem kse_X2_X2_check_X2_check : Cond.selects RX2 yX2_check yX2_check ∈ hGW := hgw 1190 (by decide +kernel) (by decide +kernel)
theorem kco_X2_check : Cond.code yX2_check cX2_check 4 (Option.some Jvm.ClassFile.FieldType.int) ∈ hGW := hgw 1191 (by decide +kernel) (by decide +kernel)
theorem kml_X2_29 : Cond.methodLink RX2 29 yX2_errorOf ∈ hGW := hgw 1192 (by decide +kernel) (by decide +kernel)
theorem kin_X2_errorOf : Cond.instanceMethod yX2_errorOf ∈ hGW := hgw 1194 (by decide +kernel) (by decide +kernel)
theorem kco_X2_errorOf : Cond.code yX2_errorOf cX2_errorOf 7 (Option.some Jvm.ClassFile.FieldType.int) ∈ hGW := hgw 1195 (by decide +kernel) (by decide +kernel)
theorem kml_X2_33 : Cond.methodLink RX2 33 yX9_signAt ∈ hGW := hgw 1196 (by decide +kernel) (by decide +kernel)
theorem kfl_X2_37 : Cond.fieldLink RX2 37 RX7 "NAME" "LLossHouse$Sign;" ∈ hGW := hgw 1197 (by decide +kernel) (by decide +kernel)
theorem kfl_X2_43 : Cond.fieldLink RX2 43 RX7 "LAYER" "LLossHouse$Sign;" ∈ hGW := hgw 1198 (by decide +kernel) (by decide +kernel)
theorem kml_X2_46 : Cond.methodLink RX2 46 yX9_wordAt ∈ hGW := hgw 1199 (by decide +kernel) (by decide +kernel)
theorem kin_X9_wordAt : Cond.instanceMethod yX9_wordAt ∈ hGW := hgw 1200 (by decide +kernel) (by decide +kernel)
theorem kse_X9_X9_wordAt_X9_wordAt : Cond.selects RX9 yX9_wordAt yX9_wordAt ∈ hGW := hgw 1201 (by decide +kernel) (by decide +kernel)
theorem kco_X9_wordAt : Cond.code yX9_wordAt cX9_wordAt 2 (Option.some Jvm.ClassFile.FieldType.long) ∈ hGW := hgw 1202 (by decide +kernel) (by decide +kernel)
theorem kml_X2_50 : Cond.methodLink RX2 50 yX2_nameLayer ∈ hGW := hgw 1203 (by decide +kernel) (by decide +kernel)
theorem kin_X2_nameLayer : Cond.instanceMethod yX2_nameLayer ∈ hGW := hgw 1205 (by decide +kernel) (by decide +kernel)
theorem kco_X2_nameLayer : Cond.code yX2_nameLayer cX2_nameLayer 3 (Option.some Jvm.ClassFile.FieldType.int) ∈ hGW := hgw 1206 (by decide +kernel) (by decide +kernel)
theorem kml_X2_93 : Cond.methodLink RX2 93 yX2_layerNamed ∈ hGW := hgw 1207 (by decide +kernel) (by decide +kernel)
theorem kin_X2_layerNamed : Cond.instanceMethod yX2_layerNamed ∈ hGW := hgw 1209 (by decide +kernel) (by decide +kernel)
theorem kco_X2_layerNamed : Cond.code yX2_layerNamed cX2_layerNamed 5 (Option.some Jvm.ClassFile.FieldType.int) ∈ hGW := hgw 1210 (by decide +kernel) (by decide +kernel)
theorem kml_X2_54 : Cond.methodLink RX2 54 ⟨"java/util/List", "size", "()I"⟩ ∈ hGW := hgw 1212 (by decide +kernel) (by decide +kernel)
theorem kml_X2_60 : Cond.methodLink RX2 60 ⟨"java/util/List", "get", "(I)Ljava/lang/Object;"⟩ ∈ hGW := hgw 1214 (by decide +kernel) (by decide +kernel)
theorem kcl_X2_64 : Cond.classLink RX2 64 RX5 ∈ hGW := hgw 1215 (by decide +kernel) (by decide +kernel)
theorem kml_X2_66 : Cond.methodLink RX2 66 yX2_netError ∈ hGW := hgw 1216 (by decide +kernel) (by decide +kernel)
theorem kin_X2_netError : Cond.instanceMethod yX2_netError ∈ hGW := hgw 1218 (by decide +kernel) (by decide +kernel)
theorem kco_X2_netError : Cond.code yX2_netError cX2_netError 5 (Option.some Jvm.ClassFile.FieldType.int) ∈ hGW := hgw 1219 (by decide +kernel) (by decide +kernel)
theorem kml_X2_70 : Cond.methodLink RX2 70 yX9_numberAt ∈ hGW := hgw 1220 (by decide +kernel) (by decide +kernel)
theorem kfl_X2_74 : Cond.fieldLink RX2 74 RX0 "$SwitchMap$LossHouse$Sign" "[I" ∈ hGW := hgw 1221 (by decide +kernel) (by decide +kernel)
theorem kml_X2_80 : Cond.methodLink RX2 80 ⟨"LossHouse$Sign", "ordinal", "()I"⟩ ∈ hGW := hgw 1222 (by decide +kernel) (by decide +kernel)
theorem kml_X2_83 : Cond.methodLink RX2 83 yX5_takesShare ∈ hGW := hgw 1223 (by decide +kernel) (by decide +kernel)
theorem kin_X5_takesShare : Cond.instanceMethod yX5_takesShare ∈ hGW := hgw 1224 (by decide +kernel) (by decide +kernel)
theorem kse_X5_X5_takesShare_X5_takesShare : Cond.selects RX5 yX5_takesShare yX5_takesShare ∈ hGW := hgw 1225 (by decide +kernel) (by decide +kernel)
theorem kco_X5_takesShare : Cond.code yX5_takesShare cX5_takesShare 2 (Option.some Jvm.ClassFile.FieldType.boolean) ∈ hGW := hgw 1226 (by decide +kernel) (by decide +kernel)
theorem kml_X2_87 : Cond.methodLink RX2 87 yX5_takesReinstate ∈ hGW := hgw 1227 (by decide +kernel) (by decide +kernel)
theorem kin_X5_takesReinstate : Cond.instanceMethod yX5_takesReinstate ∈ hGW := hgw 1228 (by decide +kernel) (by decide +kernel)
theorem kse_X5_X5_takesReinstate_X5_takesReinstate : Cond.selects RX5 yX5_takesReinstate yX5_takesReinstate ∈ hGW := hgw 1229 (by decide +kernel) (by decide +kernel)
theorem kco_X5_takesReinstate : Cond.code yX5_takesReinstate cX5_takesReinstate 2 (Option.some Jvm.ClassFile.FieldType.boolean) ∈ hGW := hgw 1230 (by decide +kernel) (by decide +kernel)
theorem kml_X2_90 : Cond.methodLink RX2 90 yX5_takesAt ∈ hGW := hgw 1231 (by decide +kernel) (by decide +kernel)
theorem kin_X5_takesAt : Cond.instanceMethod yX5_takesAt ∈ hGW := hgw 1232 (by decide +kernel) (by decide +kernel)
theorem kse_X5_X5_takesAt_X5_takesAt : Cond.selects RX5 yX5_takesAt yX5_takesAt ∈ hGW := hgw 1233 (by decide +kernel) (by decide +kernel)
theorem kco_X5_takesAt : Cond.code yX5_takesAt cX5_takesAt 2 (Option.some Jvm.ClassFile.FieldType.boolean) ∈ hGW := hgw 1234 (by decide +kernel) (by decide +kernel)
theorem kml_X11_123 : Cond.methodLink RX11 123 yX2_wrongToken ∈ hGW := hgw 1235 (by decide +kernel) (by decide +kernel)
theorem kin_X2_wrongToken : Cond.instanceMethod yX2_wrongToken ∈ hGW := hgw 1236 (by decide +kernel) (by decide +kernel)
theorem kse_X2_X2_wrongToken_X2_wrongToken : Cond.selects RX2 yX2_wrongToken yX2_wrongToken ∈ hGW := hgw 1237 (by decide +kernel) (by decide +kernel)
theorem kco_X2_wrongToken : Cond.code yX2_wrongToken cX2_wrongToken 1 (Option.some Jvm.ClassFile.FieldType.int) ∈ hGW := hgw 1238 (by decide +kernel) (by decide +kernel)
theorem kml_X11_124 : Cond.methodLink RX11 124 yX9_startOf ∈ hGW := hgw 1239 (by decide +kernel) (by decide +kernel)
theorem kin_X9_startOf : Cond.instanceMethod yX9_startOf ∈ hGW := hgw 1240 (by decide +kernel) (by decide +kernel)
theorem kse_X9_X9_startOf_X9_startOf : Cond.selects RX9 yX9_startOf yX9_startOf ∈ hGW := hgw 1241 (by decide +kernel) (by decide +kernel)
theorem kco_X9_startOf : Cond.code yX9_startOf cX9_startOf 2 (Option.some Jvm.ClassFile.FieldType.int) ∈ hGW := hgw 1242 (by decide +kernel) (by decide +kernel)
theorem kml_X11_128 : Cond.methodLink RX11 128 yX11_adopt ∈ hGW := hgw 1243 (by decide +kernel) (by decide +kernel)
theorem kin_X11_adopt : Cond.instanceMethod yX11_adopt ∈ hGW := hgw 1245 (by decide +kernel) (by decide +kernel)
theorem kco_X11_adopt : Cond.code yX11_adopt cX11_adopt 3 (Option.none : Option Jvm.ClassFile.FieldType) ∈ hGW := hgw 1246 (by decide +kernel) (by decide +kernel)
theorem kml_X11_340 : Cond.methodLink RX11 340 yJx4a65c_clear_da8c8 ∈ hGW := hgw 1247 (by decide +kernel) (by decide +kernel)
theorem kin_Jx4a65c_clear_da8c8 : Cond.instanceMethod yJx4a65c_clear_da8c8 ∈ hGW := hgw 1248 (by decide +kernel) (by decide +kernel)
theorem kse_Jx4a65c_Jx4a65c_clear_da8c8_Jx4a65c_clear_da8c8 : Cond.selects RJx4a65c yJx4a65c_clear_da8c8 yJx4a65c_clear_da8c8 ∈ hGW := hgw 1249 (by decide +kernel) (by decide +kernel)
theorem kco_Jx4a65c_clear_da8c8 : Cond.code yJx4a65c_clear_da8c8 cJx4a65c_clear_da8c8 4 (Option.none : Option Jvm.ClassFile.FieldType) ∈ hGW := hgw 1250 (by decide +kernel) (by decide +kernel)
theorem kml_X11_343 : Cond.methodLink RX11 343 ⟨"java/util/List", "size", "()I"⟩ ∈ hGW := hgw 1252 (by decide +kernel) (by decide +kernel)
theorem kml_X11_346 : Cond.methodLink RX11 346 ⟨"java/util/List", "get", "(I)Ljava/lang/Object;"⟩ ∈ hGW := hgw 1254 (by decide +kernel) (by decide +kernel)
theorem kml_X11_347 : Cond.methodLink RX11 347 yX5_settleYears ∈ hGW := hgw 1255 (by decide +kernel) (by decide +kernel)
theorem kin_X5_settleYears : Cond.instanceMethod yX5_settleYears ∈ hGW := hgw 1256 (by decide +kernel) (by decide +kernel)
theorem kse_X5_X5_settleYears_X5_settleYears : Cond.selects RX5 yX5_settleYears yX5_settleYears ∈ hGW := hgw 1257 (by decide +kernel) (by decide +kernel)
theorem kco_X5_settleYears : Cond.code yX5_settleYears cX5_settleYears 2 (Option.none : Option Jvm.ClassFile.FieldType) ∈ hGW := hgw 1258 (by decide +kernel) (by decide +kernel)
theorem kml_X5_57 : Cond.methodLink RX5 57 yX4_valueOfYear ∈ hGW := hgw 1259 (by decide +kernel) (by decide +kernel)
theorem kin_X4_valueOfYear : Cond.instanceMethod yX4_valueOfYear ∈ hGW := hgw 1260 (by decide +kernel) (by decide +kernel)
theorem kse_X4_X4_valueOfYear_X4_valueOfYear : Cond.selects RX4 yX4_valueOfYear yX4_valueOfYear ∈ hGW := hgw 1261 (by decide +kernel) (by decide +kernel)
theorem kco_X4_valueOfYear : Cond.code yX4_valueOfYear cX4_valueOfYear 2 (Option.some Jvm.ClassFile.FieldType.int) ∈ hGW := hgw 1262 (by decide +kernel) (by decide +kernel)
theorem kml_X4_47 : Cond.methodLink RX4 47 yX4_value ∈ hGW := hgw 1263 (by decide +kernel) (by decide +kernel)
theorem kml_X5_63 : Cond.methodLink RX5 63 yX5_boundOf ∈ hGW := hgw 1264 (by decide +kernel) (by decide +kernel)
theorem kin_X5_boundOf : Cond.instanceMethod yX5_boundOf ∈ hGW := hgw 1266 (by decide +kernel) (by decide +kernel)
theorem kco_X5_boundOf : Cond.code yX5_boundOf cX5_boundOf 6 (Option.some Jvm.ClassFile.FieldType.long) ∈ hGW := hgw 1267 (by decide +kernel) (by decide +kernel)
theorem kml_X11_186 : Cond.methodLink RX11 186 yJx4a65c_add_9ea2d ∈ hGW := hgw 1268 (by decide +kernel) (by decide +kernel)
theorem kml_L_130 : Cond.methodLink RL 130 yL_terms ∈ hGW := hgw 1269 (by decide +kernel) (by decide +kernel)
theorem kst_L_terms : Cond.static yL_terms ∈ hGW := hgw 1270 (by decide +kernel) (by decide +kernel)
theorem kco_L_terms : Cond.code yL_terms cL_terms 4 (Option.some (Jvm.ClassFile.FieldType.array Jvm.ClassFile.FieldType.int)) ∈ hGW := hgw 1271 (by decide +kernel) (by decide +kernel)
theorem kcI_L_32 : Cond.constant RL 32 (40000 : Int32) ∈ hGW := hgw 1272 (by decide +kernel) (by decide +kernel)
theorem kcI_L_33 : Cond.constant RL 33 (60000 : Int32) ∈ hGW := hgw 1273 (by decide +kernel) (by decide +kernel)
theorem kcI_L_34 : Cond.constant RL 34 (90000 : Int32) ∈ hGW := hgw 1274 (by decide +kernel) (by decide +kernel)
theorem kcI_L_35 : Cond.constant RL 35 (50000 : Int32) ∈ hGW := hgw 1275 (by decide +kernel) (by decide +kernel)
theorem kml_L_134 : Cond.methodLink RL 134 yL_text ∈ hGW := hgw 1276 (by decide +kernel) (by decide +kernel)
theorem kst_L_text : Cond.static yL_text ∈ hGW := hgw 1277 (by decide +kernel) (by decide +kernel)
theorem kco_L_text : Cond.code yL_text cL_text 3 (Option.some (Jvm.ClassFile.FieldType.object "java/lang/String")) ∈ hGW := hgw 1278 (by decide +kernel) (by decide +kernel)
theorem kcl_L_46 : Cond.classLink RL 46 RJ4 ∈ hGW := hgw 1279 (by decide +kernel) (by decide +kernel)
theorem kinst_J4 : Cond.instantiable RJ4 4 ∈ hGW := hgw 1280 (by decide +kernel) (by decide +kernel)
theorem kml_L_48 : Cond.methodLink RL 48 yJ4_init_da8c8 ∈ hGW := hgw 1281 (by decide +kernel) (by decide +kernel)
theorem kin_J4_init_da8c8 : Cond.instanceMethod yJ4_init_da8c8 ∈ hGW := hgw 1282 (by decide +kernel) (by decide +kernel)
theorem kco_J4_init_da8c8 : Cond.code yJ4_init_da8c8 cJ4_init_da8c8 1 (Option.none : Option Jvm.ClassFile.FieldType) ∈ hGW := hgw 1283 (by decide +kernel) (by decide +kernel)
theorem kml_J4_1 : Cond.methodLink RJ4 1 yJ5_init_d00df ∈ hGW := hgw 1284 (by decide +kernel) (by decide +kernel)
theorem kin_J5_init_d00df : Cond.instanceMethod yJ5_init_d00df ∈ hGW := hgw 1285 (by decide +kernel) (by decide +kernel)
theorem kco_J5_init_d00df : Cond.code yJ5_init_d00df cJ5_init_d00df 2 (Option.none : Option Jvm.ClassFile.FieldType) ∈ hGW := hgw 1286 (by decide +kernel) (by decide +kernel)
theorem kml_J5_3 : Cond.methodLink RJ5 3 ⟨"java/lang/Object", "<init>", "()V"⟩ ∈ hGW := hgw 1287 (by decide +kernel) (by decide +kernel)
theorem kfl_J5_18 : Cond.fieldLink RJ5 18 RJ0 "COMPACT_STRINGS" "Z" ∈ hGW := hgw 1288 (by decide +kernel) (by decide +kernel)
theorem kml_J5_26 : Cond.methodLink RJ5 26 yJ2_newBytesFor_77867 ∈ hGW := hgw 1289 (by decide +kernel) (by decide +kernel)
theorem kst_J2_newBytesFor_77867 : Cond.static yJ2_newBytesFor_77867 ∈ hGW := hgw 1290 (by decide +kernel) (by decide +kernel)
theorem kco_J2_newBytesFor_77867 : Cond.code yJ2_newBytesFor_77867 cJ2_newBytesFor_77867 1 (Option.some (Jvm.ClassFile.FieldType.array Jvm.ClassFile.FieldType.byte)) ∈ hGW := hgw 1291 (by decide +kernel) (by decide +kernel)
theorem kml_J2_11 : Cond.methodLink RJ2 11 yJ2_newBytesLength_0f7a4 ∈ hGW := hgw 1292 (by decide +kernel) (by decide +kernel)
theorem kst_J2_newBytesLength_0f7a4 : Cond.static yJ2_newBytesLength_0f7a4 ∈ hGW := hgw 1293 (by decide +kernel) (by decide +kernel)
theorem kco_J2_newBytesLength_0f7a4 : Cond.code yJ2_newBytesLength_0f7a4 cJ2_newBytesLength_0f7a4 1 (Option.some Jvm.ClassFile.FieldType.int) ∈ hGW := hgw 1294 (by decide +kernel) (by decide +kernel)
theorem kcI_J2_20 : Cond.constant RJ2 20 (1073741823 : Int32) ∈ hGW := hgw 1295 (by decide +kernel) (by decide +kernel)
theorem kfl_J5_15 : Cond.fieldLink RJ5 15 RJ5 "value" "[B" ∈ hGW := hgw 1296 (by decide +kernel) (by decide +kernel)
theorem kfl_J5_22 : Cond.fieldLink RJ5 22 RJ5 "coder" "B" ∈ hGW := hgw 1297 (by decide +kernel) (by decide +kernel)
theorem kfl_J0_1048 : Cond.fieldLink RJ0 1048 RJ5 "maybeLatin1" "Z" ∈ hGW := hgw 1298 (by decide +kernel) (by decide +kernel)
theorem kfl_J5_79 : Cond.fieldLink RJ5 79 RJ5 "count" "I" ∈ hGW := hgw 1299 (by decide +kernel) (by decide +kernel)
theorem kml_L_51 : Cond.methodLink RL 51 yJ4_append_15ec4 ∈ hGW := hgw 1310 (by decide +kernel) (by decide +kernel)
theorem kin_J4_append_15ec4 : Cond.instanceMethod yJ4_append_15ec4 ∈ hGW := hgw 1311 (by decide +kernel) (by decide +kernel)
theorem kse_J4_J4_append_15ec4_J4_append_15ec4 : Cond.selects RJ4 yJ4_append_15ec4 yJ4_append_15ec4 ∈ hGW := hgw 1312 (by decide +kernel) (by decide +kernel)
theorem kco_J4_append_15ec4 : Cond.code yJ4_append_15ec4 cJ4_append_15ec4 2 (Option.some (Jvm.ClassFile.FieldType.object "java/lang/StringBuilder")) ∈ hGW := hgw 1313 (by decide +kernel) (by decide +kernel)
theorem kml_J4_29 : Cond.methodLink RJ4 29 yJ5_append_cf1ce ∈ hGW := hgw 1314 (by decide +kernel) (by decide +kernel)
theorem kin_J5_append_cf1ce : Cond.instanceMethod yJ5_append_cf1ce ∈ hGW := hgw 1315 (by decide +kernel) (by decide +kernel)
theorem kco_J5_append_cf1ce : Cond.code yJ5_append_cf1ce cJ5_append_cf1ce 3 (Option.some (Jvm.ClassFile.FieldType.object "java/lang/AbstractStringBuilder")) ∈ hGW := hgw 1316 (by decide +kernel) (by decide +kernel)
theorem kml_J5_204 : Cond.methodLink RJ5 204 yJ5_appendNull_278bc ∈ hGW := hgw 1317 (by decide +kernel) (by decide +kernel)
theorem kin_J5_appendNull_278bc : Cond.instanceMethod yJ5_appendNull_278bc ∈ hGW := hgw 1319 (by decide +kernel) (by decide +kernel)
theorem kco_J5_appendNull_278bc : Cond.code yJ5_appendNull_278bc cJ5_appendNull_278bc 3 (Option.some (Jvm.ClassFile.FieldType.object "java/lang/AbstractStringBuilder")) ∈ hGW := hgw 1320 (by decide +kernel) (by decide +kernel)
theorem kml_J5_100 : Cond.methodLink RJ5 100 yJ5_ensureCapacityInternal_d00df ∈ hGW := hgw 1321 (by decide +kernel) (by decide +kernel)
theorem kin_J5_ensureCapacityInternal_d00df : Cond.instanceMethod yJ5_ensureCapacityInternal_d00df ∈ hGW := hgw 1323 (by decide +kernel) (by decide +kernel)
theorem kco_J5_ensureCapacityInternal_d00df : Cond.code yJ5_ensureCapacityInternal_d00df cJ5_ensureCapacityInternal_d00df 3 (Option.none : Option Jvm.ClassFile.FieldType) ∈ hGW := hgw 1324 (by decide +kernel) (by decide +kernel)
theorem kml_J5_104 : Cond.methodLink RJ5 104 yJ5_newCapacity_0f7a4 ∈ hGW := hgw 1325 (by decide +kernel) (by decide +kernel)
theorem kin_J5_newCapacity_0f7a4 : Cond.instanceMethod yJ5_newCapacity_0f7a4 ∈ hGW := hgw 1327 (by decide +kernel) (by decide +kernel)
theorem kco_J5_newCapacity_0f7a4 : Cond.code yJ5_newCapacity_0f7a4 cJ5_newCapacity_0f7a4 6 (Option.some Jvm.ClassFile.FieldType.int) ∈ hGW := hgw 1328 (by decide +kernel) (by decide +kernel)
theorem kml_J5_114 : Cond.methodLink RJ5 114 yJ8_newLength_cabcc ∈ hGW := hgw 1329 (by decide +kernel) (by decide +kernel)
theorem kcI_J5_39 : Cond.constant RJ5 39 (2147483647 : Int32) ∈ hGW := hgw 1330 (by decide +kernel) (by decide +kernel)
theorem kml_J5_108 : Cond.methodLink RJ5 108 yJ7_copyOf_9075b ∈ hGW := hgw 1331 (by decide +kernel) (by decide +kernel)
theorem kst_J7_copyOf_9075b : Cond.static yJ7_copyOf_9075b ∈ hGW := hgw 1332 (by decide +kernel) (by decide +kernel)
theorem kco_J7_copyOf_9075b : Cond.code yJ7_copyOf_9075b cJ7_copyOf_9075b 3 (Option.some (Jvm.ClassFile.FieldType.array Jvm.ClassFile.FieldType.byte)) ∈ hGW := hgw 1333 (by decide +kernel) (by decide +kernel)
theorem kml_J7_310 : Cond.methodLink RJ7 310 ⟨"[B", "clone", "()Ljava/lang/Object;"⟩ ∈ hGW := hgw 1334 (by decide +kernel) (by decide +kernel)
theorem ksm_Z_B_clone__Ljava_lang_Object_ : Cond.sameMethod "[B" "java/lang/Object" "clone" "()Ljava/lang/Object;" ∈ hGW := hgw 1335 (by decide +kernel) (by decide +kernel)
theorem kin_Zjava_lang_Object_clone___Ljava_lang_Object_ : Cond.instanceMethod ⟨"java/lang/Object", "clone", "()Ljava/lang/Object;"⟩ ∈ hGW := hgw 1337 (by decide +kernel) (by decide +kernel)
theorem kse_Z_B_Z_B_clone___Ljava_lang_Object__Zjava_lang_Object_clone___Ljava_lang_Object_ : Cond.selects "[B" ⟨"[B", "clone", "()Ljava/lang/Object;"⟩ ⟨"java/lang/Object", "clone", "()Ljava/lang/Object;"⟩ ∈ hGW := hgw 1338 (by decide +kernel) (by decide +kernel)
theorem kcl_J7_311 : Cond.classLink RJ7 311 "[B" ∈ hGW := hgw 1340 (by decide +kernel) (by decide +kernel)
theorem kml_J5_83 : Cond.methodLink RJ5 83 yJ5_isLatin1_aae02 ∈ hGW := hgw 1341 (by decide +kernel) (by decide +kernel)
theorem kin_J5_isLatin1_aae02 : Cond.instanceMethod yJ5_isLatin1_aae02 ∈ hGW := hgw 1342 (by decide +kernel) (by decide +kernel)
theorem ksm_J5_isLatin1__Z : Cond.sameMethod RJ5 RJ5 "isLatin1" "()Z" ∈ hGW := hgw 1343 (by decide +kernel) (by decide +kernel)
theorem kse_J4_J5_isLatin1_aae02_J5_isLatin1_aae02 : Cond.selects RJ4 yJ5_isLatin1_aae02 yJ5_isLatin1_aae02 ∈ hGW := hgw 1344 (by decide +kernel) (by decide +kernel)
theorem kco_J5_isLatin1_aae02 : Cond.code yJ5_isLatin1_aae02 cJ5_isLatin1_aae02 1 (Option.some Jvm.ClassFile.FieldType.boolean) ∈ hGW := hgw 1345 (by decide +kernel) (by decide +kernel)
theorem kml_J5_226 : Cond.methodLink RJ5 226 yJ2_putCharsAt_cd4e5 ∈ hGW := hgw 1346 (by decide +kernel) (by decide +kernel)
theorem kst_J2_putCharsAt_cd4e5 : Cond.static yJ2_putCharsAt_cd4e5 ∈ hGW := hgw 1347 (by decide +kernel) (by decide +kernel)
theorem kco_J2_putCharsAt_cd4e5 : Cond.code yJ2_putCharsAt_cd4e5 cJ2_putCharsAt_cd4e5 7 (Option.some Jvm.ClassFile.FieldType.int) ∈ hGW := hgw 1348 (by decide +kernel) (by decide +kernel)
theorem kml_J2_96 : Cond.methodLink RJ2 96 yJ2_checkBoundsBeginEnd_d044e ∈ hGW := hgw 1349 (by decide +kernel) (by decide +kernel)
theorem kst_J2_checkBoundsBeginEnd_d044e : Cond.static yJ2_checkBoundsBeginEnd_d044e ∈ hGW := hgw 1350 (by decide +kernel) (by decide +kernel)
theorem kco_J2_checkBoundsBeginEnd_d044e : Cond.code yJ2_checkBoundsBeginEnd_d044e cJ2_checkBoundsBeginEnd_d044e 3 (Option.none : Option Jvm.ClassFile.FieldType) ∈ hGW := hgw 1351 (by decide +kernel) (by decide +kernel)
theorem kml_J2_241 : Cond.methodLink RJ2 241 yJ0_checkBoundsBeginEnd_23922 ∈ hGW := hgw 1352 (by decide +kernel) (by decide +kernel)
theorem kst_J0_checkBoundsBeginEnd_23922 : Cond.static yJ0_checkBoundsBeginEnd_23922 ∈ hGW := hgw 1353 (by decide +kernel) (by decide +kernel)
theorem kco_J0_checkBoundsBeginEnd_23922 : Cond.code yJ0_checkBoundsBeginEnd_23922 cJ0_checkBoundsBeginEnd_23922 3 (Option.none : Option Jvm.ClassFile.FieldType) ∈ hGW := hgw 1354 (by decide +kernel) (by decide +kernel)
theorem kml_J0_1062 : Cond.methodLink RJ0 1062 yJ3_checkFromToIndex_8c36e ∈ hGW := hgw 1355 (by decide +kernel) (by decide +kernel)
theorem kst_J3_checkFromToIndex_8c36e : Cond.static yJ3_checkFromToIndex_8c36e ∈ hGW := hgw 1356 (by decide +kernel) (by decide +kernel)
theorem kco_J3_checkFromToIndex_8c36e : Cond.code yJ3_checkFromToIndex_8c36e cJ3_checkFromToIndex_8c36e 4 (Option.some Jvm.ClassFile.FieldType.int) ∈ hGW := hgw 1357 (by decide +kernel) (by decide +kernel)
theorem kml_J2_111 : Cond.methodLink RJ2 111 yJ2_putChar_b72d1 ∈ hGW := hgw 1358 (by decide +kernel) (by decide +kernel)
theorem kst_J2_putChar_b72d1 : Cond.static yJ2_putChar_b72d1 ∈ hGW := hgw 1359 (by decide +kernel) (by decide +kernel)
theorem kco_J2_putChar_b72d1 : Cond.code yJ2_putChar_b72d1 cJ2_putChar_b72d1 3 (Option.none : Option Jvm.ClassFile.FieldType) ∈ hGW := hgw 1360 (by decide +kernel) (by decide +kernel)
theorem kml_J5_32 : Cond.methodLink RJ5 32 yJ0_length_8abf5 ∈ hGW := hgw 1361 (by decide +kernel) (by decide +kernel)
theorem kml_J5_208 : Cond.methodLink RJ5 208 yJ5_putStringAt_47b60 ∈ hGW := hgw 1362 (by decide +kernel) (by decide +kernel)
theorem kin_J5_putStringAt_47b60 : Cond.instanceMethod yJ5_putStringAt_47b60 ∈ hGW := hgw 1364 (by decide +kernel) (by decide +kernel)
theorem kco_J5_putStringAt_47b60 : Cond.code yJ5_putStringAt_47b60 cJ5_putStringAt_47b60 3 (Option.none : Option Jvm.ClassFile.FieldType) ∈ hGW := hgw 1365 (by decide +kernel) (by decide +kernel)
theorem kml_J5_397 : Cond.methodLink RJ5 397 yJ5_inflateIfNeededFor_a7421 ∈ hGW := hgw 1366 (by decide +kernel) (by decide +kernel)
theorem kin_J5_inflateIfNeededFor_a7421 : Cond.instanceMethod yJ5_inflateIfNeededFor_a7421 ∈ hGW := hgw 1368 (by decide +kernel) (by decide +kernel)
theorem kco_J5_inflateIfNeededFor_a7421 : Cond.code yJ5_inflateIfNeededFor_a7421 cJ5_inflateIfNeededFor_a7421 2 (Option.none : Option Jvm.ClassFile.FieldType) ∈ hGW := hgw 1369 (by decide +kernel) (by decide +kernel)
theorem kml_J5_40 : Cond.methodLink RJ5 40 yJ0_coder_7d493 ∈ hGW := hgw 1370 (by decide +kernel) (by decide +kernel)
theorem kml_J5_195 : Cond.methodLink RJ5 195 yJ5_inflate_da8c8 ∈ hGW := hgw 1371 (by decide +kernel) (by decide +kernel)
theorem kin_J5_inflate_da8c8 : Cond.instanceMethod yJ5_inflate_da8c8 ∈ hGW := hgw 1373 (by decide +kernel) (by decide +kernel)
theorem kco_J5_inflate_da8c8 : Cond.code yJ5_inflate_da8c8 cJ5_inflate_da8c8 2 (Option.none : Option Jvm.ClassFile.FieldType) ∈ hGW := hgw 1374 (by decide +kernel) (by decide +kernel)
theorem kml_J5_125 : Cond.methodLink RJ5 125 yJ1_inflate_0e8fd ∈ hGW := hgw 1375 (by decide +kernel) (by decide +kernel)
theorem kst_J1_inflate_0e8fd : Cond.static yJ1_inflate_0e8fd ∈ hGW := hgw 1376 (by decide +kernel) (by decide +kernel)
theorem kco_J1_inflate_0e8fd : Cond.code yJ1_inflate_0e8fd cJ1_inflate_0e8fd 5 (Option.none : Option Jvm.ClassFile.FieldType) ∈ hGW := hgw 1377 (by decide +kernel) (by decide +kernel)
theorem kml_J1_240 : Cond.methodLink RJ1 240 yJ2_inflate_0e8fd ∈ hGW := hgw 1378 (by decide +kernel) (by decide +kernel)
theorem kst_J2_inflate_0e8fd : Cond.static yJ2_inflate_0e8fd ∈ hGW := hgw 1379 (by decide +kernel) (by decide +kernel)
theorem kco_J2_inflate_0e8fd : Cond.code yJ2_inflate_0e8fd cJ2_inflate_0e8fd 6 (Option.none : Option Jvm.ClassFile.FieldType) ∈ hGW := hgw 1380 (by decide +kernel) (by decide +kernel)
theorem kml_J2_173 : Cond.methodLink RJ2 173 yJ2_checkBoundsOffCount_d044e ∈ hGW := hgw 1381 (by decide +kernel) (by decide +kernel)
theorem kst_J2_checkBoundsOffCount_d044e : Cond.static yJ2_checkBoundsOffCount_d044e ∈ hGW := hgw 1382 (by decide +kernel) (by decide +kernel)
theorem kco_J2_checkBoundsOffCount_d044e : Cond.code yJ2_checkBoundsOffCount_d044e cJ2_checkBoundsOffCount_d044e 3 (Option.none : Option Jvm.ClassFile.FieldType) ∈ hGW := hgw 1383 (by decide +kernel) (by decide +kernel)
theorem kml_J2_419 : Cond.methodLink RJ2 419 yJ0_checkBoundsOffCount_cabcc ∈ hGW := hgw 1384 (by decide +kernel) (by decide +kernel)
theorem kst_J0_checkBoundsOffCount_cabcc : Cond.static yJ0_checkBoundsOffCount_cabcc ∈ hGW := hgw 1385 (by decide +kernel) (by decide +kernel)
theorem kco_J0_checkBoundsOffCount_cabcc : Cond.code yJ0_checkBoundsOffCount_cabcc cJ0_checkBoundsOffCount_cabcc 3 (Option.some Jvm.ClassFile.FieldType.int) ∈ hGW := hgw 1386 (by decide +kernel) (by decide +kernel)
theorem kml_J0_1065 : Cond.methodLink RJ0 1065 yJ3_checkFromIndexSize_8c36e ∈ hGW := hgw 1387 (by decide +kernel) (by decide +kernel)
theorem kst_J3_checkFromIndexSize_8c36e : Cond.static yJ3_checkFromIndexSize_8c36e ∈ hGW := hgw 1388 (by decide +kernel) (by decide +kernel)
theorem kco_J3_checkFromIndexSize_8c36e : Cond.code yJ3_checkFromIndexSize_8c36e cJ3_checkFromIndexSize_8c36e 4 (Option.some Jvm.ClassFile.FieldType.int) ∈ hGW := hgw 1389 (by decide +kernel) (by decide +kernel)
theorem kml_J5_399 : Cond.methodLink RJ5 399 yJ0_getBytes_840e7 ∈ hGW := hgw 1390 (by decide +kernel) (by decide +kernel)
theorem kin_J0_getBytes_840e7 : Cond.instanceMethod yJ0_getBytes_840e7 ∈ hGW := hgw 1391 (by decide +kernel) (by decide +kernel)
theorem kse_J0_J0_getBytes_840e7_J0_getBytes_840e7 : Cond.selects RJ0 yJ0_getBytes_840e7 yJ0_getBytes_840e7 ∈ hGW := hgw 1392 (by decide +kernel) (by decide +kernel)
theorem kco_J0_getBytes_840e7 : Cond.code yJ0_getBytes_840e7 cJ0_getBytes_840e7 4 (Option.none : Option Jvm.ClassFile.FieldType) ∈ hGW := hgw 1393 (by decide +kernel) (by decide +kernel)
theorem kml_J0_212 : Cond.methodLink RJ0 212 ⟨"java/lang/System", "arraycopy", "(Ljava/lang/Object;ILjava/lang/Object;II)V"⟩ ∈ hGW := hgw 1394 (by decide +kernel) (by decide +kernel)
theorem kml_J0_106 : Cond.methodLink RJ0 106 yJ1_inflate_0e8fd ∈ hGW := hgw 1395 (by decide +kernel) (by decide +kernel)
theorem kml_L_55 : Cond.methodLink RL 55 yJ4_append_bf812 ∈ hGW := hgw 1396 (by decide +kernel) (by decide +kernel)
theorem kin_J4_append_bf812 : Cond.instanceMethod yJ4_append_bf812 ∈ hGW := hgw 1397 (by decide +kernel) (by decide +kernel)
theorem kse_J4_J4_append_bf812_J4_append_bf812 : Cond.selects RJ4 yJ4_append_bf812 yJ4_append_bf812 ∈ hGW := hgw 1398 (by decide +kernel) (by decide +kernel)
theorem kco_J4_append_bf812 : Cond.code yJ4_append_bf812 cJ4_append_bf812 2 (Option.some (Jvm.ClassFile.FieldType.object "java/lang/StringBuilder")) ∈ hGW := hgw 1399 (by decide +kernel) (by decide +kernel)
theorem kml_J4_53 : Cond.methodLink RJ4 53 yJ5_append_c97b9 ∈ hGW := hgw 1400 (by decide +kernel) (by decide +kernel)
theorem kin_J5_append_c97b9 : Cond.instanceMethod yJ5_append_c97b9 ∈ hGW := hgw 1401 (by decide +kernel) (by decide +kernel)
theorem kco_J5_append_c97b9 : Cond.code yJ5_append_c97b9 cJ5_append_c97b9 4 (Option.some (Jvm.ClassFile.FieldType.object "java/lang/AbstractStringBuilder")) ∈ hGW := hgw 1402 (by decide +kernel) (by decide +kernel)
theorem kml_J5_245 : Cond.methodLink RJ5 245 yJ6_stringSize_0f7a4 ∈ hGW := hgw 1403 (by decide +kernel) (by decide +kernel)
theorem kst_J6_stringSize_0f7a4 : Cond.static yJ6_stringSize_0f7a4 ∈ hGW := hgw 1404 (by decide +kernel) (by decide +kernel)
theorem kco_J6_stringSize_0f7a4 : Cond.code yJ6_stringSize_0f7a4 cJ6_stringSize_0f7a4 4 (Option.some Jvm.ClassFile.FieldType.int) ∈ hGW := hgw 1405 (by decide +kernel) (by decide +kernel)
theorem kml_J5_248 : Cond.methodLink RJ5 248 yJ6_getChars_ba4f3 ∈ hGW := hgw 1406 (by decide +kernel) (by decide +kernel)
theorem kst_J6_getChars_ba4f3 : Cond.static yJ6_getChars_ba4f3 ∈ hGW := hgw 1407 (by decide +kernel) (by decide +kernel)
theorem kco_J6_getChars_ba4f3 : Cond.code yJ6_getChars_ba4f3 cJ6_getChars_ba4f3 7 (Option.some Jvm.ClassFile.FieldType.int) ∈ hGW := hgw 1408 (by decide +kernel) (by decide +kernel)
theorem kfl_J6_83 : Cond.fieldLink RJ6 83 RJ6 "DigitOnes" "[B" ∈ hGW := hgw 1409 (by decide +kernel) (by decide +kernel)
theorem kfl_J6_87 : Cond.fieldLink RJ6 87 RJ6 "DigitTens" "[B" ∈ hGW := hgw 1411 (by decide +kernel) (by decide +kernel)
theorem kml_J5_251 : Cond.methodLink RJ5 251 yJ2_getChars_46870 ∈ hGW := hgw 1413 (by decide +kernel) (by decide +kernel)
theorem kst_J2_getChars_46870 : Cond.static yJ2_getChars_46870 ∈ hGW := hgw 1414 (by decide +kernel) (by decide +kernel)
theorem kco_J2_getChars_46870 : Cond.code yJ2_getChars_46870 cJ2_getChars_46870 5 (Option.some Jvm.ClassFile.FieldType.int) ∈ hGW := hgw 1415 (by decide +kernel) (by decide +kernel)
theorem kml_J2_393 : Cond.methodLink RJ2 393 yJ2_getChars_ba4f3 ∈ hGW := hgw 1416 (by decide +kernel) (by decide +kernel)
theorem kst_J2_getChars_ba4f3 : Cond.static yJ2_getChars_ba4f3 ∈ hGW := hgw 1417 (by decide +kernel) (by decide +kernel)
theorem kco_J2_getChars_ba4f3 : Cond.code yJ2_getChars_ba4f3 cJ2_getChars_ba4f3 7 (Option.some Jvm.ClassFile.FieldType.int) ∈ hGW := hgw 1418 (by decide +kernel) (by decide +kernel)
theorem kfl_J2_403 : Cond.fieldLink RJ2 403 RJ6 "DigitOnes" "[B" ∈ hGW := hgw 1419 (by decide +kernel) (by decide +kernel)
theorem kfl_J2_407 : Cond.fieldLink RJ2 407 RJ6 "DigitTens" "[B" ∈ hGW := hgw 1420 (by decide +kernel) (by decide +kernel)
theorem kml_L_64 : Cond.methodLink RL 64 yJ4_toString_0e30d ∈ hGW := hgw 1424 (by decide +kernel) (by decide +kernel)
theorem kin_J4_toString_0e30d : Cond.instanceMethod yJ4_toString_0e30d ∈ hGW := hgw 1425 (by decide +kernel) (by decide +kernel)
theorem kse_J4_J4_toString_0e30d_J4_toString_0e30d : Cond.selects RJ4 yJ4_toString_0e30d yJ4_toString_0e30d ∈ hGW := hgw 1426 (by decide +kernel) (by decide +kernel)
theorem kco_J4_toString_0e30d : Cond.code yJ4_toString_0e30d cJ4_toString_0e30d 1 (Option.some (Jvm.ClassFile.FieldType.object "java/lang/String")) ∈ hGW := hgw 1427 (by decide +kernel) (by decide +kernel)
theorem kcl_J4_18 : Cond.classLink RJ4 18 RJ0 ∈ hGW := hgw 1428 (by decide +kernel) (by decide +kernel)
theorem kinst_J0 : Cond.instantiable RJ0 4 ∈ hGW := hgw 1429 (by decide +kernel) (by decide +kernel)
theorem kml_J4_137 : Cond.methodLink RJ4 137 yJ0_init_81219 ∈ hGW := hgw 1430 (by decide +kernel) (by decide +kernel)
theorem kin_J0_init_81219 : Cond.instanceMethod yJ0_init_81219 ∈ hGW := hgw 1431 (by decide +kernel) (by decide +kernel)
theorem kco_J0_init_81219 : Cond.code yJ0_init_81219 cJ0_init_81219 2 (Option.none : Option Jvm.ClassFile.FieldType) ∈ hGW := hgw 1432 (by decide +kernel) (by decide +kernel)
theorem kml_J0_489 : Cond.methodLink RJ0 489 yJ0_init_db425 ∈ hGW := hgw 1433 (by decide +kernel) (by decide +kernel)
theorem kin_J0_init_db425 : Cond.instanceMethod yJ0_init_db425 ∈ hGW := hgw 1434 (by decide +kernel) (by decide +kernel)
theorem kco_J0_init_db425 : Cond.code yJ0_init_db425 cJ0_init_db425 5 (Option.none : Option Jvm.ClassFile.FieldType) ∈ hGW := hgw 1435 (by decide +kernel) (by decide +kernel)
theorem kml_J0_1 : Cond.methodLink RJ0 1 ⟨"java/lang/Object", "<init>", "()V"⟩ ∈ hGW := hgw 1436 (by decide +kernel) (by decide +kernel)
theorem kml_J0_552 : Cond.methodLink RJ0 552 yJ5_getValue_6d5f1 ∈ hGW := hgw 1437 (by decide +kernel) (by decide +kernel)
theorem kin_J5_getValue_6d5f1 : Cond.instanceMethod yJ5_getValue_6d5f1 ∈ hGW := hgw 1438 (by decide +kernel) (by decide +kernel)
theorem ksm_J5_getValue___B : Cond.sameMethod RJ5 RJ5 "getValue" "()[B" ∈ hGW := hgw 1439 (by decide +kernel) (by decide +kernel)
theorem kse_J4_J5_getValue_6d5f1_J5_getValue_6d5f1 : Cond.selects RJ4 yJ5_getValue_6d5f1 yJ5_getValue_6d5f1 ∈ hGW := hgw 1440 (by decide +kernel) (by decide +kernel)
theorem kco_J5_getValue_6d5f1 : Cond.code yJ5_getValue_6d5f1 cJ5_getValue_6d5f1 1 (Option.some (Jvm.ClassFile.FieldType.array Jvm.ClassFile.FieldType.byte)) ∈ hGW := hgw 1441 (by decide +kernel) (by decide +kernel)
theorem kml_J0_549 : Cond.methodLink RJ0 549 yJ5_length_8abf5 ∈ hGW := hgw 1442 (by decide +kernel) (by decide +kernel)
theorem kin_J5_length_8abf5 : Cond.instanceMethod yJ5_length_8abf5 ∈ hGW := hgw 1443 (by decide +kernel) (by decide +kernel)
theorem ksm_J5_length__I : Cond.sameMethod RJ5 RJ5 "length" "()I" ∈ hGW := hgw 1444 (by decide +kernel) (by decide +kernel)
theorem kse_J4_J5_length_8abf5_J4_length_8abf5 : Cond.selects RJ4 yJ5_length_8abf5 yJ4_length_8abf5 ∈ hGW := hgw 1445 (by decide +kernel) (by decide +kernel)
theorem kin_J4_length_8abf5 : Cond.instanceMethod yJ4_length_8abf5 ∈ hGW := hgw 1446 (by decide +kernel) (by decide +kernel)
theorem kco_J4_length_8abf5 : Cond.code yJ4_length_8abf5 cJ4_length_8abf5 1 (Option.some Jvm.ClassFile.FieldType.int) ∈ hGW := hgw 1447 (by decide +kernel) (by decide +kernel)
theorem kml_J4_343 : Cond.methodLink RJ4 343 yJ5_length_8abf5 ∈ hGW := hgw 1448 (by decide +kernel) (by decide +kernel)
theorem kco_J5_length_8abf5 : Cond.code yJ5_length_8abf5 cJ5_length_8abf5 1 (Option.some Jvm.ClassFile.FieldType.int) ∈ hGW := hgw 1449 (by decide +kernel) (by decide +kernel)
theorem kml_J0_1047 : Cond.methodLink RJ0 1047 yJ5_isLatin1_aae02 ∈ hGW := hgw 1450 (by decide +kernel) (by decide +kernel)
theorem kml_J0_54 : Cond.methodLink RJ0 54 yJ7_copyOfRange_39247 ∈ hGW := hgw 1451 (by decide +kernel) (by decide +kernel)
theorem kst_J7_copyOfRange_39247 : Cond.static yJ7_copyOfRange_39247 ∈ hGW := hgw 1452 (by decide +kernel) (by decide +kernel)
theorem kco_J7_copyOfRange_39247 : Cond.code yJ7_copyOfRange_39247 cJ7_copyOfRange_39247 3 (Option.some (Jvm.ClassFile.FieldType.array Jvm.ClassFile.FieldType.byte)) ∈ hGW := hgw 1453 (by decide +kernel) (by decide +kernel)
theorem kml_J7_339 : Cond.methodLink RJ7 339 yJ7_copyOfRangeByte_39247 ∈ hGW := hgw 1454 (by decide +kernel) (by decide +kernel)
theorem kst_J7_copyOfRangeByte_39247 : Cond.static yJ7_copyOfRangeByte_39247 ∈ hGW := hgw 1455 (by decide +kernel) (by decide +kernel)
theorem kco_J7_copyOfRangeByte_39247 : Cond.code yJ7_copyOfRangeByte_39247 cJ7_copyOfRangeByte_39247 5 (Option.some (Jvm.ClassFile.FieldType.array Jvm.ClassFile.FieldType.byte)) ∈ hGW := hgw 1456 (by decide +kernel) (by decide +kernel)
theorem kml_J7_343 : Cond.methodLink RJ7 343 yJ7_checkLength_df160 ∈ hGW := hgw 1457 (by decide +kernel) (by decide +kernel)
theorem kst_J7_checkLength_df160 : Cond.static yJ7_checkLength_df160 ∈ hGW := hgw 1458 (by decide +kernel) (by decide +kernel)
theorem kco_J7_checkLength_df160 : Cond.code yJ7_checkLength_df160 cJ7_checkLength_df160 2 (Option.none : Option Jvm.ClassFile.FieldType) ∈ hGW := hgw 1459 (by decide +kernel) (by decide +kernel)
theorem kml_J0_1051 : Cond.methodLink RJ0 1051 yJ2_compress_39247 ∈ hGW := hgw 1460 (by decide +kernel) (by decide +kernel)
theorem kst_J2_compress_39247 : Cond.static yJ2_compress_39247 ∈ hGW := hgw 1461 (by decide +kernel) (by decide +kernel)
theorem kco_J2_compress_39247 : Cond.code yJ2_compress_39247 cJ2_compress_39247 6 (Option.some (Jvm.ClassFile.FieldType.array Jvm.ClassFile.FieldType.byte)) ∈ hGW := hgw 1462 (by decide +kernel) (by decide +kernel)
theorem kml_J2_123 : Cond.methodLink RJ2 123 yJ2_compress_5af95 ∈ hGW := hgw 1463 (by decide +kernel) (by decide +kernel)
theorem kst_J2_compress_5af95 : Cond.static yJ2_compress_5af95 ∈ hGW := hgw 1464 (by decide +kernel) (by decide +kernel)
theorem kco_J2_compress_5af95 : Cond.code yJ2_compress_5af95 cJ2_compress_5af95 7 (Option.some Jvm.ClassFile.FieldType.int) ∈ hGW := hgw 1465 (by decide +kernel) (by decide +kernel)
theorem kml_J2_126 : Cond.methodLink RJ2 126 yJ7_copyOfRange_39247 ∈ hGW := hgw 1466 (by decide +kernel) (by decide +kernel)
theorem kml_J0_47 : Cond.methodLink RJ0 47 yJ2_coderFromArrayLen_85cad ∈ hGW := hgw 1467 (by decide +kernel) (by decide +kernel)
theorem kst_J2_coderFromArrayLen_85cad : Cond.static yJ2_coderFromArrayLen_85cad ∈ hGW := hgw 1468 (by decide +kernel) (by decide +kernel)
theorem kco_J2_coderFromArrayLen_85cad : Cond.code yJ2_coderFromArrayLen_85cad cJ2_coderFromArrayLen_85cad 2 (Option.some Jvm.ClassFile.FieldType.byte) ∈ hGW := hgw 1469 (by decide +kernel) (by decide +kernel)
theorem kfl_J0_9 : Cond.fieldLink RJ0 9 RJ0 "value" "[B" ∈ hGW := hgw 1470 (by decide +kernel) (by decide +kernel)
theorem kfl_J0_15 : Cond.fieldLink RJ0 15 RJ0 "coder" "B" ∈ hGW := hgw 1471 (by decide +kernel) (by decide +kernel)
theorem kml_L_141 : Cond.methodLink RL 141 yL_play ∈ hGW := hgw 1495 (by decide +kernel) (by decide +kernel)
theorem kst_L_play : Cond.static yL_play ∈ hGW := hgw 1496 (by decide +kernel) (by decide +kernel)
theorem kcl_L_111 : Cond.classLink RL 111 "java/lang/IllegalStateException" ∈ hGW := hgw 1498 (by decide +kernel) (by decide +kernel)
theorem kcI_L_96 : Cond.constant RL 96 (100000 : Int32) ∈ hGW := hgw 1499 (by decide +kernel) (by decide +kernel)
theorem kml_L_97 : Cond.methodLink RL 97 yX11_open ∈ hGW := hgw 1500 (by decide +kernel) (by decide +kernel)
theorem kin_X11_open : Cond.instanceMethod yX11_open ∈ hGW := hgw 1501 (by decide +kernel) (by decide +kernel)
theorem kse_X11_X11_open_X11_open : Cond.selects RX11 yX11_open yX11_open ∈ hGW := hgw 1502 (by decide +kernel) (by decide +kernel)
theorem kco_X11_open : Cond.code yX11_open cX11_open 4 (Option.some Jvm.ClassFile.FieldType.int) ∈ hGW := hgw 1503 (by decide +kernel) (by decide +kernel)
theorem kinst_X3 : Cond.instantiable RX3 7 ∈ hGW := hgw 1506 (by decide +kernel) (by decide +kernel)
theorem kml_X11_183 : Cond.methodLink RX11 183 yX3_init ∈ hGW := hgw 1507 (by decide +kernel) (by decide +kernel)
theorem kin_X3_init : Cond.instanceMethod yX3_init ∈ hGW := hgw 1508 (by decide +kernel) (by decide +kernel)
theorem kco_X3_init : Cond.code yX3_init cX3_init 4 (Option.none : Option Jvm.ClassFile.FieldType) ∈ hGW := hgw 1509 (by decide +kernel) (by decide +kernel)
theorem kml_X3_3 : Cond.methodLink RX3 3 ⟨"java/lang/Object", "<init>", "()V"⟩ ∈ hGW := hgw 1510 (by decide +kernel) (by decide +kernel)
theorem kfl_X3_26 : Cond.fieldLink RX3 26 RX3 "year" "I" ∈ hGW := hgw 1511 (by decide +kernel) (by decide +kernel)
theorem kfl_X1_49 : Cond.fieldLink RX1 49 RX3 "year" "I" ∈ hGW := hgw 1512 (by decide +kernel) (by decide +kernel)
theorem kfl_X5_82 : Cond.fieldLink RX5 82 RX3 "year" "I" ∈ hGW := hgw 1513 (by decide +kernel) (by decide +kernel)
theorem kfl_X11_224 : Cond.fieldLink RX11 224 RX3 "year" "I" ∈ hGW := hgw 1514 (by decide +kernel) (by decide +kernel)
theorem kfl_X3_29 : Cond.fieldLink RX3 29 RX3 "line" "I" ∈ hGW := hgw 1515 (by decide +kernel) (by decide +kernel)
theorem kfl_X5_77 : Cond.fieldLink RX5 77 RX3 "line" "I" ∈ hGW := hgw 1516 (by decide +kernel) (by decide +kernel)
theorem kfl_X11_369 : Cond.fieldLink RX11 369 RX3 "line" "I" ∈ hGW := hgw 1517 (by decide +kernel) (by decide +kernel)
theorem kfl_X3_9 : Cond.fieldLink RX3 9 RX3 "paid" "I" ∈ hGW := hgw 1518 (by decide +kernel) (by decide +kernel)
theorem kfl_X11_202 : Cond.fieldLink RX11 202 RX3 "paid" "I" ∈ hGW := hgw 1519 (by decide +kernel) (by decide +kernel)
theorem kfl_X3_32 : Cond.fieldLink RX3 32 RX3 "reserve" "I" ∈ hGW := hgw 1520 (by decide +kernel) (by decide +kernel)
theorem kfl_X11_207 : Cond.fieldLink RX11 207 RX3 "reserve" "I" ∈ hGW := hgw 1521 (by decide +kernel) (by decide +kernel)
theorem kfl_X3_15 : Cond.fieldLink RX3 15 RX3 "isOpen" "Z" ∈ hGW := hgw 1522 (by decide +kernel) (by decide +kernel)
theorem kfl_X11_198 : Cond.fieldLink RX11 198 RX3 "isOpen" "Z" ∈ hGW := hgw 1523 (by decide +kernel) (by decide +kernel)
theorem kfl_X3_19 : Cond.fieldLink RX3 19 RX3 "paidAt" "[I" ∈ hGW := hgw 1524 (by decide +kernel) (by decide +kernel)
theorem kfl_X3_23 : Cond.fieldLink RX3 23 RX3 "incurredAt" "[I" ∈ hGW := hgw 1525 (by decide +kernel) (by decide +kernel)
theorem kml_L_101 : Cond.methodLink RL 101 ⟨"java/lang/System", "arraycopy", "(Ljava/lang/Object;ILjava/lang/Object;II)V"⟩ ∈ hGW := hgw 1541 (by decide +kernel) (by decide +kernel)
theorem kcI_L_107 : Cond.constant RL 107 (1000000 : Int32) ∈ hGW := hgw 1542 (by decide +kernel) (by decide +kernel)
theorem kml_L_108 : Cond.methodLink RL 108 yX11_pay ∈ hGW := hgw 1543 (by decide +kernel) (by decide +kernel)
theorem kin_X11_pay : Cond.instanceMethod yX11_pay ∈ hGW := hgw 1544 (by decide +kernel) (by decide +kernel)
theorem kse_X11_X11_pay_X11_pay : Cond.selects RX11 yX11_pay yX11_pay ∈ hGW := hgw 1545 (by decide +kernel) (by decide +kernel)
theorem kco_X11_pay : Cond.code yX11_pay cX11_pay 4 (Option.some Jvm.ClassFile.FieldType.int) ∈ hGW := hgw 1546 (by decide +kernel) (by decide +kernel)
theorem kml_X11_210 : Cond.methodLink RX11 210 Lib.Math.max.name ∈ hGW := hgw 1550 (by decide +kernel) (by decide +kernel)
theorem kml_L_113 : Cond.methodLink RL 113 Lib.Math.max.name ∈ hGW := hgw 1551 (by decide +kernel) (by decide +kernel)
theorem kcI_L_118 : Cond.constant RL 118 (120000 : Int32) ∈ hGW := hgw 1552 (by decide +kernel) (by decide +kernel)
theorem kml_L_119 : Cond.methodLink RL 119 yX11_setReserve ∈ hGW := hgw 1553 (by decide +kernel) (by decide +kernel)
theorem kin_X11_setReserve : Cond.instanceMethod yX11_setReserve ∈ hGW := hgw 1554 (by decide +kernel) (by decide +kernel)
theorem kse_X11_X11_setReserve_X11_setReserve : Cond.selects RX11 yX11_setReserve yX11_setReserve ∈ hGW := hgw 1555 (by decide +kernel) (by decide +kernel)
theorem kco_X11_setReserve : Cond.code yX11_setReserve cX11_setReserve 5 (Option.some Jvm.ClassFile.FieldType.int) ∈ hGW := hgw 1556 (by decide +kernel) (by decide +kernel)
theorem kml_L_122 : Cond.methodLink RL 122 yX11_close ∈ hGW := hgw 1558 (by decide +kernel) (by decide +kernel)
theorem kin_X11_close : Cond.instanceMethod yX11_close ∈ hGW := hgw 1559 (by decide +kernel) (by decide +kernel)
theorem kse_X11_X11_close_X11_close : Cond.selects RX11 yX11_close yX11_close ∈ hGW := hgw 1560 (by decide +kernel) (by decide +kernel)
theorem kco_X11_close : Cond.code yX11_close cX11_close 5 (Option.some Jvm.ClassFile.FieldType.int) ∈ hGW := hgw 1561 (by decide +kernel) (by decide +kernel)
theorem kml_L_126 : Cond.methodLink RL 126 yX11_nextYear ∈ hGW := hgw 1562 (by decide +kernel) (by decide +kernel)
theorem kin_X11_nextYear : Cond.instanceMethod yX11_nextYear ∈ hGW := hgw 1563 (by decide +kernel) (by decide +kernel)
theorem kse_X11_X11_nextYear_X11_nextYear : Cond.selects RX11 yX11_nextYear yX11_nextYear ∈ hGW := hgw 1564 (by decide +kernel) (by decide +kernel)
theorem kco_X11_nextYear : Cond.code yX11_nextYear cX11_nextYear 2 (Option.some Jvm.ClassFile.FieldType.int) ∈ hGW := hgw 1565 (by decide +kernel) (by decide +kernel)
theorem kml_X11_244 : Cond.methodLink RX11 244 yX3_writeDown ∈ hGW := hgw 1567 (by decide +kernel) (by decide +kernel)
theorem kin_X3_writeDown : Cond.instanceMethod yX3_writeDown ∈ hGW := hgw 1568 (by decide +kernel) (by decide +kernel)
theorem kse_X3_X3_writeDown_X3_writeDown : Cond.selects RX3 yX3_writeDown yX3_writeDown ∈ hGW := hgw 1569 (by decide +kernel) (by decide +kernel)
theorem kco_X3_writeDown : Cond.code yX3_writeDown cX3_writeDown 3 (Option.none : Option Jvm.ClassFile.FieldType) ∈ hGW := hgw 1570 (by decide +kernel) (by decide +kernel)
theorem kml_L_156 : Cond.methodLink RL 156 Lib.MathLoose.max_long.x ∈ hGW := hgw 1571 (by decide +kernel) (by decide +kernel)
theorem ksm_Zjava_lang_Throwable_fillInStackTrace_I_Ljava_lang_Throwable_ : Cond.sameMethod "java/lang/Throwable" "java/lang/Throwable" "fillInStackTrace" "(I)Ljava/lang/Throwable;" ∈ hGW := hgw 1572 (by decide +kernel) (by decide +kernel)
theorem ksm_J5_append_Ljava_lang_String__Ljava_lang_AbstractStringBuilder_ : Cond.sameMethod RJ5 RJ5 "append" "(Ljava/lang/String;)Ljava/lang/AbstractStringBuilder;" ∈ hGW := hgw 1573 (by decide +kernel) (by decide +kernel)
theorem ksm_J5_appendNull__Ljava_lang_AbstractStringBuilder_ : Cond.sameMethod RJ5 RJ5 "appendNull" "()Ljava/lang/AbstractStringBuilder;" ∈ hGW := hgw 1574 (by decide +kernel) (by decide +kernel)
theorem ksm_J5_ensureCapacityInternal_I_V : Cond.sameMethod RJ5 RJ5 "ensureCapacityInternal" "(I)V" ∈ hGW := hgw 1575 (by decide +kernel) (by decide +kernel)
theorem ksm_J5_newCapacity_I_I : Cond.sameMethod RJ5 RJ5 "newCapacity" "(I)I" ∈ hGW := hgw 1576 (by decide +kernel) (by decide +kernel)
theorem ksm_J5_putStringAt_ILjava_lang_String__V : Cond.sameMethod RJ5 RJ5 "putStringAt" "(ILjava/lang/String;)V" ∈ hGW := hgw 1577 (by decide +kernel) (by decide +kernel)
theorem ksm_J5_inflateIfNeededFor_Ljava_lang_String__V : Cond.sameMethod RJ5 RJ5 "inflateIfNeededFor" "(Ljava/lang/String;)V" ∈ hGW := hgw 1578 (by decide +kernel) (by decide +kernel)
theorem ksm_J5_inflate__V : Cond.sameMethod RJ5 RJ5 "inflate" "()V" ∈ hGW := hgw 1579 (by decide +kernel) (by decide +kernel)
theorem ksm_J5_append_I_Ljava_lang_AbstractStringBuilder_ : Cond.sameMethod RJ5 RJ5 "append" "(I)Ljava/lang/AbstractStringBuilder;" ∈ hGW := hgw 1580 (by decide +kernel) (by decide +kernel)
theorem ksm_Z_Ljava_lang_Object__getClass__Ljava_lang_Class_ : Cond.sameMethod "[Ljava/lang/Object;" "java/lang/Object" "getClass" "()Ljava/lang/Class;" ∈ hGW := hgw 1599 (by decide +kernel) (by decide +kernel)
theorem kse_Z_Ljava_lang_Object__Zjava_lang_Object_getClass___Ljava_lang_Class__Zjava_lang_Object_getClass___Ljava_lang_Class_ : Cond.selects "[Ljava/lang/Object;" ⟨"java/lang/Object", "getClass", "()Ljava/lang/Class;"⟩ ⟨"java/lang/Object", "getClass", "()Ljava/lang/Class;"⟩ ∈ hGW := hgw 1600 (by decide +kernel) (by decide +kernel)
theorem kfl_X9_89 : Cond.fieldLink RX9 89 RX7 "text" "Ljava/lang/String;" ∈ hGW := hgw 1609 (by decide +kernel) (by decide +kernel)
theorem kfl_Jx29ce0_7 : Cond.fieldLink RJx29ce0 7 RJx29ce0 "ordinal" "I" ∈ hGW := hgw 1610 (by decide +kernel) (by decide +kernel)
theorem kfl_X4_31 : Cond.fieldLink RX4 31 RX7 "operands" "I" ∈ hGW := hgw 1611 (by decide +kernel) (by decide +kernel)
theorem hin_J0 : ∀ w ∈ u_ws RJ0 TJ0 4, w ∈ hGW := by
  intro w hw
  obtain ⟨k, hk, rfl⟩ := List.mem_map.mp hw
  have hk := List.mem_range.mp hk
  match k, hk with
  | 0, _ => exact hgw 1472 (by decide +kernel) (by decide +kernel)
  | 1, _ => exact hgw 1474 (by decide +kernel) (by decide +kernel)
  | 2, _ => exact hgw 1476 (by decide +kernel) (by decide +kernel)
  | 3, _ => exact hgw 1478 (by decide +kernel) (by decide +kernel)
  | k + 4, h => omega
theorem hin_J4 : ∀ w ∈ u_ws RJ4 TJ4 4, w ∈ hGW := by
  intro w hw
  obtain ⟨k, hk, rfl⟩ := List.mem_map.mp hw
  have hk := List.mem_range.mp hk
  match k, hk with
  | 0, _ => exact hgw 1300 (by decide +kernel) (by decide +kernel)
  | 1, _ => exact hgw 1302 (by decide +kernel) (by decide +kernel)
  | 2, _ => exact hgw 1304 (by decide +kernel) (by decide +kernel)
  | 3, _ => exact hgw 1306 (by decide +kernel) (by decide +kernel)
  | k + 4, h => omega
theorem hin_Jx4a65c : ∀ w ∈ u_ws RJx4a65c TJx4a65c 3, w ∈ hGW := by
  intro w hw
  obtain ⟨k, hk, rfl⟩ := List.mem_map.mp hw
  have hk := List.mem_range.mp hk
  match k, hk with
  | 0, _ => exact hgw 212 (by decide +kernel) (by decide +kernel)
  | 1, _ => exact hgw 208 (by decide +kernel) (by decide +kernel)
  | 2, _ => exact hgw 210 (by decide +kernel) (by decide +kernel)
  | k + 3, h => omega
theorem hin_X1 : ∀ w ∈ u_ws RX1 TX1 6, w ∈ hGW := by
  intro w hw
  obtain ⟨k, hk, rfl⟩ := List.mem_map.mp hw
  have hk := List.mem_range.mp hk
  match k, hk with
  | 0, _ => exact hgw 231 (by decide +kernel) (by decide +kernel)
  | 1, _ => exact hgw 233 (by decide +kernel) (by decide +kernel)
  | 2, _ => exact hgw 235 (by decide +kernel) (by decide +kernel)
  | 3, _ => exact hgw 237 (by decide +kernel) (by decide +kernel)
  | 4, _ => exact hgw 239 (by decide +kernel) (by decide +kernel)
  | 5, _ => exact hgw 241 (by decide +kernel) (by decide +kernel)
  | k + 6, h => omega
theorem hin_X2 : ∀ w ∈ u_ws RX2 TX2 4, w ∈ hGW := by
  intro w hw
  obtain ⟨k, hk, rfl⟩ := List.mem_map.mp hw
  have hk := List.mem_range.mp hk
  match k, hk with
  | 0, _ => exact hgw 180 (by decide +kernel) (by decide +kernel)
  | 1, _ => exact hgw 182 (by decide +kernel) (by decide +kernel)
  | 2, _ => exact hgw 184 (by decide +kernel) (by decide +kernel)
  | 3, _ => exact hgw 186 (by decide +kernel) (by decide +kernel)
  | k + 4, h => omega
theorem hin_X3 : ∀ w ∈ u_ws RX3 TX3 7, w ∈ hGW := by
  intro w hw
  obtain ⟨k, hk, rfl⟩ := List.mem_map.mp hw
  have hk := List.mem_range.mp hk
  match k, hk with
  | 0, _ => exact hgw 1526 (by decide +kernel) (by decide +kernel)
  | 1, _ => exact hgw 1528 (by decide +kernel) (by decide +kernel)
  | 2, _ => exact hgw 1530 (by decide +kernel) (by decide +kernel)
  | 3, _ => exact hgw 1532 (by decide +kernel) (by decide +kernel)
  | 4, _ => exact hgw 1534 (by decide +kernel) (by decide +kernel)
  | 5, _ => exact hgw 1536 (by decide +kernel) (by decide +kernel)
  | 6, _ => exact hgw 1538 (by decide +kernel) (by decide +kernel)
  | k + 7, h => omega
theorem hin_X4 : ∀ w ∈ u_ws RX4 TX4 3, w ∈ hGW := by
  intro w hw
  obtain ⟨k, hk, rfl⟩ := List.mem_map.mp hw
  have hk := List.mem_range.mp hk
  match k, hk with
  | 0, _ => exact hgw 1000 (by decide +kernel) (by decide +kernel)
  | 1, _ => exact hgw 1002 (by decide +kernel) (by decide +kernel)
  | 2, _ => exact hgw 1004 (by decide +kernel) (by decide +kernel)
  | k + 3, h => omega
theorem hin_X5 : ∀ w ∈ u_ws RX5 TX5 14, w ∈ hGW := by
  intro w hw
  obtain ⟨k, hk, rfl⟩ := List.mem_map.mp hw
  have hk := List.mem_range.mp hk
  match k, hk with
  | 0, _ => exact hgw 1033 (by decide +kernel) (by decide +kernel)
  | 1, _ => exact hgw 1035 (by decide +kernel) (by decide +kernel)
  | 2, _ => exact hgw 1037 (by decide +kernel) (by decide +kernel)
  | 3, _ => exact hgw 1039 (by decide +kernel) (by decide +kernel)
  | 4, _ => exact hgw 1041 (by decide +kernel) (by decide +kernel)
  | 5, _ => exact hgw 1043 (by decide +kernel) (by decide +kernel)
  | 6, _ => exact hgw 1045 (by decide +kernel) (by decide +kernel)
  | 7, _ => exact hgw 1047 (by decide +kernel) (by decide +kernel)
  | 8, _ => exact hgw 1049 (by decide +kernel) (by decide +kernel)
  | 9, _ => exact hgw 1051 (by decide +kernel) (by decide +kernel)
  | 10, _ => exact hgw 1053 (by decide +kernel) (by decide +kernel)
  | 11, _ => exact hgw 1055 (by decide +kernel) (by decide +kernel)
  | 12, _ => exact hgw 1057 (by decide +kernel) (by decide +kernel)
  | 13, _ => exact hgw 1059 (by decide +kernel) (by decide +kernel)
  | k + 14, h => omega
theorem hin_X6 : ∀ w ∈ u_ws RX6 TX6 6, w ∈ hGW := by
  intro w hw
  obtain ⟨k, hk, rfl⟩ := List.mem_map.mp hw
  have hk := List.mem_range.mp hk
  match k, hk with
  | 0, _ => exact hgw 157 (by decide +kernel) (by decide +kernel)
  | 1, _ => exact hgw 159 (by decide +kernel) (by decide +kernel)
  | 2, _ => exact hgw 161 (by decide +kernel) (by decide +kernel)
  | 3, _ => exact hgw 163 (by decide +kernel) (by decide +kernel)
  | 4, _ => exact hgw 165 (by decide +kernel) (by decide +kernel)
  | 5, _ => exact hgw 167 (by decide +kernel) (by decide +kernel)
  | k + 6, h => omega
theorem hin_X8 : ∀ w ∈ u_ws RX8 TX8 2, w ∈ hGW := by
  intro w hw
  obtain ⟨k, hk, rfl⟩ := List.mem_map.mp hw
  have hk := List.mem_range.mp hk
  match k, hk with
  | 0, _ => exact hgw 109 (by decide +kernel) (by decide +kernel)
  | 1, _ => exact hgw 111 (by decide +kernel) (by decide +kernel)
  | k + 2, h => omega
theorem hin_X9 : ∀ w ∈ u_ws RX9 TX9 5, w ∈ hGW := by
  intro w hw
  obtain ⟨k, hk, rfl⟩ := List.mem_map.mp hw
  have hk := List.mem_range.mp hk
  match k, hk with
  | 0, _ => exact hgw 129 (by decide +kernel) (by decide +kernel)
  | 1, _ => exact hgw 131 (by decide +kernel) (by decide +kernel)
  | 2, _ => exact hgw 133 (by decide +kernel) (by decide +kernel)
  | 3, _ => exact hgw 135 (by decide +kernel) (by decide +kernel)
  | 4, _ => exact hgw 137 (by decide +kernel) (by decide +kernel)
  | k + 5, h => omega
theorem hin_X10 : ∀ w ∈ u_ws RX10 TX10 2, w ∈ hGW := by
  intro w hw
  obtain ⟨k, hk, rfl⟩ := List.mem_map.mp hw
  have hk := List.mem_range.mp hk
  match k, hk with
  | 0, _ => exact hgw 255 (by decide +kernel) (by decide +kernel)
  | 1, _ => exact hgw 257 (by decide +kernel) (by decide +kernel)
  | k + 2, h => omega
theorem hin_X11 : ∀ w ∈ u_ws RX11 TX11 15, w ∈ hGW := by
  intro w hw
  obtain ⟨k, hk, rfl⟩ := List.mem_map.mp hw
  have hk := List.mem_range.mp hk
  match k, hk with
  | 0, _ => exact hgw 275 (by decide +kernel) (by decide +kernel)
  | 1, _ => exact hgw 277 (by decide +kernel) (by decide +kernel)
  | 2, _ => exact hgw 279 (by decide +kernel) (by decide +kernel)
  | 3, _ => exact hgw 281 (by decide +kernel) (by decide +kernel)
  | 4, _ => exact hgw 283 (by decide +kernel) (by decide +kernel)
  | 5, _ => exact hgw 285 (by decide +kernel) (by decide +kernel)
  | 6, _ => exact hgw 287 (by decide +kernel) (by decide +kernel)
  | 7, _ => exact hgw 289 (by decide +kernel) (by decide +kernel)
  | 8, _ => exact hgw 291 (by decide +kernel) (by decide +kernel)
  | 9, _ => exact hgw 293 (by decide +kernel) (by decide +kernel)
  | 10, _ => exact hgw 295 (by decide +kernel) (by decide +kernel)
  | 11, _ => exact hgw 297 (by decide +kernel) (by decide +kernel)
  | 12, _ => exact hgw 299 (by decide +kernel) (by decide +kernel)
  | 13, _ => exact hgw 301 (by decide +kernel) (by decide +kernel)
  | 14, _ => exact hgw 303 (by decide +kernel) (by decide +kernel)
  | k + 15, h => omega
end
section
-- THE HEAP AS A MAP: an address has a tag and what its cell holds; a contract speaks of the map
abbrev hG : Type := State × Nat × va_G × (Nat → ClassId)
abbrev hM : Type := Nat → Option (Nat × va_E)
def hU (G : hG) : State := G.1
def hB (G : hG) : Nat := G.1.heap.size
def hD (G : hG) : va_G := G.2.2.1
def hT (G : hG) : Nat → ClassId := G.2.2.2
def hA (G : hG) : Nat → Prop := fun q => hB G ≤ q
def hTys (T : Nat → ClassId) : List (ClassId × FieldType) := [(T 0, .int), (T 1, .byte), (T 2, .long), (T 3, .object "LossHouse$Sign"), (T 4, .object "LossHouse$Triangle"), (T 5, .array .int), (T 6, .object "java/lang/Object")]
def hK (G : hG) (U : State) : Prop := va_K (hD G) vwCl (hTys (hT G)) U
/-- what is known at the law's entry, kept for good -/
def hSt (G : hG) : Prop := (∀ w ∈ lw_tbl, w.before #[Value.ref G.2.1] (hU G) = true) ∧ (Jvm.Cond.and given_1 narrow_1).before #[Value.ref G.2.1] (hU G) = true ∧ hK G (hU G)
/-- the map M is what the heap H holds, above the law's start -/
def hH (G : hG) (M : hM) (H : Heap) : Prop := ∀ a t e, M a = some (t, e) → hB G ≤ a ∧ va_at (hD G) vwCl (a, e) H
/-- U comes of the law's start: its tables, and what lay below -/
def hR (G : hG) (U : State) : Prop := (hU G).WarmedH U.vm ∧ hB G ≤ U.heap.size ∧ ∀ a, a < hB G → U.heap[a]? = (hU G).heap[a]?
def hPc (G : hG) (M : hM) (as : List Value) : Array Value → State → Prop := fun v U => v = as.toArray ∧ hSt G ∧ hR G U ∧ hH G M U.heap
def hQ (G : hG) (post : Option Value → hM → Prop) : Array Value → State → Outcome → State → Prop := fun _ st oc t => (∃ v M', oc = .returned v ∧ post v M' ∧ hH G M' t.heap) ∧ va_F (hA G) st t
/-- a contract: from the map M it returns, with post of the answer and of the map behind it -/
def hCT (l : Launch) (G : hG) (y : MethodName) (cc : ByteArray) (maxL : Nat) (ret : Option FieldType) (rm : Room) (M : hM) (as : List Value) (post : Option Value → hM → Prop) : Prop :=
  Met l y (Cond.code y cc maxL ret :: hGW) rm (hPc G M as) (hQ G post) rm.cells rm.slots (hA G)
abbrev hRm (d c n : Nat) : Room := { frames := d, cells := c, slots := n, locals := 64 * d }
/-- where a method's body is walked -/
def hCX (G : hG) (p : Program) (s : State) (m : MethodId) (args : Array Value) (meth : Method) (c : Code) (cc : ByteArray) (maxL : Nat) (ret : Option FieldType) (own nm : String) : Prop :=
  p.tables.exec = Jvm.exec ∧ c.code = cc ∧ meth.sig.returnType = ret ∧ c.maxLocals = maxL ∧ s.vm.findClass own = some m.cls ∧ (∀ w ∈ hGW, w.before args s = true) ∧ meth.locks = false ∧ hK G s ∧ hSt G ∧ hR G s ∧ meth.name = nm
def hHS (G : hG) (M : hM) (s : State) (H : Heap) (locs : List Loc) : Prop := hH G M H ∧ va_S (hA G) s.heap H locs
def hup (M : hM) (a : Nat) (x : Nat × va_E) : hM := fun b => if b = a then some x else M b
theorem hup_eq {M : hM} {a : Nat} {x : Nat × va_E} : hup M a x a = some x := if_pos rfl
theorem hup_hup {M : hM} {a : Nat} {x y : Nat × va_E} : hup (hup M a x) a y = hup M a y := by
  funext b
  by_cases h : b = a
  · subst h; simp [hup]
  · simp [hup, h]
theorem hup_self {M : hM} {a : Nat} {x : Nat × va_E} (h : M a = some x) : hup M a x = M := by
  funext b
  by_cases hb : b = a
  · subst hb; simp [hup, h]
  · simp [hup, hb]
theorem hup_ne {M : hM} {a b : Nat} {x : Nat × va_E} (h : b ≠ a) : hup M a x b = M b := if_neg h
theorem hup_tag {M : hM} {a b t u : Nat} {x : Nat × va_E} {e f : va_E} (hb : M b = some (u, f)) (ha : M a = some (t, e)) (hne : u ≠ t) : hup M a x b = some (u, f) := by
  rw [hup_ne (fun h => ?_)]
  · exact hb
  · subst h
    rw [hb] at ha
    cases ha
    exact hne rfl
theorem hH.get {G : hG} {M : hM} {H : Heap} (h : hH G M H) {a t : Nat} {e : va_E} (he : M a = some (t, e)) : va_P (hD G) vwCl [(a, e)] H := fun k q hq => by
  have hk : k < 1 := (List.getElem?_eq_some_iff.mp hq).1
  rw [show k = 0 by omega] at hq
  cases hq
  exact (h a t e he).2
theorem hH.put {G : hG} {M : hM} {H H1 : Heap} (h : hH G M H) {a t : Nat} {e : va_E} {x : Nat × va_E} (he : M a = some (t, e)) (hx : va_at (hD G) vwCl (a, x.2) H1) (oq : ∀ q : Nat, q ≠ a → H1[q]? = H[q]?) : hH G (hup M a x) H1 := by
  intro b u f hf
  by_cases hb : b = a
  · subst hb
    rw [hup_eq] at hf
    cases hf
    exact ⟨(h b t e he).1, hx⟩
  · rw [hup_ne hb] at hf
    exact ⟨(h b u f hf).1, ((h b u f hf).2).kept (oq b hb)⟩
theorem hH.new {G : hG} {M : hM} {H H1 : Heap} (h : hH G M H) {x : Nat × va_E} (hB1 : hB G ≤ H.size) (hx : va_at (hD G) vwCl (H.size, x.2) H1) (oq : ∀ q : Nat, q < H.size → H1[q]? = H[q]?) : hH G (hup M H.size x) H1 := by
  intro b u f hf
  by_cases hb : b = H.size
  · subst hb
    rw [hup_eq] at hf
    cases hf
    exact ⟨hB1, hx⟩
  · rw [hup_ne hb] at hf
    exact ⟨(h b u f hf).1, ((h b u f hf).2).kept (oq b ((h b u f hf).2).lt)⟩
theorem hH.fresh {G : hG} {M : hM} {H : Heap} (h : hH G M H) {b u : Nat} {f : va_E} (hf : M b = some (u, f)) : b < H.size := ((h b u f hf).2).lt
theorem hH.none {G : hG} {M : hM} {H : Heap} (h : hH G M H) : M H.size = none := by
  cases hm : M H.size with
  | none => rfl
  | some x =>
    obtain ⟨u, f⟩ := x
    exact absurd (h.fresh hm) (Nat.lt_irrefl _)
theorem hR.step {G : hG} {s U : State} {H : Heap} {locs : List Loc} (hr : hR G s) (hS : va_S (hA G) s.heap H locs) (hU1 : U.heap = H) (hW : s.WarmedH U.vm) : hR G U := by
  refine ⟨State.WarmedH.trans hr.1 hW, ?_, fun a ha => ?_⟩
  · rw [hU1]; exact Nat.le_trans hr.2.1 hS.1
  · rw [hU1, hS.2.1 a (Nat.lt_of_lt_of_le ha hr.2.1) (Nat.not_le.mpr ha)]
    exact hr.2.2 a ha
theorem hPc.blind {G : hG} {M : hM} {as : List Value} : FrameBlind (hPc G M as) := fun a U g mk q => q
theorem hCT.of {l : Launch} {G : hG} {y : MethodName} {cc : ByteArray} {maxL : Nat} {ret : Option FieldType} {rm : Room} {M : hM} {as : List Value} {post : Option Value → hM → Prop} {own nm : String} (hy : plainName y.cls = true) (ho : y.cls = own) (hnm : y.name = nm) (hn : (lg_sl as).length ≤ maxL)
    (body : ∀ (p : Program) (e : Env) (s : State) (m : MethodId) (args : Array Value) (below : List Frame) (meth : Method) (c : Code) (ls : Array Slot), hCX G p s m args meth c cc maxL ret own nm → hHS G M s s.heap [] → lv_has ls maxL (lv_args 0 as) →
      W p l e rm s m args below meth c s.heap [] 0 0 (MQ below (hQ G post) args s rm.cells rm.slots (hA G)) (F0 m 0 ls [])) : hCT l G y cc maxL ret rm M as post := by
  refine Met.ofW (cc := cc) (maxL := maxL) (ret := ret) hy rfl ?_
  intro p e s m args below meth c s₁ B hml hv
  obtain ⟨rfl, hst, hr, hm⟩ := hv
  have hl := lv_entry as (n := maxL) hn
  rw [lg_entry_eq]
  generalize (lg_sl as ++ List.replicate (maxL - (lg_sl as).length) Slot.unset).toArray = ls at hl ⊢
  refine body p e s m _ below meth c ls ⟨B.exec, B.bytes, B.returns, hml, ?_, ?_, B.notSynchronized, ?_, hst, hr, ?_⟩ ⟨hm, va_S.rf⟩ hl
  · rw [← ho]; exact findClass_of_methodNamed B.named
  · intro w hw
    exact atoms_spec (ws := Cond.code y cc maxL ret :: hGW) B.pre w (List.mem_cons_of_mem _ hw)
  · exact va_K.moved hr.1.alike hst.2.2
  · rw [← hnm]; exact (name_of_methodNamed B.named B.method).1
def sMax (x y : Int32) : Int32 := if x < y then y else x
def sMin (x y : Int32) : Int32 := if y < x then y else x
def sMaxL (x y : Int64) : Int64 := if y < x then x else y
def sMinL (x y : Int64) : Int64 := if y < x then y else x
section HROWS
variable {G : hG} {p : Program} {l : Launch} {e : Env} {R : Room} {s : State} {m : MethodId} {args : Array Value} {below : List Frame} {meth : Method} {c : Code} {H : Heap} {locs : List Loc} {cells slots : Nat} {Q : State → Prop}
variable {cc : ByteArray} {maxL : Nat} {ret : Option FieldType} {own nm : String} {M : hM} {pc : Nat} {ls : Array Slot} {rest : List Value} {a t ci index n : Nat} {cA : ClassId}
theorem hHS.put {H1 : Heap} {e0 : va_E} {x : Nat × va_E} {k : Nat} (X : hCX G p s m args meth c cc maxL ret own nm) (Y : hHS G M s H locs) (he : M a = some (t, e0)) (hx : va_at (hD G) vwCl (a, x.2) H1) (z : H1.size = H.size) (oq : ∀ q : Nat, q ≠ a → H1[q]? = H[q]?) : hHS G (hup M a x) s H1 (locs ++ [⟨a, k⟩]) :=
  ⟨Y.1.put he hx oq, Y.2.put z oq (Y.1 a t e0 he).1⟩
theorem hHS.hA (X : hCX G p s m args meth c cc maxL ret own nm) (Y : hHS G M s H locs) : hB G ≤ H.size := Nat.le_trans X.2.2.2.2.2.2.2.2.2.1.2.1 Y.2.1
theorem h_get (X : hCX G p s m args meth c cc maxL ret own nm) (Y : hHS G M s H locs) {k N : Nat} {fs : List Value} {C : String} {T : u_T} {v : Value} (he : M a = some (t, .inr (ci, fs))) (hcl : vwCl[ci]? = some (C, T, N)) (hin : ∀ w ∈ u_ws C T N, w ∈ hGW) (hk : k < N) (hlink : Cond.fieldLink own index (T k).1 (T k).2.1 (T k).2.2.1 ∈ hGW) (hv : fs[k]? = some v) (hdg : decode cc pc = .ok (.getfield index, 3))
    (kk : W p l e R s m args below meth c H locs cells slots Q (F0 m (pc + 3) ls (v :: rest))) : W p l e R s m args below meth c H locs cells slots Q (F0 m pc ls (.ref a :: rest)) :=
  va_get (D := hD G) (cl := vwCl) X.1 X.2.1 X.2.2.2.2.2.1 hin X.2.2.2.2.1 X.2.2.2.2.2.2.2.1 (Y.1.get he) 0 rfl hcl k hk (X.2.2.2.2.2.1 _ hlink) (fun _ h => h) hv hdg kk
/-- a field that is named by another class than its own -/
theorem h_getS (X : hCX G p s m args meth c cc maxL ret own nm) (Y : hHS G M s H locs) {k N : Nat} {fs : List Value} {C ref : String} {T : u_T} {v : Value} (he : M a = some (t, .inr (ci, fs))) (hcl : vwCl[ci]? = some (C, T, N)) (hin : ∀ w ∈ u_ws C T N, w ∈ hGW) (hk : k < N) (hlink : Cond.fieldLink own index ref (T k).2.1 (T k).2.2.1 ∈ hGW) (hsame : Cond.sameField ref (T k).1 (T k).2.1 (T k).2.2.1 ∈ hGW) (hv : fs[k]? = some v) (hdg : decode cc pc = .ok (.getfield index, 3))
    (kk : W p l e R s m args below meth c H locs cells slots Q (F0 m (pc + 3) ls (v :: rest))) : W p l e R s m args below meth c H locs cells slots Q (F0 m pc ls (.ref a :: rest)) :=
  va_get (D := hD G) (cl := vwCl) X.1 X.2.1 X.2.2.2.2.2.1 hin X.2.2.2.2.1 X.2.2.2.2.2.2.2.1 (Y.1.get he) 0 rfl hcl k hk (X.2.2.2.2.2.1 _ hlink) (fun x h => u_same (X.2.2.2.2.2.1 _ hsame) x h) hv hdg kk
theorem h_put (X : hCX G p s m args meth c cc maxL ret own nm) (Y : hHS G M s H locs) {k N : Nat} {fs : List Value} {C : String} {T : u_T} {ty0 : Nat → FieldType} {v : Value} (he : M a = some (t, .inr (ci, fs))) (hcl : vwCl[ci]? = some (C, T, N)) (hin : ∀ w ∈ u_ws C T N, w ∈ hGW) (hty : ∀ k, k < N → parseFieldDescriptor (T k).2.2.1 = some (ty0 k)) (hnm : ∀ a, a < N → ∀ b, b < N → a ≠ b → (T a).2.1 ≠ (T b).2.1)
    (hk : k < N) (hlink : Cond.fieldLink own index (T k).1 (T k).2.1 (T k).2.2.1 ∈ hGW) (hfin : (T k).2.2.2 = false) (hn : narrow (ty0 k) v = v) (hfit : fits (ty0 k) v = true) (hl : k < fs.length) (hdg : decode cc pc = .ok (.putfield index, 3))
    (kk : ∀ (H1 : Heap) (locs1 : List Loc), hHS G (hup M a (t, .inr (ci, fs.set k v))) s H1 locs1 → W p l e R s m args below meth c H1 locs1 cells slots Q (F0 m (pc + 3) ls rest)) : W p l e R s m args below meth c H locs cells slots Q (F0 m pc ls (v :: .ref a :: rest)) := by
  have hK := X.2.2.2.2.2.2.2.1
  have hts := X.2.2.2.2.2.1
  have hap := va_apart (own := own) hts hin ty0 hty hnm hK hcl
  obtain ⟨-, r, h1, cell, q1, q2, q3, q4⟩ := Y.1 a t _ he
  have hr : r = (C, T, N) := Option.some.inj (h1.symm.trans hcl)
  subst hr
  obtain ⟨hS, hfc, kC, hkC, hkind⟩ := hK.1 ci _ hcl
  obtain ⟨cf, kf, fi, f, hi, hsl⟩ := hS k hk
  have hlay := hts _ (hin _ (u_in_lay hk))
  unfold u_lay at hlay
  rw [if_neg (by rw [hfin]; decide)] at hlay
  have hst := (u_facts hfc hkC (u_lays hts hin hk) hi).1
  have h6 := u_store hfc hkC hkind hlay hi (hty k hk) hn hfit
  refine W.putK X.1 X.2.1 (f := f) ⟨X.2.2.2.2.1, hts _ hlink, ⟨_, _, _, hi⟩, hst⟩ (by rw [q2]; exact h6) q1 q3 (by rw [hsl]; exact k2_hasslot (q4 k hk)) rfl rfl hdg fun H' e1 e2 e3 => ?_
  rw [hsl] at e1 ⊢
  exact kk H' _ (hHS.put X Y he ⟨_, hcl, t_OB.to (V := updV (vp_V fs) k v) ⟨_, e1, q2, q3, t_set q4 hap hk v⟩ (fun j _ => vp_updV_set hl v j)⟩ e2 e3)
/-- a final field, in the class's own constructor -/
theorem h_putF (X : hCX G p s m args meth c cc maxL ret own "<init>") (Y : hHS G M s H locs) {k N : Nat} {fs : List Value} {C : String} {T : u_T} {ty0 : Nat → FieldType} {v : Value} (he : M a = some (t, .inr (ci, fs))) (hcl : vwCl[ci]? = some (C, T, N)) (hin : ∀ w ∈ u_ws C T N, w ∈ hGW) (hty : ∀ k, k < N → parseFieldDescriptor (T k).2.2.1 = some (ty0 k)) (hnm : ∀ a, a < N → ∀ b, b < N → a ≠ b → (T a).2.1 ≠ (T b).2.1)
    (hk : k < N) (hlink : Cond.fieldLink own index (T k).1 (T k).2.1 (T k).2.2.1 ∈ hGW) (hfin : (T k).2.2.2 = true) (hdecl : (T k).1 = own) (hn : narrow (ty0 k) v = v) (hfit : fits (ty0 k) v = true) (hl : k < fs.length) (hdg : decode cc pc = .ok (.putfield index, 3))
    (kk : ∀ (H1 : Heap) (locs1 : List Loc), hHS G (hup M a (t, .inr (ci, fs.set k v))) s H1 locs1 → W p l e R s m args below meth c H1 locs1 cells slots Q (F0 m (pc + 3) ls rest)) : W p l e R s m args below meth c H locs cells slots Q (F0 m pc ls (v :: .ref a :: rest)) := by
  have hK := X.2.2.2.2.2.2.2.1
  have hts := X.2.2.2.2.2.1
  have hown := X.2.2.2.2.1
  have hap := va_apart (own := own) hts hin ty0 hty hnm hK hcl
  obtain ⟨-, r, h1, cell, q1, q2, q3, q4⟩ := Y.1 a t _ he
  have hr : r = (C, T, N) := Option.some.inj (h1.symm.trans hcl)
  subst hr
  obtain ⟨hS, hfc, kC, hkC, hkind⟩ := hK.1 ci _ hcl
  obtain ⟨cf, kf, fi, f, hi, hsl⟩ := hS k hk
  have hlay := hts _ (hin _ (u_in_lay hk))
  unfold u_lay at hlay
  rw [if_pos hfin] at hlay
  have hst := (u_facts hfc hkC (u_lays hts hin hk) hi).1
  have hcf : m.cls = cf := by
    obtain ⟨_, _, c', _, _, _, -, -, hf', -, -, -, hown2, -⟩ := Cond.laysFinal_spec hlay
    have e1 : c' = cf := by have := hi.symm.trans hf'; simp at this; exact this.1.symm
    rw [hdecl] at hown2
    rw [← e1]; exact Option.some.inj (hown.symm.trans hown2)
  have h6 := u_fits hfc hkC hkind (Or.inr hlay) hi (hty k hk) hn hfit
  refine W.putFinK X.1 X.2.1 hown (hts _ hlink) hi hst hcf X.2.2.2.2.2.2.2.2.2.2 (by rw [q2]; exact h6) q1 q3 (by rw [hsl]; exact k2_hasslot (q4 k hk)) rfl rfl hdg fun H' e1 e2 e3 => ?_
  rw [hsl] at e1 ⊢
  exact kk H' _ (hHS.put X Y he ⟨_, hcl, t_OB.to (V := updV (vp_V fs) k v) ⟨_, e1, q2, q3, t_set q4 hap hk v⟩ (fun j _ => vp_updV_set hl v j)⟩ e2 e3)
theorem h_ev {x y : Int32} (h : x = y) (kk : W p l e R s m args below meth c H locs cells slots Q (F0 m pc ls (.int y :: rest))) : W p l e R s m args below meth c H locs cells slots Q (F0 m pc ls (.int x :: rest)) := h ▸ kk
theorem h_rf {o : Option Nat} {q : Nat} (h : o = some q) (kk : W p l e R s m args below meth c H locs cells slots Q (F0 m pc ls (.ref q :: rest))) : W p l e R s m args below meth c H locs cells slots Q (F0 m pc ls (va_rf o :: rest)) := by
  subst h
  exact kk
/-- an array is read: its index a number below its length -/
theorem h_iald (X : hCX G p s m args meth c cc maxL ret own nm) (Y : hHS G M s H locs) {f : Nat → Int32} {i : Nat} (he : M a = some (t, .inl (hT G 0, n, .inl f))) (hi : i < n) (hn : n < 2 ^ 31) (hdg : decode cc pc = .ok (.iaload, 1))
    (kk : W p l e R s m args below meth c H locs cells slots Q (F0 m (pc + 1) ls (.int (f i) :: rest))) : W p l e R s m args below meth c H locs cells slots Q (F0 m pc ls (.int (nI i) :: .ref a :: rest)) := by
  refine va_iald (D := hD G) (cl := vwCl) X.1 X.2.1 X.2.2.2.2.2.2.2.1 (Y.1.get he) 0 0 rfl rfl (vp_in_nI hi hn) hdg ?_
  rw [nI_clamp (Nat.lt_trans hi hn)]
  exact kk
theorem h_bald (X : hCX G p s m args meth c cc maxL ret own nm) (Y : hHS G M s H locs) {f : Nat → Int32} {i : Nat} (he : M a = some (t, .inl (hT G 1, n, .inl f))) (hi : i < n) (hn : n < 2 ^ 31) (hdg : decode cc pc = .ok (.baload, 1))
    (kk : W p l e R s m args below meth c H locs cells slots Q (F0 m (pc + 1) ls (.int (f i) :: rest))) : W p l e R s m args below meth c H locs cells slots Q (F0 m pc ls (.int (nI i) :: .ref a :: rest)) := by
  refine va_bald (D := hD G) (cl := vwCl) X.1 X.2.1 X.2.2.2.2.2.2.2.1 (Y.1.get he) 0 1 rfl rfl (vp_in_nI hi hn) hdg ?_
  rw [nI_clamp (Nat.lt_trans hi hn)]
  exact kk
theorem h_lald (X : hCX G p s m args meth c cc maxL ret own nm) (Y : hHS G M s H locs) {f : Nat → Int64} {i : Nat} (he : M a = some (t, .inl (hT G 2, n, .inr (.inl f)))) (hi : i < n) (hn : n < 2 ^ 31) (hdg : decode cc pc = .ok (.laload, 1))
    (kk : W p l e R s m args below meth c H locs cells slots Q (F0 m (pc + 1) ls (.long (f i) :: rest))) : W p l e R s m args below meth c H locs cells slots Q (F0 m pc ls (.int (nI i) :: .ref a :: rest)) := by
  refine va_lald (D := hD G) (cl := vwCl) X.1 X.2.1 X.2.2.2.2.2.2.2.1 (Y.1.get he) 0 2 rfl rfl (vp_in_nI hi hn) hdg ?_
  rw [nI_clamp (Nat.lt_trans hi hn)]
  exact kk
/-- a row of references (all types but [[I) -/
theorem h_aald (X : hCX G p s m args meth c cc maxL ret own nm) (Y : hHS G M s H locs) (t0 : Nat) {C : String} {f : Nat → Option Nat} {i : Nat} (he : M a = some (t, .inl (cA, n, .inr (.inr (.inr (.inr f)))))) (ht : (hTys (hT G))[t0]? = some (cA, .object C)) (hi : i < n) (hn : n < 2 ^ 31) (hdg : decode cc pc = .ok (.aaload, 1))
    (kk : W p l e R s m args below meth c H locs cells slots Q (F0 m (pc + 1) ls (va_rf (f i) :: rest))) : W p l e R s m args below meth c H locs cells slots Q (F0 m pc ls (.int (nI i) :: .ref a :: rest)) := by
  refine va_aldq (D := hD G) (cl := vwCl) X.1 X.2.1 X.2.2.2.2.2.2.2.1 (Y.1.get he) 0 t0 rfl ht (vp_in_nI hi hn) hdg ?_
  rw [nI_clamp (Nat.lt_trans hi hn)]
  exact kk
theorem h_alen (X : hCX G p s m args meth c cc maxL ret own nm) (Y : hHS G M s H locs) (t0 : Nat) {ty : FieldType} {z : (Nat → Int32) ⊕ (Nat → Int64) ⊕ (Nat → UInt32) ⊕ (Nat → UInt64) ⊕ (Nat → Option Nat)} (he : M a = some (t, .inl (cA, n, z))) (ht : (hTys (hT G))[t0]? = some (cA, ty)) (hdg : decode cc pc = .ok (.arraylength, 1))
    (kk : W p l e R s m args below meth c H locs cells slots Q (F0 m (pc + 1) ls (.int (nI n) :: rest))) : W p l e R s m args below meth c H locs cells slots Q (F0 m pc ls (.ref a :: rest)) :=
  va_alen (D := hD G) (cl := vwCl) X.1 X.2.1 X.2.2.2.2.2.2.2.1 (Y.1.get he) 0 t0 rfl ht rfl hdg kk
theorem h_iast (X : hCX G p s m args meth c cc maxL ret own nm) (Y : hHS G M s H locs) {f : Nat → Int32} {i : Nat} {x : Int32} (he : M a = some (t, .inl (hT G 0, n, .inl f))) (hi : i < n) (hn : n < 2 ^ 31) (hdg : decode cc pc = .ok (.iastore, 1))
    (kk : ∀ (H1 : Heap) (locs1 : List Loc), hHS G (hup M a (t, .inl (hT G 0, n, .inl (upd f i x)))) s H1 locs1 → W p l e R s m args below meth c H1 locs1 cells slots Q (F0 m (pc + 1) ls rest)) : W p l e R s m args below meth c H locs cells slots Q (F0 m pc ls (.int x :: .int (nI i) :: .ref a :: rest)) := by
  have hh : H[a]? = some (vp_cell (hT G 0) (n, .inl f)) := (Y.1 a t _ he).2
  refine W.iast X.1 X.2.1 hh ((X.2.2.2.2.2.2.2.1.2 0 _ rfl).1 n (fun j => .int (f j))) (fun q => by cases q) (by show ¬ (nI i < 0 ∨ (arrV _ _ _).slots.size ≤ _); rw [arrV_size]; exact vp_in_nI hi hn) rfl rfl hdg fun H1 e1 z oq => ?_
  rw [nI_clamp (Nat.lt_trans hi hn)] at e1 ⊢
  refine kk H1 _ (hHS.put X Y he ?_ z oq)
  show H1[a]? = some (vp_cell _ _)
  rw [e1, vp_cell_i, vp_cell_i, arrV_store]
  congr 2
  funext q
  by_cases hq : q = i
  · subst hq
    simp [updV, upd]
  · simp [updV, upd, hq]
theorem h_last (X : hCX G p s m args meth c cc maxL ret own nm) (Y : hHS G M s H locs) {f : Nat → Int64} {i : Nat} {x : Int64} (he : M a = some (t, .inl (hT G 2, n, .inr (.inl f)))) (hi : i < n) (hn : n < 2 ^ 31) (hdg : decode cc pc = .ok (.lastore, 1))
    (kk : ∀ (H1 : Heap) (locs1 : List Loc), hHS G (hup M a (t, .inl (hT G 2, n, .inr (.inl (vp_updL f i x))))) s H1 locs1 → W p l e R s m args below meth c H1 locs1 cells slots Q (F0 m (pc + 1) ls rest)) : W p l e R s m args below meth c H locs cells slots Q (F0 m pc ls (.long x :: .int (nI i) :: .ref a :: rest)) := by
  have hh : H[a]? = some (vp_cell (hT G 2) (n, .inr (.inl f))) := (Y.1 a t _ he).2
  refine W.last X.1 X.2.1 hh ((X.2.2.2.2.2.2.2.1.2 2 _ rfl).1 n (fun j => .long (f j))) (fun q => by cases q) (by show ¬ (nI i < 0 ∨ (arrV _ _ _).slots.size ≤ _); rw [arrV_size]; exact vp_in_nI hi hn) rfl rfl hdg fun H1 e1 z oq => ?_
  rw [nI_clamp (Nat.lt_trans hi hn)] at e1 ⊢
  refine kk H1 _ (hHS.put X Y he ?_ z oq)
  show H1[a]? = some (vp_cell _ _)
  rw [e1, vp_cell_l, vp_cell_l, arrV_store]
  congr 2
  funext q
  by_cases hq : q = i
  · subst hq
    simp [updV, vp_updL]
  · simp [updV, vp_updL, hq]
/-- the ends -/
theorem h_ret (X : hCX G p s m args meth c cc maxL ret own nm) (Y : hHS G M s H locs) {post : Option Value → hM → Prop} {v : Option Value} (hp : post v M) : (∀ t : State, t.heap = H → s.WarmedH t.vm → hQ G post args s (.returned v) t) ∧ ∀ q ∈ locs, hA G q.base :=
  ⟨fun t ht _ => ⟨⟨v, M, rfl, hp, by rw [ht]; exact Y.1⟩, Y.2.F ht⟩, Y.2.2.2⟩
theorem h_iret {mc ms : Nat} (X : hCX G p s m args meth c cc maxL (some .int) own nm) (Y : hHS G M s H locs) {post : Option Value → hM → Prop} {v : Int32} (hp : post (some (.int v)) M) (h1 : cells ≤ mc) (h2 : slots ≤ ms) (hdg : decode cc pc = .ok (.ireturn, 1)) : W p l e R s m args below meth c H locs cells slots (MQ below (hQ G post) args s mc ms (hA G)) (F0 m pc ls [.int v]) :=
  W.widen h1 h2 (W.iret X.1 X.2.1 X.2.2.1 (h_ret X Y hp).1 (h_ret X Y hp).2 hdg X.2.2.2.2.2.2.1)
theorem h_zret {mc ms : Nat} {ty : FieldType} (X : hCX G p s m args meth c cc maxL (some ty) own nm) (Y : hHS G M s H locs) {post : Option Value → hM → Prop} {v : Int32} (hn : narrow ty (.int v) = .int v) (hp : post (some (.int v)) M) (h1 : cells ≤ mc) (h2 : slots ≤ ms) (hdg : decode cc pc = .ok (.ireturn, 1)) : W p l e R s m args below meth c H locs cells slots (MQ below (hQ G post) args s mc ms (hA G)) (F0 m pc ls [.int v]) :=
  W.widen h1 h2 (W.zret X.1 X.2.1 X.2.2.1 hn (h_ret X Y hp).1 (h_ret X Y hp).2 hdg X.2.2.2.2.2.2.1)
theorem h_lret {mc ms : Nat} (X : hCX G p s m args meth c cc maxL (some .long) own nm) (Y : hHS G M s H locs) {post : Option Value → hM → Prop} {v : Int64} (hp : post (some (.long v)) M) (h1 : cells ≤ mc) (h2 : slots ≤ ms) (hdg : decode cc pc = .ok (.lreturn, 1)) : W p l e R s m args below meth c H locs cells slots (MQ below (hQ G post) args s mc ms (hA G)) (F0 m pc ls [.long v]) :=
  W.widen h1 h2 (W.lret X.1 X.2.1 X.2.2.1 (h_ret X Y hp).1 (h_ret X Y hp).2 hdg X.2.2.2.2.2.2.1)
theorem h_vret {mc ms : Nat} (X : hCX G p s m args meth c cc maxL none own nm) (Y : hHS G M s H locs) {post : Option Value → hM → Prop} (hp : post none M) (h1 : cells ≤ mc) (h2 : slots ≤ ms) (hdg : decode cc pc = .ok (.return_, 1)) : W p l e R s m args below meth c H locs cells slots (MQ below (hQ G post) args s mc ms (hA G)) (F0 m pc ls []) :=
  W.widen h1 h2 (W.vret X.1 X.2.1 X.2.2.1 (h_ret X Y hp).1 (h_ret X Y hp).2 hdg X.2.2.2.2.2.2.1)
theorem h_aret {mc ms : Nat} {rt : FieldType} (X : hCX G p s m args meth c cc maxL (some rt) own nm) (Y : hHS G M s H locs) {post : Option Value → hM → Prop} {v : Option Nat} (hrt : (∃ n, rt = .object n) ∨ ∃ t, rt = .array t) (hp : post (some (va_rf v)) M) (h1 : cells ≤ mc) (h2 : slots ≤ ms) (hdg : decode cc pc = .ok (.areturn, 1)) : W p l e R s m args below meth c H locs cells slots (MQ below (hQ G post) args s mc ms (hA G)) (F0 m pc ls [va_rf v]) :=
  W.widen h1 h2 (W.aret X.1 X.2.1 X.2.2.1 hrt (va_rf_or v) (h_ret X Y hp).1 (h_ret X Y hp).2 hdg X.2.2.2.2.2.2.1)
theorem h_pre {as : List Value} (X : hCX G p s m args meth c cc maxL ret own nm) (Y : hHS G M s H locs) : ∀ U : State, U.heap = H → s.WarmedH U.vm → hPc G M as as.toArray U :=
  fun U hU1 hW => ⟨rfl, X.2.2.2.2.2.2.2.2.1, X.2.2.2.2.2.2.2.2.2.1.step Y.2 hU1 hW, by rw [hU1]; exact Y.1⟩
theorem h_after {mc ms : Nat} {post : Option Value → hM → Prop} {ar : Array Value} {st0 : List Value} (Y : hHS G M s H locs) (hr : va_Run p l e R s m args below meth c H locs cells slots mc ms (F0 m pc ls st0) rest (hQ G post ar) (hA G))
    (kk : ∀ (v : Option Value) (M1 : hM) (H1 : Heap) (locs1 : List Loc), post v M1 → hHS G M1 s H1 locs1 → W p l e R s m args below meth c H1 locs1 (cells + mc) (slots + ms) Q (F0 m (pc + 3) ls (v.toList ++ rest))) : W p l e R s m args below meth c H locs cells slots Q (F0 m pc ls st0) := by
  intro T hT X
  obtain ⟨v, st₀, t, T', L, h0, X', hL, e1, e2, ⟨⟨v', M1, hv, hp, hh⟩, hz, hk⟩, st⟩ := hr T hT X
  cases hv
  rw [h0] at hz hk
  obtain ⟨t2, a1, b1⟩ := kk v M1 T'.heap (locs ++ L) hp ⟨by rw [e1]; exact hh, Nat.le_trans Y.2.1 (by rw [e1]; exact hz), fun q h1 h2 => by rw [e1, hk q (Nat.lt_of_lt_of_le h1 Y.2.1) h2]; exact Y.2.2.1 q h1 h2, fun q hq => by
      rcases List.mem_append.mp hq with h | h
      · exact Y.2.2.2 q h
      · exact hL q h⟩ T' rfl X'
  exact ⟨t2, st t2 a1, b1⟩
theorem h_after5 {mc ms : Nat} {post : Option Value → hM → Prop} {ar : Array Value} {st0 : List Value} (Y : hHS G M s H locs) (hr : va_Run5 p l e R s m args below meth c H locs cells slots mc ms (F0 m pc ls st0) rest (hQ G post ar) (hA G))
    (kk : ∀ (v : Option Value) (M1 : hM) (H1 : Heap) (locs1 : List Loc), post v M1 → hHS G M1 s H1 locs1 → W p l e R s m args below meth c H1 locs1 (cells + mc) (slots + ms) Q (F0 m (pc + 5) ls (v.toList ++ rest))) : W p l e R s m args below meth c H locs cells slots Q (F0 m pc ls st0) := by
  intro T hT X
  obtain ⟨v, st₀, t, T', L, h0, X', hL, e1, e2, ⟨⟨v', M1, hv, hp, hh⟩, hz, hk⟩, st⟩ := hr T hT X
  cases hv
  rw [h0] at hz hk
  obtain ⟨t2, a1, b1⟩ := kk v M1 T'.heap (locs ++ L) hp ⟨by rw [e1]; exact hh, Nat.le_trans Y.2.1 (by rw [e1]; exact hz), fun q h1 h2 => by rw [e1, hk q (Nat.lt_of_lt_of_le h1 Y.2.1) h2]; exact Y.2.2.1 q h1 h2, fun q hq => by
      rcases List.mem_append.mp hq with h | h
      · exact Y.2.2.2 q h
      · exact hL q h⟩ T' rfl X'
  exact ⟨t2, st t2 a1, b1⟩
theorem h_recv (X : hCX G p s m args meth c cc maxL ret own nm) (Y : hHS G M s H locs) {fs : List Value} {r : vw_C} (he : M a = some (t, .inr (ci, fs))) (hcl : vwCl[ci]? = some r) : ∃ cellB : Cell, H[a]? = some cellB ∧ cellB.vm.isStatics = false ∧ s.vm.findClass r.1 = some cellB.cls :=
  va_recv X.2.2.2.2.2.2.2.1 (Y.1.get he) hcl (q0 := 0) rfl
/-- a call of an instance method on an object of the map -/
theorem h_callV {y : MethodName} {cc' : ByteArray} {maxL' k : Nat} {ret' : Option FieldType} {rm : Room} {post : Option Value → hM → Prop} {C : String} {As st0 : List Value} {fs : List Value} {r : vw_C} (X : hCX G p s m args meth c cc maxL ret own nm) (Y : hHS G M s H locs) (hCt : hCT l G y cc' maxL' ret' rm M (.ref a :: As) post) (hg : GoodIn hGW (wsV own index C y (Cond.code y cc' maxL' ret' :: hGW)))
    (hd : y.cls = C ∧ y.cls ≠ "java/lang/invoke/MethodHandle" ∧ y.cls ≠ "java/lang/invoke/VarHandle" ∧ (parseMethodDescriptor y.desc).map (fun d => d.parameters.length) = some k) (he : M a = some (t, .inr (ci, fs))) (hcl : vwCl[ci]? = some r) (hrC : r.1 = C) (hk : As.length = k) (hls : ls.size = maxL) (hst : st0 = As.reverse ++ .ref a :: rest) (hw : (rest.map fun v => v.category).sum ≤ 8)
    (hR : rm.frames + 1 ≤ R.frames ∧ 8 + (maxL' + 11) + rm.locals ≤ R.locals) (hf : cells + rm.cells ≤ R.cells ∧ slots + rm.slots ≤ R.slots) (hdg : decode cc pc = .ok (.invokevirtual index, 3))
    (kk : ∀ (v : Option Value) (M1 : hM) (H1 : Heap) (locs1 : List Loc), post v M1 → hHS G M1 s H1 locs1 → W p l e R s m args below meth c H1 locs1 (cells + rm.cells) (slots + rm.slots) Q (F0 m (pc + 3) ls (v.toList ++ rest))) : W p l e R s m args below meth c H locs cells slots Q (F0 m pc ls st0) :=
  h_after Y (va_runV (As := As) (rest := rest) (b := a) (n := k) (C := C) ⟨X.1, X.2.1, X.2.2.2.1, X.2.2.2.2.1, X.2.2.2.2.2.1⟩ hCt (cwV k X.2.2.2.2.2.1 hg rfl rfl rfl hd hR) ⟨hPc.blind, by rw [← hrC]; exact h_recv X Y he hcl, h_pre X Y⟩ rfl hk hls hst (lv_room hw) hdg hf) kk
theorem h_callS {y : MethodName} {cc' : ByteArray} {maxL' k : Nat} {ret' : Option FieldType} {rm : Room} {post : Option Value → hM → Prop} {As st0 : List Value} (X : hCX G p s m args meth c cc maxL ret own nm) (Y : hHS G M s H locs) (hCt : hCT l G y cc' maxL' ret' rm M As post) (hg : GoodIn hGW (va_wsS own index y (Cond.code y cc' maxL' ret' :: hGW)))
    (hd : y.cls ≠ "java/lang/invoke/MethodHandle" ∧ y.cls ≠ "java/lang/invoke/VarHandle" ∧ (parseMethodDescriptor y.desc).map (fun d => d.parameters.length) = some k) (hk : As.length = k) (hls : ls.size = maxL) (hst : st0 = As.reverse ++ rest) (hw : (rest.map fun v => v.category).sum ≤ 8)
    (hR : rm.frames + 1 ≤ R.frames ∧ 8 + (maxL' + 11) + rm.locals ≤ R.locals) (hf : cells + rm.cells ≤ R.cells ∧ slots + rm.slots ≤ R.slots) (hdg : decode cc pc = .ok (.invokestatic index, 3))
    (kk : ∀ (v : Option Value) (M1 : hM) (H1 : Heap) (locs1 : List Loc), post v M1 → hHS G M1 s H1 locs1 → W p l e R s m args below meth c H1 locs1 (cells + rm.cells) (slots + rm.slots) Q (F0 m (pc + 3) ls (v.toList ++ rest))) : W p l e R s m args below meth c H locs cells slots Q (F0 m pc ls st0) :=
  h_after Y (va_runS (As := As) (rest := rest) (n := k) ⟨X.1, X.2.1, X.2.2.2.1, X.2.2.2.2.1, X.2.2.2.2.2.1⟩ hCt (va_cwS k X.2.2.2.2.2.1 hg rfl rfl rfl hd hR) ⟨hPc.blind, h_pre X Y⟩ rfl hk hls hst (lv_room hw) hdg hf) kk
/-- what a call that only reads says: its answer; the map is the same -/
def hRd (M : hM) (v0 : Value) : Option Value → hM → Prop := fun v M' => v = some v0 ∧ M' = M
theorem h_callVr {y : MethodName} {cc' : ByteArray} {maxL' k : Nat} {ret' : Option FieldType} {rm : Room} {v0 : Value} {C : String} {As st0 : List Value} {fs : List Value} {r : vw_C} (X : hCX G p s m args meth c cc maxL ret own nm) (Y : hHS G M s H locs) (hCt : hCT l G y cc' maxL' ret' rm M (.ref a :: As) (hRd M v0)) (hrc : rm.cells = 0) (hrs : rm.slots = 0) (hg : GoodIn hGW (wsV own index C y (Cond.code y cc' maxL' ret' :: hGW)))
    (hd : y.cls = C ∧ y.cls ≠ "java/lang/invoke/MethodHandle" ∧ y.cls ≠ "java/lang/invoke/VarHandle" ∧ (parseMethodDescriptor y.desc).map (fun d => d.parameters.length) = some k) (he : M a = some (t, .inr (ci, fs))) (hcl : vwCl[ci]? = some r) (hrC : r.1 = C) (hk : As.length = k) (hst : st0 = As.reverse ++ .ref a :: rest) (hls : ls.size = maxL) (hw : (rest.map fun v => v.category).sum ≤ 8)
    (hR : rm.frames + 1 ≤ R.frames ∧ 8 + (maxL' + 11) + rm.locals ≤ R.locals) (hf : cells ≤ R.cells ∧ slots ≤ R.slots) (hdg : decode cc pc = .ok (.invokevirtual index, 3))
    (kk : ∀ (H1 : Heap) (locs1 : List Loc), hHS G M s H1 locs1 → W p l e R s m args below meth c H1 locs1 cells slots Q (F0 m (pc + 3) ls (v0 :: rest))) : W p l e R s m args below meth c H locs cells slots Q (F0 m pc ls st0) := by
  refine h_callV X Y hCt hg hd he hcl hrC hk hls hst hw hR (by rw [hrc, hrs]; exact hf) hdg ?_
  rintro _ M1 H1 locs1 ⟨rfl, rfl⟩ Y1
  rw [hrc, hrs]
  exact kk H1 locs1 Y1
theorem h_callSr {y : MethodName} {cc' : ByteArray} {maxL' k : Nat} {ret' : Option FieldType} {rm : Room} {v0 : Value} {As st0 : List Value} (X : hCX G p s m args meth c cc maxL ret own nm) (Y : hHS G M s H locs) (hCt : hCT l G y cc' maxL' ret' rm M As (hRd M v0)) (hrc : rm.cells = 0) (hrs : rm.slots = 0) (hg : GoodIn hGW (va_wsS own index y (Cond.code y cc' maxL' ret' :: hGW)))
    (hd : y.cls ≠ "java/lang/invoke/MethodHandle" ∧ y.cls ≠ "java/lang/invoke/VarHandle" ∧ (parseMethodDescriptor y.desc).map (fun d => d.parameters.length) = some k) (hk : As.length = k) (hst : st0 = As.reverse ++ rest) (hls : ls.size = maxL) (hw : (rest.map fun v => v.category).sum ≤ 8)
    (hR : rm.frames + 1 ≤ R.frames ∧ 8 + (maxL' + 11) + rm.locals ≤ R.locals) (hf : cells ≤ R.cells ∧ slots ≤ R.slots) (hdg : decode cc pc = .ok (.invokestatic index, 3))
    (kk : ∀ (H1 : Heap) (locs1 : List Loc), hHS G M s H1 locs1 → W p l e R s m args below meth c H1 locs1 cells slots Q (F0 m (pc + 3) ls (v0 :: rest))) : W p l e R s m args below meth c H locs cells slots Q (F0 m pc ls st0) := by
  refine h_callS X Y hCt hg hd hk hls hst hw hR (by rw [hrc, hrs]; exact hf) hdg ?_
  rintro _ M1 H1 locs1 ⟨rfl, rfl⟩ Y1
  rw [hrc, hrs]
  exact kk H1 locs1 Y1
/-- through an interface, on an object of the map -/
theorem h_callF {x y : MethodName} {cc' : ByteArray} {maxL' k count : Nat} {ret' : Option FieldType} {rm : Room} {post : Option Value → hM → Prop} {C : String} {As st0 : List Value} {fs : List Value} {r : vw_C} (X : hCX G p s m args meth c cc maxL ret own nm) (Y : hHS G M s H locs) (hCt : hCT l G y cc' maxL' ret' rm M (.ref a :: As) post) (hF : va_Fw C x y s) (hg : GoodIn hGW (va_wsF own index C x y (Cond.code y cc' maxL' ret' :: hGW)))
    (hd : x.cls ≠ "java/lang/invoke/MethodHandle" ∧ x.cls ≠ "java/lang/invoke/VarHandle" ∧ (parseMethodDescriptor x.desc).map (fun d => d.parameters.length) = some k) (he : M a = some (t, .inr (ci, fs))) (hcl : vwCl[ci]? = some r) (hrC : r.1 = C) (hk : As.length = k) (hls : ls.size = maxL) (hst : st0 = As.reverse ++ .ref a :: rest) (hw : (rest.map fun v => v.category).sum ≤ 8)
    (hR : rm.frames + 1 ≤ R.frames ∧ 8 + (maxL' + 11) + rm.locals ≤ R.locals) (hf : cells + rm.cells ≤ R.cells ∧ slots + rm.slots ≤ R.slots) (hdg : decode cc pc = .ok (.invokeinterface index count, 5))
    (kk : ∀ (v : Option Value) (M1 : hM) (H1 : Heap) (locs1 : List Loc), post v M1 → hHS G M1 s H1 locs1 → W p l e R s m args below meth c H1 locs1 (cells + rm.cells) (slots + rm.slots) Q (F0 m (pc + 5) ls (v.toList ++ rest))) : W p l e R s m args below meth c H locs cells slots Q (F0 m pc ls st0) := by
  subst hrC
  exact h_after5 Y (va_runF (As := As) (rest := rest) (b := a) (n := k) (C := r.1) (X.2.2.2.2.2.2.2.1.1 ci r hcl).2 ⟨X.1, X.2.1, X.2.2.2.1, X.2.2.2.2.1, X.2.2.2.2.2.1⟩ hCt (va_cwF k X.2.2.2.2.2.1 hg rfl rfl rfl hF hd hR) ⟨hPc.blind, h_recv X Y he hcl, h_pre X Y⟩ rfl hk hls hst (lv_room hw) hdg hf) kk
theorem h_callFr {x y : MethodName} {cc' : ByteArray} {maxL' k count : Nat} {ret' : Option FieldType} {rm : Room} {v0 : Value} {C : String} {As st0 : List Value} {fs : List Value} {r : vw_C} (X : hCX G p s m args meth c cc maxL ret own nm) (Y : hHS G M s H locs) (hCt : hCT l G y cc' maxL' ret' rm M (.ref a :: As) (hRd M v0)) (hrc : rm.cells = 0) (hrs : rm.slots = 0) (hF : va_Fw C x y s) (hg : GoodIn hGW (va_wsF own index C x y (Cond.code y cc' maxL' ret' :: hGW)))
    (hd : x.cls ≠ "java/lang/invoke/MethodHandle" ∧ x.cls ≠ "java/lang/invoke/VarHandle" ∧ (parseMethodDescriptor x.desc).map (fun d => d.parameters.length) = some k) (he : M a = some (t, .inr (ci, fs))) (hcl : vwCl[ci]? = some r) (hrC : r.1 = C) (hk : As.length = k) (hst : st0 = As.reverse ++ .ref a :: rest) (hls : ls.size = maxL) (hw : (rest.map fun v => v.category).sum ≤ 8)
    (hR : rm.frames + 1 ≤ R.frames ∧ 8 + (maxL' + 11) + rm.locals ≤ R.locals) (hf : cells ≤ R.cells ∧ slots ≤ R.slots) (hdg : decode cc pc = .ok (.invokeinterface index count, 5))
    (kk : ∀ (H1 : Heap) (locs1 : List Loc), hHS G M s H1 locs1 → W p l e R s m args below meth c H1 locs1 cells slots Q (F0 m (pc + 5) ls (v0 :: rest))) : W p l e R s m args below meth c H locs cells slots Q (F0 m pc ls st0) := by
  refine h_callF X Y hCt hF hg hd he hcl hrC hk hls hst hw hR (by rw [hrc, hrs]; exact hf) hdg ?_
  rintro _ M1 H1 locs1 ⟨rfl, rfl⟩ Y1
  rw [hrc, hrs]
  exact kk H1 locs1 Y1
/-- a cast to the object's own class -/
theorem h_cast (X : hCX G p s m args meth c cc maxL ret own nm) (Y : hHS G M s H locs) {fs : List Value} {r : vw_C} {C : String} (he : M a = some (t, .inr (ci, fs))) (hcl : vwCl[ci]? = some r) (hrC : r.1 = C) (hlink : Cond.classLink own index C ∈ hGW) (hdg : decode cc pc = .ok (.checkcast index, 3))
    (kk : W p l e R s m args below meth c H locs cells slots Q (F0 m (pc + 3) ls (.ref a :: rest))) : W p l e R s m args below meth c H locs cells slots Q (F0 m pc ls (.ref a :: rest)) := by
  subst hrC
  exact va_castS X.1 X.2.1 X.2.2.2.2.1 (X.2.2.2.2.2.1 _ hlink) (X.2.2.2.2.2.2.2.1.1 ci r hcl).2 (h_recv X Y he hcl) hdg kk
theorem h_mmax (X : hCX G p s m args meth c cc maxL ret own nm) (hlink : Cond.methodLink own index Lib.Math.max.name ∈ hGW) (hls : ls.size = maxL) (hfr : 1 ≤ R.frames) (hlo : (rest.map fun v => v.category).sum + 13 ≤ R.locals) (hf : cells ≤ R.cells ∧ slots ≤ R.slots) {x y : Int32} (hdg : decode cc pc = .ok (.invokestatic index, 3))
    (kk : W p l e R s m args below meth c H locs cells slots Q (F0 m (pc + 3) ls (.int (sMax x y) :: rest))) : W p l e R s m args below meth c H locs cells slots Q (F0 m pc ls (.int y :: .int x :: rest)) :=
  va_mmax X.1 X.2.1 (X.2.2.2.1.trans hls.symm) X.2.2.2.2.1 (X.2.2.2.2.2.1 _ hlink) (X.2.2.2.2.2.1 _ kst_max) (X.2.2.2.2.2.1 _ kini_J9) (X.2.2.2.2.2.1 _ kco_max) hfr hlo hf.1 hf.2 hdg kk
theorem h_mmin (X : hCX G p s m args meth c cc maxL ret own nm) (hlink : Cond.methodLink own index Lib.Math.min.name ∈ hGW) (hls : ls.size = maxL) (hfr : 1 ≤ R.frames) (hlo : (rest.map fun v => v.category).sum + 13 ≤ R.locals) (hf : cells ≤ R.cells ∧ slots ≤ R.slots) {x y : Int32} (hdg : decode cc pc = .ok (.invokestatic index, 3))
    (kk : W p l e R s m args below meth c H locs cells slots Q (F0 m (pc + 3) ls (.int (sMin x y) :: rest))) : W p l e R s m args below meth c H locs cells slots Q (F0 m pc ls (.int y :: .int x :: rest)) :=
  va_mmin X.1 X.2.1 (X.2.2.2.1.trans hls.symm) X.2.2.2.2.1 (X.2.2.2.2.2.1 _ hlink) (X.2.2.2.2.2.1 _ kst_min) (X.2.2.2.2.2.1 _ kini_J9) (X.2.2.2.2.2.1 _ kco_min) hfr hlo hf.1 hf.2 hdg kk
theorem h_mmaxL (X : hCX G p s m args meth c cc maxL ret own nm) (hlink : Cond.methodLink own index Lib.MathLoose.max_long.x ∈ hGW) (hls : ls.size = maxL) (hfr : 1 ≤ R.frames) (hlo : (rest.map fun v => v.category).sum + 15 ≤ R.locals) (hf : cells ≤ R.cells ∧ slots ≤ R.slots) {x y : Int64} (hdg : decode cc pc = .ok (.invokestatic index, 3))
    (kk : W p l e R s m args below meth c H locs cells slots Q (F0 m (pc + 3) ls (.long (sMaxL x y) :: rest))) : W p l e R s m args below meth c H locs cells slots Q (F0 m pc ls (.long y :: .long x :: rest)) :=
  va_mmax_long X.1 X.2.1 (X.2.2.2.1.trans hls.symm) X.2.2.2.2.1 (X.2.2.2.2.2.1 _ hlink) (X.2.2.2.2.2.1 _ kst_maxL) (X.2.2.2.2.2.1 _ kini_J9) (X.2.2.2.2.2.1 _ kco_maxL) hfr hlo hf.1 hf.2 hdg kk
theorem h_mminL (X : hCX G p s m args meth c cc maxL ret own nm) (hlink : Cond.methodLink own index Lib.MathLoose.min_long.x ∈ hGW) (hls : ls.size = maxL) (hfr : 1 ≤ R.frames) (hlo : (rest.map fun v => v.category).sum + 15 ≤ R.locals) (hf : cells ≤ R.cells ∧ slots ≤ R.slots) {x y : Int64} (hdg : decode cc pc = .ok (.invokestatic index, 3))
    (kk : W p l e R s m args below meth c H locs cells slots Q (F0 m (pc + 3) ls (.long (sMinL x y) :: rest))) : W p l e R s m args below meth c H locs cells slots Q (F0 m pc ls (.long y :: .long x :: rest)) :=
  va_mmin_long X.1 X.2.1 (X.2.2.2.1.trans hls.symm) X.2.2.2.2.1 (X.2.2.2.2.2.1 _ hlink) (X.2.2.2.2.2.1 _ kst_minL) (X.2.2.2.2.2.1 _ kini_J9) (X.2.2.2.2.2.1 _ kco_minL) hfr hlo hf.1 hf.2 hdg kk
/-- a row of rows of ints -/
theorem h_aaldI (X : hCX G p s m args meth c cc maxL ret own nm) (Y : hHS G M s H locs) {f : Nat → Option Nat} {i : Nat} (he : M a = some (t, .inl (hT G 5, n, .inr (.inr (.inr (.inr f)))))) (hi : i < n) (hn : n < 2 ^ 31) (hdg : decode cc pc = .ok (.aaload, 1))
    (kk : W p l e R s m args below meth c H locs cells slots Q (F0 m (pc + 1) ls (va_rf (f i) :: rest))) : W p l e R s m args below meth c H locs cells slots Q (F0 m pc ls (.int (nI i) :: .ref a :: rest)) := by
  have hin := vp_in_nI hi hn
  have hh : H[a]? = some (vp_cell (hT G 5) (n, .inr (.inr (.inr (.inr f))))) := (Y.1 a t _ he).2
  refine W.aald (v := va_rf (f i)) (ty := .array .int) X.1 X.2.1 hh ((X.2.2.2.2.2.2.2.1.2 5 _ rfl).1 n (fun j => va_rf (f j))) rfl (fun q => by cases q) (by show ¬ (nI i < 0 ∨ (arrV _ _ _).slots.size ≤ _); rw [arrV_size]; exact hin) (by show (arrV _ _ _).slots[_]? = _; rw [nI_clamp (Nat.lt_trans hi hn), arrV_read _ _ hi]) rfl rfl hdg kk
end HROWS
end
section
-- LAYERS, FORMULAS, CLAIMS: what their cells hold, as values
abbrev hLy : Type := (Nat → Nat) × (Nat → Option Nat) × (Nat → Int32) × (Nat → Nat → Int32) × (Nat → Int64)
abbrev lyA (L : hLy) : Nat → Nat := L.1
abbrev lyR (L : hLy) : Nat → Option Nat := L.2.1
abbrev lyI (L : hLy) : Nat → Int32 := L.2.2.1
abbrev lyN (L : hLy) : Nat → Nat → Int32 := L.2.2.2.1
abbrev lyB (L : hLy) : Nat → Int64 := L.2.2.2.2
abbrev lyO (L : hLy) : List Value := [.ref (lyA L 0), .ref (lyA L 1), va_rf (lyR L 0), va_rf (lyR L 1), va_rf (lyR L 2), .int (lyI L 0), .int (lyI L 1), .ref (lyA L 2), .int (lyI L 2), .int (lyI L 3), .ref (lyA L 3), .ref (lyA L 4), .ref (lyA L 5), .ref (lyA L 6)]
/-- the object of a layer and its rows; its formulas stand apart -/
def LyV (G : hG) (M : hM) (a t : Nat) (L : hLy) : Prop := M a = some (t, .inr (7, lyO L)) ∧ M (lyA L 2) = some (t + 1, .inl (hT G 0, 4, .inl (lyN L 0))) ∧ M (lyA L 3) = some (t + 2, .inl (hT G 0, 10, .inl (lyN L 1))) ∧ M (lyA L 4) = some (t + 3, .inl (hT G 0, 10, .inl (lyN L 2))) ∧ M (lyA L 5) = some (t + 4, .inl (hT G 0, 10, .inl (lyN L 3))) ∧ M (lyA L 6) = some (t + 5, .inl (hT G 2, 10, .inr (.inl (lyB L))))
theorem lg_cmp_0 {x y : Int64} (h : lg_cmp x y = 0) : x = y := by
  unfold lg_cmp at h
  by_cases h1 : x > y
  · rw [if_pos h1] at h; exact absurd h (by decide)
  · rw [if_neg h1] at h
    by_cases h2 : x = y
    · exact h2
    · rw [if_neg h2] at h; exact absurd h (by decide)
theorem lg_cmp_n {x y : Int64} (h : ¬ lg_cmp x y = 0) : ¬ x = y := fun e => h (by subst e; unfold lg_cmp; rw [if_neg (show ¬ x > x from fun q => absurd (Int64.lt_iff_toInt_lt.mp q) (by omega)), if_pos rfl])
def lyShare (L : hLy) (b : Int32) : Int32 := (b.toInt64 * (lyI L 0).toInt64 / 100).toInt32
def lyBorne (L : hLy) (y : Nat) (x : Int32) : Int32 := if lyB L y = -1 then sMax (x - lyN L 3 y) 0 else (sMinL (sMax (x - lyN L 3 y) 0).toInt64 (lyB L y)).toInt32
def lyRoom (L : hLy) (y : Nat) (b : Int32) : Int32 := if lyB L y = -1 then -1 else (sMinL (lyB L y - b.toInt64) 2147483647).toInt32
abbrev lyNet (L : hLy) (k : Nat) : Prop := (lyI L 3 >>> (nI k &&& 31)) &&& 1 = 1
def lyYear (L : hLy) (y what : Nat) : Int32 := match what with
  | 0 => lyN L 1 y
  | 1 => lyN L 2 y
  | 2 => lyN L 3 y
  | _ => (sMinL (lyB L y) 2147483647).toInt32
def lyTell (L : hLy) (what : Nat) : Int32 := match what with
  | 0 => lyI L 0
  | 1 => lyI L 1
  | 2 => if lyR L 0 = none then 0 else 1
  | 3 => lyI L 3
  | w + 4 => lyN L 0 w
/-- one part of what reinstatements are charged -/
def lyPart (L : hLy) (y : Nat) (b : Int32) (k : Nat) : Int64 := sMaxL (sMinL (b.toInt64 - (nI k).toInt64 * (lyN L 1 y).toInt64) (lyN L 1 y).toInt64) 0 * (lyN L 0 k).toInt64 / 100
def lyParts (L : hLy) (y : Nat) (b : Int32) : Nat → Int64
  | 0 => 0
  | k + 1 => lyParts L y b k + lyPart L y b k
def lyCharge (L : hLy) (y : Nat) (b : Int32) (n : Nat) : Int32 := (lyParts L y b n * (lyI L 0).toInt64 / 100).toInt32
end
section
-- WHAT THE STATEMENT GIVES OF THE START, for good: the constants of the enum, static rows
def hAr (G : hG) : Array Value := #[Value.ref G.2.1]
def hFl : List Cond := flatC (Jvm.Cond.and given_1 narrow_1)
theorem hN {G : hG} (hs : hSt G) {c : Cond} (i : Nat) (h : hFl[i]? = some c) : c.before (hAr G) (hU G) = true := flat_of_before _ hs.2.1 _ (List.mem_of_getElem? h)
theorem hNs {G : hG} (hs : hSt G) (L : List Nat) (f : Nat → Cond) (N : Nat) (h : (List.range N).all (fun i => decide (hFl[L.getD i 0]? = some (f i))) = true) : ∀ i, i < N → (f i).before (hAr G) (hU G) = true := fun i hi =>
  hN hs (L.getD i 0) (of_decide_eq_true (List.all_eq_true.mp h i (List.mem_range.mpr hi)))
theorem hW0 {G : hG} (hs : hSt G) {c : Cond} (i : Nat) (h : lw_tbl[i]? = some c) : c.before (hAr G) (hU G) = true := hs.1 _ (List.mem_of_getElem? h)
theorem hW0s {G : hG} (hs : hSt G) (L : List Nat) (f : Nat → Cond) (N : Nat) (h : (List.range N).all (fun i => decide (lw_tbl[L.getD i 0]? = some (f i))) = true) : ∀ i, i < N → (f i).before (hAr G) (hU G) = true := fun i hi =>
  hW0 hs (L.getD i 0) (of_decide_eq_true (List.all_eq_true.mp h i (List.mem_range.mpr hi)))
def hev (G : hG) (t : Term) : Option Value := t.eval (hAr G) (hU G) none [] (hU G)
def had (G : hG) (t : Term) : Nat := match hev G t with
  | some (.ref a) => a
  | _ => 0
theorem had_of {G : hG} {t : Term} {a : Nat} (h : hev G t = some (.ref a)) : had G t = a := by unfold had; rw [h]
theorem hlow {G : hG} : ∀ a : Nat, a < (hU G).heap.size → ¬ hA G a := fun a h => Nat.not_le.mpr h
theorem hkep {G : hG} {s : State} (hr : hR G s) : ∀ a : Nat, a < (hU G).heap.size → ¬ hA G a → s.heap[a]? = (hU G).heap[a]? := fun a h _ => hr.2.2 a h
theorem hO_at {G : hG} {s : State} (hr : hR G s) {E : String} {t : Nat} (h : va_O E t (hA G) (hU G) (hU G).heap) : va_O E t (hA G) s s.heap := (va_O.moved hr.1.alike h).kept (hkep hr)
theorem hOF_at {G : hG} {s : State} (hr : hR G s) {o n d : String} {v : Value} {t : Nat} (h : va_OF o n d v t (hA G) (hU G) (hU G).heap) : va_OF o n d v t (hA G) s s.heap := (va_OF.moved hr.1.alike h).kept (hkep hr)
theorem hZ_at {G : hG} {s : State} (hr : hR G s) {C n d : String} {v : Value} (h : va_Z C n d v (hA G) (hU G) (hU G).heap) : va_Z C n d v (hA G) s s.heap := (va_Z.moved hr.1.alike h).kept (hkep hr)
theorem hT_at {G : hG} {s : State} (hr : hR G s) {ty : FieldType} {t N : Nat} {f : Nat → Value} (h : va_T ty t N f (hA G) (hU G) (hU G).heap) : va_T ty t N f (hA G) s s.heap := (va_T.moved hr.1.alike h).kept (hkep hr)
theorem hO_of {G : hG} {t : Term} {E : String} (h : (Cond.exactly t E).before (hAr G) (hU G) = true) : hev G t = some (.ref (had G t)) ∧ va_O E (had G t) (hA G) (hU G) (hU G).heap := by
  obtain ⟨a, c, cell, k, q1, q2, q3, q4, q5, q6, -⟩ := Cond.exactly_spec h
  have e : had G t = a := had_of q1
  rw [e]
  exact ⟨q1, cell, q3, q5, by rw [q6]; exact q2, hlow a (Array.getElem?_eq_some_iff.mp q3).1⟩
theorem hOF_of {G : hG} {t u : Term} {o n d : String} {v : Value} {a : Nat} (ht : hev G t = some (.ref a)) (hc : (Cond.eq (.field t o n d) u).before (hAr G) (hU G) = true) (hu : hev G u = some v) : va_OF o n d v a (hA G) (hU G) (hU G).heap :=
  vk_OFof ht (va_eqv hc hu) hlow
-- the constants of the enum, by their numbers
def sgNm : List String := ["LAYER", "XS", "SHARE", "YEARLY", "AFTER", "REINSTATE", "AT", "NET", "OF", "WHEN", "AND", "OR", "NOT", "MIN", "MAX", "LINE", "YEAR", "AMOUNT", "ROUND", "ROUND_END", "SQUARE", "SQUARE_END", "SEMICOLON", "COMMA", "PLUS", "MINUS", "TIMES", "OVER", "LESS", "GREATER", "EQUAL", "AT_MOST", "AT_LEAST", "NAME", "NUMBER", "TURNED", "END", "WRONG"]
def sgOps : List Int32 := [0, 0, 0, 0, 0, 0, 0, 0, 0, 0, 2, 2, 1, 2, 2, 0, 0, 0, 0, 0, 0, 0, 0, 0, 2, 2, 2, 2, 2, 2, 2, 2, 2, 0, 0, 1, 0, 0]
def sgT (k : Nat) : Term := .static "LossHouse$Sign" (sgNm.getD k "") "LLossHouse$Sign;"
def sgOp (k : Nat) : Int32 := sgOps.getD k 0
def hSg (G : hG) (k : Nat) : Nat := had G (sgT k)
set_option maxRecDepth 100000 in
theorem hsg_ex {G : hG} (hs : hSt G) : ∀ k, k < 38 → (Cond.exactly (sgT k) "LossHouse$Sign").before (hAr G) (hU G) = true := hNs hs [119, 175, 179, 183, 187, 191, 195, 199, 203, 207, 239, 243, 55, 151, 155, 123, 127, 131, 143, 147, 211, 215, 247, 159, 171, 135, 163, 167, 219, 223, 227, 231, 235, 115, 111, 139, 107, 4] _ 38 (by decide +kernel)
set_option maxRecDepth 100000 in
theorem hsg_or {G : hG} (hs : hSt G) : ∀ k, k < 38 → (Cond.eq (.field (sgT k) "java/lang/Enum" "ordinal" "I") (.int (nI k))).before (hAr G) (hU G) = true := hNs hs [120, 176, 180, 184, 188, 192, 196, 200, 204, 208, 240, 244, 56, 152, 156, 124, 128, 132, 144, 148, 212, 216, 248, 160, 172, 136, 164, 168, 220, 224, 228, 232, 236, 116, 112, 140, 108, 5] (fun k => Cond.eq (.field (sgT k) "java/lang/Enum" "ordinal" "I") (.int (nI k))) 38 (by decide +kernel)
set_option maxRecDepth 100000 in
theorem hsg_op {G : hG} (hs : hSt G) : ∀ k, k < 38 → (Cond.eq (.field (sgT k) "LossHouse$Sign" "operands" "I") (.int (sgOp k))).before (hAr G) (hU G) = true := hNs hs [122, 178, 182, 186, 190, 194, 198, 202, 206, 210, 242, 246, 58, 154, 158, 126, 130, 134, 146, 150, 214, 218, 250, 162, 174, 138, 166, 170, 222, 226, 230, 234, 238, 118, 114, 142, 110, 7] (fun k => Cond.eq (.field (sgT k) "LossHouse$Sign" "operands" "I") (.int (sgOp k))) 38 (by decide +kernel)
set_option maxRecDepth 100000 in
theorem hsg_ly {G : hG} (hs : hSt G) : ∀ k, k < 38 → (Cond.laysStatic "LossHouse$Sign" (sgNm.getD k "") "LLossHouse$Sign;").before (hAr G) (hU G) = true := hW0s hs [916, 1008, 1063, 1065, 1067, 1069, 1071, 1077, 1079, 1081, 1118, 1120, 475, 974, 976, 948, 950, 952, 970, 972, 1100, 1102, 1122, 982, 988, 962, 984, 986, 1108, 1110, 1112, 1114, 1116, 895, 893, 968, 891, 150] (fun k => Cond.laysStatic "LossHouse$Sign" (sgNm.getD k "") "LLossHouse$Sign;") 38 (by decide +kernel)
theorem hsg_O {G : hG} {s : State} (hs : hSt G) (hr : hR G s) {k : Nat} (hk : k < 38) : va_O "LossHouse$Sign" (hSg G k) (hA G) s s.heap := hO_at hr (hO_of (hsg_ex hs k hk)).2
theorem hsg_ordF {G : hG} (hs : hSt G) {k : Nat} (hk : k < 38) : va_OF "java/lang/Enum" "ordinal" "I" (.int (nI k)) (hSg G k) (hA G) (hU G) (hU G).heap := hOF_of (hO_of (hsg_ex hs k hk)).1 (hsg_or hs k hk) rfl
theorem hsg_opF {G : hG} {s : State} (hs : hSt G) (hr : hR G s) {k : Nat} (hk : k < 38) : va_OF "LossHouse$Sign" "operands" "I" (.int (sgOp k)) (hSg G k) (hA G) s s.heap := hOF_at hr (hOF_of (hO_of (hsg_ex hs k hk)).1 (hsg_op hs k hk) rfl)
theorem hsg_Z {G : hG} {s : State} (hs : hSt G) (hr : hR G s) {k : Nat} (hk : k < 38) : va_Z "LossHouse$Sign" (sgNm.getD k "") "LLossHouse$Sign;" (.ref (hSg G k)) (hA G) s s.heap := hZ_at hr (va_Zof (hsg_ly hs k hk) (hW0 hs 61 (by decide +kernel)) (hO_of (hsg_ex hs k hk)).1 hlow)
theorem hsg_inj {G : hG} (hs : hSt G) {i j : Nat} (hi : i < 38) (hj : j < 38) (h : hSg G i = hSg G j) : i = j := by
  obtain ⟨cf, k, fi, f, cell, h1, h2, h3, h4, h5, h6⟩ := hsg_ordF hs hi
  obtain ⟨cf', k', fi', f', cell', g1, g2, g3, g4, g5, g6⟩ := hsg_ordF hs hj
  rw [h] at h3
  have e1 := h1.symm.trans g1
  cases e1
  have e2 := h3.symm.trans g3
  cases e2
  have e3 := h5.symm.trans g5
  have e4 : nI i = nI j := by injection e3 with e3; injection e3
  exact (nI_eq (by omega) (by omega)).mp e4
-- the row of all constants
def hSGS (G : hG) : Nat := had G (.static "LossHouse$Tokens" "SIGNS" "[LLossHouse$Sign;")
def swVs : List Int32 := [0, 0, 17, 0, 0, 18, 19, 0, 0, 0, 15, 16, 0, 8, 9, 1, 2, 3, 0, 0, 0, 0, 0, 0, 4, 5, 6, 7, 10, 11, 12, 13, 14, 0, 0, 0, 0, 0]
def swV (k : Nat) : Int32 := swVs.getD k 0
def hSW (G : hG) : Nat := had G (.static "LossHouse$1" "$SwitchMap$LossHouse$Sign" "[I")
theorem hsgs_T0 {G : hG} (hs : hSt G) : hev G (.static "LossHouse$Tokens" "SIGNS" "[LLossHouse$Sign;") = some (.ref (hSGS G)) ∧ va_T (.object "LossHouse$Sign") (hSGS G) 38 (fun i => .ref (hSg G i)) (hA G) (hU G) (hU G).heap := by
  obtain ⟨t, ht, hT⟩ := va_Tof (ty := .object "LossHouse$Sign") (tm := .static "LossHouse$Tokens" "SIGNS" "[LLossHouse$Sign;") (f := fun i => .ref (hSg G i)) (A := hA G) (N := 38) (by decide) (hN hs 66 (by decide +kernel)) (va_eqt (hN hs 67 (by decide +kernel))) (fun j hj => va_eqv (hNs hs [69, 70, 71, 72, 73, 74, 75, 76, 77, 78, 79, 80, 81, 82, 83, 84, 85, 86, 87, 88, 89, 90, 91, 92, 93, 94, 95, 96, 97, 98, 99, 100, 101, 102, 103, 104, 105, 106] (fun k => Cond.eq (.elem (.static "LossHouse$Tokens" "SIGNS" "[LLossHouse$Sign;") (.int (Int32.ofNat k))) (sgT k)) 38 (by decide +kernel) j hj) (hO_of (hsg_ex hs j hj)).1) hlow
  have e : hSGS G = t := had_of ht
  rw [e]
  exact ⟨ht, hT⟩
theorem hsw_T0 {G : hG} (hs : hSt G) : hev G (.static "LossHouse$1" "$SwitchMap$LossHouse$Sign" "[I") = some (.ref (hSW G)) ∧ va_T .int (hSW G) 38 (fun i => .int (swV i)) (hA G) (hU G) (hU G).heap := by
  obtain ⟨t, ht, hT⟩ := va_Tof (ty := .int) (tm := .static "LossHouse$1" "$SwitchMap$LossHouse$Sign" "[I") (f := fun i => .int (swV i)) (A := hA G) (N := 38) (by decide) (hN hs 15 (by decide +kernel)) (va_eqt (hN hs 16 (by decide +kernel))) (fun j hj => va_eqt (hNs hs [17, 18, 19, 20, 21, 22, 23, 24, 25, 26, 27, 28, 29, 30, 31, 32, 33, 34, 35, 36, 37, 38, 39, 40, 41, 42, 43, 44, 45, 46, 47, 48, 49, 50, 51, 52, 53, 54] (fun k => Cond.eq (.elem (.static "LossHouse$1" "$SwitchMap$LossHouse$Sign" "[I") (.int (Int32.ofNat k))) (.int (swV k))) 38 (by decide +kernel) j hj)) hlow
  have e : hSW G = t := had_of ht
  rw [e]
  exact ⟨ht, hT⟩
theorem hsgs_T {G : hG} {s : State} (hs : hSt G) (hr : hR G s) : va_T (.object "LossHouse$Sign") (hSGS G) 38 (fun i => .ref (hSg G i)) (hA G) s s.heap := hT_at hr (hsgs_T0 hs).2
theorem hsw_T {G : hG} {s : State} (hs : hSt G) (hr : hR G s) : va_T .int (hSW G) 38 (fun i => .int (swV i)) (hA G) s s.heap := hT_at hr (hsw_T0 hs).2
theorem hsgs_Z {G : hG} {s : State} (hs : hSt G) (hr : hR G s) : va_Z "LossHouse$Tokens" "SIGNS" "[LLossHouse$Sign;" (.ref (hSGS G)) (hA G) s s.heap := hZ_at hr (va_Zof (hW0 hs 878 (by decide +kernel)) (hW0 hs 58 (by decide +kernel)) (hsgs_T0 hs).1 hlow)
theorem hsw_Z {G : hG} {s : State} (hs : hSt G) (hr : hR G s) : va_Z "LossHouse$1" "$SwitchMap$LossHouse$Sign" "[I" (.ref (hSW G)) (hA G) s s.heap := hZ_at hr (va_Zof (hW0 hs 467 (by decide +kernel)) (hW0 hs 88 (by decide +kernel)) (hsw_T0 hs).1 hlow)
section HCONST
variable {G : hG} {p : Program} {l : Launch} {e : Env} {R : Room} {s : State} {m : MethodId} {args : Array Value} {below : List Frame} {meth : Method} {c : Code} {H : Heap} {locs : List Loc} {cells slots : Nat} {Q : State → Prop}
variable {cc : ByteArray} {maxL : Nat} {ret : Option FieldType} {own nm : String} {M : hM} {pc : Nat} {ls : Array Slot} {rest : List Value} {a t ci index n : Nat} {cA : ClassId}
/-- a static is read -/
theorem h_gets (X : hCX G p s m args meth c cc maxL ret own nm) (Y : hHS G M s H locs) {C f d : String} {v : Value} (hZ : va_Z C f d v (hA G) s s.heap) (hlink : Cond.fieldLink own index C f d ∈ hGW) (hdg : decode cc pc = .ok (.getstatic index, 3))
    (kk : W p l e R s m args below meth c H locs cells slots Q (F0 m (pc + 3) ls (v :: rest))) : W p l e R s m args below meth c H locs cells slots Q (F0 m pc ls rest) :=
  va_gets X.1 X.2.1 hZ Y.2 X.2.2.2.2.1 (X.2.2.2.2.2.1 _ hlink) (fun _ h => h) hdg kk
/-- a field of an object that lay there before -/
theorem h_getC (X : hCX G p s m args meth c cc maxL ret own nm) (Y : hHS G M s H locs) {o f d : String} {v : Value} {q : Nat} (hE : va_OF o f d v q (hA G) s s.heap) (hlink : Cond.fieldLink own index o f d ∈ hGW) (hdg : decode cc pc = .ok (.getfield index, 3))
    (kk : W p l e R s m args below meth c H locs cells slots Q (F0 m (pc + 3) ls (v :: rest))) : W p l e R s m args below meth c H locs cells slots Q (F0 m pc ls (.ref q :: rest)) :=
  vk_getf X.1 X.2.1 hE Y.2 X.2.2.2.2.1 (X.2.2.2.2.2.1 _ hlink) (fun _ h => h) hdg kk
/-- a static row of ints is read -/
theorem h_iaT (X : hCX G p s m args meth c cc maxL ret own nm) (Y : hHS G M s H locs) {q N i : Nat} {f : Nat → Value} (hT : va_T .int q N f (hA G) s s.heap) (hi : i < N) (hn : N < 2 ^ 31) (hdg : decode cc pc = .ok (.iaload, 1))
    (kk : W p l e R s m args below meth c H locs cells slots Q (F0 m (pc + 1) ls (f i :: rest))) : W p l e R s m args below meth c H locs cells slots Q (F0 m pc ls (.int (nI i) :: .ref q :: rest)) :=
  va_ti X.1 X.2.1 hT Y.2 (vp_in_nI hi hn) (by rw [nI_clamp (Nat.lt_trans hi hn)]) hdg kk
theorem h_aaT (X : hCX G p s m args meth c cc maxL ret own nm) (Y : hHS G M s H locs) {q N i : Nat} {C : String} {f : Nat → Value} (hT : va_T (.object C) q N f (hA G) s s.heap) (hi : i < N) (hn : N < 2 ^ 31) (hdg : decode cc pc = .ok (.aaload, 1))
    (kk : W p l e R s m args below meth c H locs cells slots Q (F0 m (pc + 1) ls (f i :: rest))) : W p l e R s m args below meth c H locs cells slots Q (F0 m pc ls (.int (nI i) :: .ref q :: rest)) :=
  vb_tq X.1 X.2.1 hT Y.2 (vp_in_nI hi hn) (by rw [nI_clamp (Nat.lt_trans hi hn)]) hdg kk
theorem h_lenT (X : hCX G p s m args meth c cc maxL ret own nm) (Y : hHS G M s H locs) {q N : Nat} {ty : FieldType} {f : Nat → Value} (hT : va_T ty q N f (hA G) s s.heap) (hdg : decode cc pc = .ok (.arraylength, 1))
    (kk : W p l e R s m args below meth c H locs cells slots Q (F0 m (pc + 1) ls (.int (nI N) :: rest))) : W p l e R s m args below meth c H locs cells slots Q (F0 m pc ls (.ref q :: rest)) :=
  va_tlen X.1 X.2.1 hT Y.2 rfl hdg kk
theorem h_recvO (Y : hHS G M s H locs) {E : String} {q : Nat} (hO : va_O E q (hA G) s s.heap) : ∃ cellB : Cell, H[q]? = some cellB ∧ cellB.vm.isStatics = false ∧ s.vm.findClass E = some cellB.cls := by
  obtain ⟨cell, h1, h2, h3, h4⟩ := hO
  exact ⟨cell, by rw [Y.2.2.1 q (Array.getElem?_eq_some_iff.mp h1).1 h4]; exact h1, h2, h3⟩
/-- an inherited method, on an object that is known to stand there -/
theorem h_callUr {x y : MethodName} {cc' : ByteArray} {maxL' k b : Nat} {ret' : Option FieldType} {rm : Room} {v0 : Value} {C owner : String} {As st0 : List Value} (X : hCX G p s m args meth c cc maxL ret own nm) (Y : hHS G M s H locs) (hCt : hCT l G y cc' maxL' ret' rm M (.ref b :: As) (hRd M v0)) (hrc : rm.cells = 0) (hrs : rm.slots = 0) (hg : GoodIn hGW (va_wsU own index C owner x y (Cond.code y cc' maxL' ret' :: hGW)))
    (hyx : y = ⟨owner, x.name, x.desc⟩) (hd : owner ≠ "java/lang/invoke/MethodHandle" ∧ owner ≠ "java/lang/invoke/VarHandle" ∧ (parseMethodDescriptor x.desc).map (fun d => d.parameters.length) = some k) (hrv : ∃ cellB : Cell, H[b]? = some cellB ∧ cellB.vm.isStatics = false ∧ s.vm.findClass C = some cellB.cls) (hk : As.length = k) (hst : st0 = As.reverse ++ .ref b :: rest) (hls : ls.size = maxL) (hw : (rest.map fun v => v.category).sum ≤ 8)
    (hR : rm.frames + 1 ≤ R.frames ∧ 8 + (maxL' + 11) + rm.locals ≤ R.locals) (hf : cells ≤ R.cells ∧ slots ≤ R.slots) (hdg : decode cc pc = .ok (.invokevirtual index, 3))
    (kk : ∀ (H1 : Heap) (locs1 : List Loc), hHS G M s H1 locs1 → W p l e R s m args below meth c H1 locs1 cells slots Q (F0 m (pc + 3) ls (v0 :: rest))) : W p l e R s m args below meth c H locs cells slots Q (F0 m pc ls st0) := by
  refine h_after Y (va_runU (As := As) (rest := rest) (b := b) (n := k) (C := C) ⟨X.1, X.2.1, X.2.2.2.1, X.2.2.2.2.1, X.2.2.2.2.2.1⟩ hCt (va_cwU k X.2.2.2.2.2.1 hg rfl rfl rfl hyx hd hR) ⟨hPc.blind, hrv, h_pre X Y⟩ rfl hk hls hst (lv_room hw) hdg (by rw [hrc, hrs]; exact hf)) ?_
  rintro _ M1 H1 locs1 ⟨rfl, rfl⟩ Y1
  rw [hrc, hrs]
  exact kk H1 locs1 Y1
end HCONST
/-- what stays the same: all but rows of ints, and a triangle's year, with a tag of S -/
def hSim (G : hG) (S : Nat → Prop) (M M' : hM) : Prop := ∀ a, M' a = M a ∨ (∃ t n f f', S t ∧ M a = some (t, .inl (hT G 0, n, .inl f)) ∧ M' a = some (t, .inl (hT G 0, n, .inl f'))) ∨ ∃ t x v v', S t ∧ M a = some (t, .inr (11, [.ref x, .int v])) ∧ M' a = some (t, .inr (11, [.ref x, .int v']))
theorem hSim.rf {G : hG} {S : Nat → Prop} {M : hM} : hSim G S M M := fun _ => Or.inl rfl
theorem hSim.keep {G : hG} {S : Nat → Prop} {M M' : hM} (h : hSim G S M M') {a t : Nat} {e : va_E} (he : M a = some (t, e)) (ht : ¬ S t) : M' a = some (t, e) := by
  rcases h a with h1 | ⟨t', n, f, f', h1, h2, -⟩ | ⟨t', x, v, v', h1, h2, -⟩
  · rw [h1]; exact he
  · rw [he] at h2; cases h2; exact absurd h1 ht
  · rw [he] at h2; cases h2; exact absurd h1 ht
theorem hSim.row {G : hG} {S : Nat → Prop} {M M' : hM} (h : hSim G S M M') {a t n : Nat} {f : Nat → Int32} (he : M a = some (t, .inl (hT G 0, n, .inl f))) : ∃ f', M' a = some (t, .inl (hT G 0, n, .inl f')) := by
  rcases h a with h1 | ⟨t', n', f1, f', h1, h2, h3⟩ | ⟨t', x, v, v', h1, h2, -⟩
  · exact ⟨f, by rw [h1]; exact he⟩
  · rw [he] at h2; cases h2; exact ⟨f', h3⟩
  · rw [he] at h2; cases h2
theorem hSim.tri {G : hG} {S : Nat → Prop} {M M' : hM} (h : hSim G S M M') {a t x : Nat} {v : Int32} (he : M a = some (t, .inr (11, [.ref x, .int v]))) : ∃ v', M' a = some (t, .inr (11, [.ref x, .int v'])) := by
  rcases h a with h1 | ⟨t', n', f1, f', h1, h2, h3⟩ | ⟨t', x', v1, v', h1, h2, h3⟩
  · exact ⟨v, by rw [h1]; exact he⟩
  · rw [he] at h2; cases h2
  · rw [he] at h2; cases h2; exact ⟨v', h3⟩
theorem hSim.tr {G : hG} {S : Nat → Prop} {M M' M'' : hM} (h : hSim G S M M') (h' : hSim G S M' M'') : hSim G S M M'' := fun a => by
  rcases h a with h1 | ⟨t, n, f, f', h1, h2, h3⟩ | ⟨t, x, v, v', h1, h2, h3⟩
  · rcases h' a with g1 | ⟨t', n', g, g', g1, g2, g3⟩ | ⟨t', x, v, v', g1, g2, g3⟩
    · exact Or.inl (g1.trans h1)
    · exact Or.inr (Or.inl ⟨t', n', g, g', g1, h1 ▸ g2, g3⟩)
    · exact Or.inr (Or.inr ⟨t', x, v, v', g1, h1 ▸ g2, g3⟩)
  · rcases h' a with g1 | ⟨t', n', g, g', g1, g2, g3⟩ | ⟨t', x, v, v', g1, g2, g3⟩
    · exact Or.inr (Or.inl ⟨t, n, f, f', h1, h2, g1.trans h3⟩)
    · rw [h3] at g2; cases g2; exact Or.inr (Or.inl ⟨t, n, f, g', h1, h2, g3⟩)
    · rw [h3] at g2; cases g2
  · rcases h' a with g1 | ⟨t', n', g, g', g1, g2, g3⟩ | ⟨t', x', w, w', g1, g2, g3⟩
    · exact Or.inr (Or.inr ⟨t, x, v, v', h1, h2, g1.trans h3⟩)
    · rw [h3] at g2; cases g2
    · rw [h3] at g2; cases g2; exact Or.inr (Or.inr ⟨t, x, v, w', h1, h2, g3⟩)
theorem hSim.mono {G : hG} {S S' : Nat → Prop} {M M' : hM} (h : hSim G S M M') (hS : ∀ t, S t → S' t) : hSim G S' M M' := fun a => by
  rcases h a with h1 | ⟨t, n, f, f', h1, h2, h3⟩ | ⟨t, x, v, v', h1, h2, h3⟩
  · exact Or.inl h1
  · exact Or.inr (Or.inl ⟨t, n, f, f', hS t h1, h2, h3⟩)
  · exact Or.inr (Or.inr ⟨t, x, v, v', hS t h1, h2, h3⟩)
theorem hSim.put {G : hG} {S : Nat → Prop} {M : hM} {a t n : Nat} {f f' : Nat → Int32} (he : M a = some (t, .inl (hT G 0, n, .inl f))) (ht : S t) : hSim G S M (hup M a (t, .inl (hT G 0, n, .inl f'))) := fun b => by
  by_cases hb : b = a
  · subst hb; exact Or.inr (Or.inl ⟨t, n, f, f', ht, he, hup_eq⟩)
  · exact Or.inl (hup_ne hb)
theorem hSim.putT {G : hG} {S : Nat → Prop} {M : hM} {a t x : Nat} {v v' : Int32} (he : M a = some (t, .inr (11, [.ref x, .int v]))) (ht : S t) : hSim G S M (hup M a (t, .inr (11, [.ref x, .int v']))) := fun b => by
  by_cases hb : b = a
  · subst hb; exact Or.inr (Or.inr ⟨t, x, v, v', ht, he, hup_eq⟩)
  · exact Or.inl (hup_ne hb)

theorem dJx29ce0_ordinal_8abf5_0 : decode cJx29ce0_ordinal_8abf5 0 = .ok (.aload_n 0, 1) := by decide +kernel
theorem dJx29ce0_ordinal_8abf5_1 : decode cJx29ce0_ordinal_8abf5 1 = .ok (.getfield 7, 3) := by decide +kernel
theorem dJx29ce0_ordinal_8abf5_4 : decode cJx29ce0_ordinal_8abf5 4 = .ok (.ireturn, 1) := by decide +kernel
set_option maxHeartbeats 400000 in
set_option maxRecDepth 100000 in
/-- the number of a constant of the enum -/
theorem c_ordinal (l : Launch) (G : hG) (M : hM) (k : Nat) (hk : k < 38) : hCT l G yJx29ce0_ordinal_8abf5 cJx29ce0_ordinal_8abf5 1 (Option.some FieldType.int) (hRm 1 0 0) M [.ref (hSg G k)] (hRd M (.int (nI k))) := by
  refine hCT.of (own := RJx29ce0) (nm := "ordinal") (by decide) rfl rfl (Nat.le_of_ble_eq_true rfl) ?_
  intro p e s m args below meth c ls X Y hl
  have hx := X.1
  have hb := X.2.1
  have hl : lv_has ls 1 [(0, .ref (hSg G k))] := hl
  refine lv_aload_n hx hb dJx29ce0_ordinal_8abf5_0 rfl (lv_at hl 0 rfl) ?_
  refine h_getC X Y (hOF_at X.2.2.2.2.2.2.2.2.2.1 (hsg_ordF X.2.2.2.2.2.2.2.2.1 hk)) kfl_Jx29ce0_7 dJx29ce0_ordinal_8abf5_1 ?_
  exact h_iret X Y ⟨rfl, rfl⟩ (Nat.le_refl _) (Nat.le_refl _) dJx29ce0_ordinal_8abf5_4
end
section
theorem dX5_shareOf_0 : decode cX5_shareOf 0 = .ok (.iload_n 1, 1) := by decide +kernel
theorem dX5_shareOf_1 : decode cX5_shareOf 1 = .ok (.i2l, 1) := by decide +kernel
theorem dX5_shareOf_2 : decode cX5_shareOf 2 = .ok (.aload_n 0, 1) := by decide +kernel
theorem dX5_shareOf_3 : decode cX5_shareOf 3 = .ok (.getfield 21, 3) := by decide +kernel
theorem dX5_shareOf_6 : decode cX5_shareOf 6 = .ok (.i2l, 1) := by decide +kernel
theorem dX5_shareOf_7 : decode cX5_shareOf 7 = .ok (.lmul, 1) := by decide +kernel
theorem dX5_shareOf_8 : decode cX5_shareOf 8 = .ok (.ldc2_w 95, 3) := by decide +kernel
theorem dX5_shareOf_11 : decode cX5_shareOf 11 = .ok (.ldiv, 1) := by decide +kernel
theorem dX5_shareOf_12 : decode cX5_shareOf 12 = .ok (.l2i, 1) := by decide +kernel
theorem dX5_shareOf_13 : decode cX5_shareOf 13 = .ok (.ireturn, 1) := by decide +kernel
set_option maxHeartbeats 400000 in
set_option maxRecDepth 100000 in
/-- a share of what is borne -/
theorem c_shareOf (l : Launch) (G : hG) (M : hM) (a t : Nat) (L : hLy) (hL : LyV G M a t L) (b : Int32) : hCT l G yX5_shareOf cX5_shareOf 2 (Option.some FieldType.int) (hRm 1 0 0) M [.ref a, .int b] (hRd M (.int (lyShare L b))) := by
  refine hCT.of (own := RX5) (nm := "shareOf") (by decide) rfl rfl (Nat.le_of_ble_eq_true rfl) ?_
  intro p e s m args below meth c ls X Y hl
  have hx := X.1
  have hb := X.2.1
  have hl : lv_has ls 2 [(0, .ref a), (1, .int b)] := hl
  refine lv_iload_n hx hb dX5_shareOf_0 rfl (lv_at hl 1 rfl) ?_
  refine lv_i2l (v := b.toInt64) hx hb dX5_shareOf_1 rfl ?_
  refine lv_aload_n hx hb dX5_shareOf_2 rfl (lv_at hl 0 rfl) ?_
  refine h_get X Y (k := 5) (v := .int (lyI L 0)) hL.1 rfl hin_X5 (by decide) kfl_X5_21 rfl dX5_shareOf_3 ?_
  refine lv_i2l (v := (lyI L 0).toInt64) hx hb dX5_shareOf_6 rfl ?_
  refine lv_lmul hx hb dX5_shareOf_7 ?_
  refine lv_ldc2 hx hb X.2.2.2.2.1 (X.2.2.2.2.2.1 _ kcJ_X5_95) dX5_shareOf_8 ?_
  refine lv_ldiv hx hb dX5_shareOf_11 (by decide) ?_
  refine lv_l2i (v := ((b.toInt64 * ((lyI L 0).toInt64)) / 100).toInt32) hx hb dX5_shareOf_12 rfl ?_
  exact h_iret X Y ⟨rfl, rfl⟩ (Nat.le_refl _) (Nat.le_refl _) dX5_shareOf_13
theorem dX5_borneOf_0 : decode cX5_borneOf 0 = .ok (.iload_n 2, 1) := by decide +kernel
theorem dX5_borneOf_1 : decode cX5_borneOf 1 = .ok (.aload_n 0, 1) := by decide +kernel
theorem dX5_borneOf_2 : decode cX5_borneOf 2 = .ok (.getfield 44, 3) := by decide +kernel
theorem dX5_borneOf_5 : decode cX5_borneOf 5 = .ok (.iload_n 1, 1) := by decide +kernel
theorem dX5_borneOf_6 : decode cX5_borneOf 6 = .ok (.iaload, 1) := by decide +kernel
theorem dX5_borneOf_7 : decode cX5_borneOf 7 = .ok (.isub, 1) := by decide +kernel
theorem dX5_borneOf_8 : decode cX5_borneOf 8 = .ok (.iconst 0, 1) := by decide +kernel
theorem dX5_borneOf_9 : decode cX5_borneOf 9 = .ok (.invokestatic 89, 3) := by decide +kernel
theorem dX5_borneOf_12 : decode cX5_borneOf 12 = .ok (.istore_n 3, 1) := by decide +kernel
theorem dX5_borneOf_13 : decode cX5_borneOf 13 = .ok (.aload_n 0, 1) := by decide +kernel
theorem dX5_borneOf_14 : decode cX5_borneOf 14 = .ok (.getfield 47, 3) := by decide +kernel
theorem dX5_borneOf_17 : decode cX5_borneOf 17 = .ok (.iload_n 1, 1) := by decide +kernel
theorem dX5_borneOf_18 : decode cX5_borneOf 18 = .ok (.laload, 1) := by decide +kernel
theorem dX5_borneOf_19 : decode cX5_borneOf 19 = .ok (.lstore 4, 2) := by decide +kernel
theorem dX5_borneOf_21 : decode cX5_borneOf 21 = .ok (.lload 4, 2) := by decide +kernel
theorem dX5_borneOf_23 : decode cX5_borneOf 23 = .ok (.ldc2_w 67, 3) := by decide +kernel
theorem dX5_borneOf_26 : decode cX5_borneOf 26 = .ok (.lcmp, 1) := by decide +kernel
theorem dX5_borneOf_27 : decode cX5_borneOf 27 = .ok (.ifCond .ne 7, 3) := by decide +kernel
theorem dX5_borneOf_30 : decode cX5_borneOf 30 = .ok (.iload_n 3, 1) := by decide +kernel
theorem dX5_borneOf_31 : decode cX5_borneOf 31 = .ok (.goto 11, 3) := by decide +kernel
theorem dX5_borneOf_34 : decode cX5_borneOf 34 = .ok (.iload_n 3, 1) := by decide +kernel
theorem dX5_borneOf_35 : decode cX5_borneOf 35 = .ok (.i2l, 1) := by decide +kernel
theorem dX5_borneOf_36 : decode cX5_borneOf 36 = .ok (.lload 4, 2) := by decide +kernel
theorem dX5_borneOf_38 : decode cX5_borneOf 38 = .ok (.invokestatic 69, 3) := by decide +kernel
theorem dX5_borneOf_41 : decode cX5_borneOf 41 = .ok (.l2i, 1) := by decide +kernel
theorem dX5_borneOf_42 : decode cX5_borneOf 42 = .ok (.ireturn, 1) := by decide +kernel
set_option maxHeartbeats 400000 in
set_option maxRecDepth 100000 in
/-- what is borne of losses -/
theorem c_borneOf (l : Launch) (G : hG) (M : hM) (a t : Nat) (L : hLy) (hL : LyV G M a t L) (y : Nat) (hy : y < 10) (x : Int32) : hCT l G yX5_borneOf cX5_borneOf 6 (Option.some FieldType.int) (hRm 1 0 0) M [.ref a, .int (nI y), .int x] (hRd M (.int (lyBorne L y x))) := by
  refine hCT.of (own := RX5) (nm := "borneOf") (by decide) rfl rfl (Nat.le_of_ble_eq_true rfl) ?_
  intro p e s m args below meth c ls X Y hl
  have hx := X.1
  have hb := X.2.1
  have hl : lv_has ls 6 [(0, .ref a), (1, .int (nI y)), (2, .int x)] := hl
  refine lv_iload_n hx hb dX5_borneOf_0 rfl (lv_at hl 2 rfl) ?_
  refine lv_aload_n hx hb dX5_borneOf_1 rfl (lv_at hl 0 rfl) ?_
  refine h_get X Y (k := 12) (v := .ref (lyA L 5)) hL.1 rfl hin_X5 (by decide) kfl_X5_44 rfl dX5_borneOf_2 ?_
  refine lv_iload_n hx hb dX5_borneOf_5 rfl (lv_at hl 1 rfl) ?_
  refine h_iald X Y (i := y) hL.2.2.2.2.1 (by omega) (by decide) dX5_borneOf_6 ?_
  refine lv_isub hx hb dX5_borneOf_7 ?_
  refine lv_iconst (v := 0) hx hb dX5_borneOf_8 (by decide) ?_
  refine h_mmax X kml_X5_89 hl.1 (Nat.le_of_ble_eq_true rfl) (Nat.le_of_ble_eq_true rfl) ⟨Nat.le_of_ble_eq_true rfl, Nat.le_of_ble_eq_true rfl⟩ dX5_borneOf_9 ?_
  refine lv_istore_n (lv' := [(3, .int (sMax (x - ((lyN L 3) y)) 0)), (0, .ref a), (1, .int (nI y)), (2, .int x)]) hx hb dX5_borneOf_12 rfl hl (by decide) rfl (fun ls hl => ?_)
  refine lv_aload_n hx hb dX5_borneOf_13 rfl (lv_at hl 1 rfl) ?_
  refine h_get X Y (k := 13) (v := .ref (lyA L 6)) hL.1 rfl hin_X5 (by decide) kfl_X5_47 rfl dX5_borneOf_14 ?_
  refine lv_iload_n hx hb dX5_borneOf_17 rfl (lv_at hl 2 rfl) ?_
  refine h_lald X Y (i := y) hL.2.2.2.2.2 (by omega) (by decide) dX5_borneOf_18 ?_
  refine lv_lstore (lv' := [(4, .long ((lyB L) y)), (3, .int (sMax (x - ((lyN L 3) y)) 0)), (0, .ref a), (1, .int (nI y)), (2, .int x)]) hx hb dX5_borneOf_19 hl (by decide) rfl (fun ls hl => ?_)
  refine lv_lload hx hb dX5_borneOf_21 (lv_at hl 0 rfl) ?_
  refine lv_ldc2 hx hb X.2.2.2.2.1 (X.2.2.2.2.2.1 _ kcJ_X5_67) dX5_borneOf_23 ?_
  refine W.lcmp hx hb dX5_borneOf_26 ?_
  refine lv_if_ne (tgt := 34) hx hb dX5_borneOf_27 (by decide) (fun c27 => ?_) (fun c27 => ?_)
  · refine lv_iload_n hx hb dX5_borneOf_34 rfl (lv_at hl 1 rfl) ?_
    refine lv_i2l (v := (sMax (x - ((lyN L 3) y)) 0).toInt64) hx hb dX5_borneOf_35 rfl ?_
    refine lv_lload hx hb dX5_borneOf_36 (lv_at hl 0 rfl) ?_
    refine h_mminL X kml_X5_69 hl.1 (Nat.le_of_ble_eq_true rfl) (Nat.le_of_ble_eq_true rfl) ⟨Nat.le_of_ble_eq_true rfl, Nat.le_of_ble_eq_true rfl⟩ dX5_borneOf_38 ?_
    refine lv_l2i (v := (sMinL ((sMax (x - ((lyN L 3) y)) 0).toInt64) ((lyB L) y)).toInt32) hx hb dX5_borneOf_41 rfl ?_
    exact h_iret X Y ⟨congrArg (fun z => some (Value.int z)) (if_neg (lg_cmp_n c27)).symm, rfl⟩ (Nat.le_refl _) (Nat.le_refl _) dX5_borneOf_42
  · refine lv_iload_n hx hb dX5_borneOf_30 rfl (lv_at hl 1 rfl) ?_
    refine lv_goto (tgt := 42) hx hb dX5_borneOf_31 (by decide) ?_
    exact h_iret X Y ⟨congrArg (fun z => some (Value.int z)) (if_pos (lg_cmp_0 c27)).symm, rfl⟩ (Nat.le_refl _) (Nat.le_refl _) dX5_borneOf_42
theorem dX5_roomIn_0 : decode cX5_roomIn 0 = .ok (.aload_n 0, 1) := by decide +kernel
theorem dX5_roomIn_1 : decode cX5_roomIn 1 = .ok (.getfield 47, 3) := by decide +kernel
theorem dX5_roomIn_4 : decode cX5_roomIn 4 = .ok (.iload_n 1, 1) := by decide +kernel
theorem dX5_roomIn_5 : decode cX5_roomIn 5 = .ok (.laload, 1) := by decide +kernel
theorem dX5_roomIn_6 : decode cX5_roomIn 6 = .ok (.lstore_n 3, 1) := by decide +kernel
theorem dX5_roomIn_7 : decode cX5_roomIn 7 = .ok (.lload_n 3, 1) := by decide +kernel
theorem dX5_roomIn_8 : decode cX5_roomIn 8 = .ok (.ldc2_w 67, 3) := by decide +kernel
theorem dX5_roomIn_11 : decode cX5_roomIn 11 = .ok (.lcmp, 1) := by decide +kernel
theorem dX5_roomIn_12 : decode cX5_roomIn 12 = .ok (.ifCond .ne 7, 3) := by decide +kernel
theorem dX5_roomIn_15 : decode cX5_roomIn 15 = .ok (.iconst (-1), 1) := by decide +kernel
theorem dX5_roomIn_16 : decode cX5_roomIn 16 = .ok (.goto 14, 3) := by decide +kernel
theorem dX5_roomIn_19 : decode cX5_roomIn 19 = .ok (.lload_n 3, 1) := by decide +kernel
theorem dX5_roomIn_20 : decode cX5_roomIn 20 = .ok (.iload_n 2, 1) := by decide +kernel
theorem dX5_roomIn_21 : decode cX5_roomIn 21 = .ok (.i2l, 1) := by decide +kernel
theorem dX5_roomIn_22 : decode cX5_roomIn 22 = .ok (.lsub, 1) := by decide +kernel
theorem dX5_roomIn_23 : decode cX5_roomIn 23 = .ok (.ldc2_w 75, 3) := by decide +kernel
theorem dX5_roomIn_26 : decode cX5_roomIn 26 = .ok (.invokestatic 69, 3) := by decide +kernel
theorem dX5_roomIn_29 : decode cX5_roomIn 29 = .ok (.l2i, 1) := by decide +kernel
theorem dX5_roomIn_30 : decode cX5_roomIn 30 = .ok (.ireturn, 1) := by decide +kernel
set_option maxHeartbeats 400000 in
set_option maxRecDepth 100000 in
/-- how much more it could bear -/
theorem c_roomIn (l : Launch) (G : hG) (M : hM) (a t : Nat) (L : hLy) (hL : LyV G M a t L) (y : Nat) (hy : y < 10) (b : Int32) : hCT l G yX5_roomIn cX5_roomIn 5 (Option.some FieldType.int) (hRm 1 0 0) M [.ref a, .int (nI y), .int b] (hRd M (.int (lyRoom L y b))) := by
  refine hCT.of (own := RX5) (nm := "roomIn") (by decide) rfl rfl (Nat.le_of_ble_eq_true rfl) ?_
  intro p e s m args below meth c ls X Y hl
  have hx := X.1
  have hb := X.2.1
  have hl : lv_has ls 5 [(0, .ref a), (1, .int (nI y)), (2, .int b)] := hl
  refine lv_aload_n hx hb dX5_roomIn_0 rfl (lv_at hl 0 rfl) ?_
  refine h_get X Y (k := 13) (v := .ref (lyA L 6)) hL.1 rfl hin_X5 (by decide) kfl_X5_47 rfl dX5_roomIn_1 ?_
  refine lv_iload_n hx hb dX5_roomIn_4 rfl (lv_at hl 1 rfl) ?_
  refine h_lald X Y (i := y) hL.2.2.2.2.2 (by omega) (by decide) dX5_roomIn_5 ?_
  refine lv_lstore_n (lv' := [(3, .long ((lyB L) y)), (0, .ref a), (1, .int (nI y)), (2, .int b)]) hx hb dX5_roomIn_6 rfl hl (by decide) rfl (fun ls hl => ?_)
  refine lv_lload_n hx hb dX5_roomIn_7 rfl (lv_at hl 0 rfl) ?_
  refine lv_ldc2 hx hb X.2.2.2.2.1 (X.2.2.2.2.2.1 _ kcJ_X5_67) dX5_roomIn_8 ?_
  refine W.lcmp hx hb dX5_roomIn_11 ?_
  refine lv_if_ne (tgt := 19) hx hb dX5_roomIn_12 (by decide) (fun c12 => ?_) (fun c12 => ?_)
  · refine lv_lload_n hx hb dX5_roomIn_19 rfl (lv_at hl 0 rfl) ?_
    refine lv_iload_n hx hb dX5_roomIn_20 rfl (lv_at hl 3 rfl) ?_
    refine lv_i2l (v := b.toInt64) hx hb dX5_roomIn_21 rfl ?_
    refine lv_lsub hx hb dX5_roomIn_22 ?_
    refine lv_ldc2 hx hb X.2.2.2.2.1 (X.2.2.2.2.2.1 _ kcJ_X5_75) dX5_roomIn_23 ?_
    refine h_mminL X kml_X5_69 hl.1 (Nat.le_of_ble_eq_true rfl) (Nat.le_of_ble_eq_true rfl) ⟨Nat.le_of_ble_eq_true rfl, Nat.le_of_ble_eq_true rfl⟩ dX5_roomIn_26 ?_
    refine lv_l2i (v := (sMinL (((lyB L) y) - b.toInt64) 2147483647).toInt32) hx hb dX5_roomIn_29 rfl ?_
    exact h_iret X Y ⟨congrArg (fun z => some (Value.int z)) (if_neg (lg_cmp_n c12)).symm, rfl⟩ (Nat.le_refl _) (Nat.le_refl _) dX5_roomIn_30
  · refine lv_iconst (v := (-1)) hx hb dX5_roomIn_15 (by decide) ?_
    refine lv_goto (tgt := 30) hx hb dX5_roomIn_16 (by decide) ?_
    exact h_iret X Y ⟨congrArg (fun z => some (Value.int z)) (if_pos (lg_cmp_0 c12)).symm, rfl⟩ (Nat.le_refl _) (Nat.le_refl _) dX5_roomIn_30
theorem dX5_isNetOf_0 : decode cX5_isNetOf 0 = .ok (.aload_n 0, 1) := by decide +kernel
theorem dX5_isNetOf_1 : decode cX5_isNetOf 1 = .ok (.getfield 35, 3) := by decide +kernel
theorem dX5_isNetOf_4 : decode cX5_isNetOf 4 = .ok (.iload_n 1, 1) := by decide +kernel
theorem dX5_isNetOf_5 : decode cX5_isNetOf 5 = .ok (.ishr, 1) := by decide +kernel
theorem dX5_isNetOf_6 : decode cX5_isNetOf 6 = .ok (.iconst 1, 1) := by decide +kernel
theorem dX5_isNetOf_7 : decode cX5_isNetOf 7 = .ok (.iand, 1) := by decide +kernel
theorem dX5_isNetOf_8 : decode cX5_isNetOf 8 = .ok (.iconst 1, 1) := by decide +kernel
theorem dX5_isNetOf_9 : decode cX5_isNetOf 9 = .ok (.if_icmp .ne 7, 3) := by decide +kernel
theorem dX5_isNetOf_12 : decode cX5_isNetOf 12 = .ok (.iconst 1, 1) := by decide +kernel
theorem dX5_isNetOf_13 : decode cX5_isNetOf 13 = .ok (.goto 4, 3) := by decide +kernel
theorem dX5_isNetOf_16 : decode cX5_isNetOf 16 = .ok (.iconst 0, 1) := by decide +kernel
theorem dX5_isNetOf_17 : decode cX5_isNetOf 17 = .ok (.ireturn, 1) := by decide +kernel
set_option maxHeartbeats 400000 in
set_option maxRecDepth 100000 in
/-- whether it is net of the layer k -/
theorem c_isNetOf (l : Launch) (G : hG) (M : hM) (a t : Nat) (L : hLy) (hL : LyV G M a t L) (k : Nat) : hCT l G yX5_isNetOf cX5_isNetOf 2 (Option.some FieldType.boolean) (hRm 1 0 0) M [.ref a, .int (nI k)] (hRd M (.int (if lyNet L k then 1 else 0))) := by
  refine hCT.of (own := RX5) (nm := "isNetOf") (by decide) rfl rfl (Nat.le_of_ble_eq_true rfl) ?_
  intro p e s m args below meth c ls X Y hl
  have hx := X.1
  have hb := X.2.1
  have hl : lv_has ls 2 [(0, .ref a), (1, .int (nI k))] := hl
  refine lv_aload_n hx hb dX5_isNetOf_0 rfl (lv_at hl 0 rfl) ?_
  refine h_get X Y (k := 9) (v := .int (lyI L 3)) hL.1 rfl hin_X5 (by decide) kfl_X5_35 rfl dX5_isNetOf_1 ?_
  refine lv_iload_n hx hb dX5_isNetOf_4 rfl (lv_at hl 1 rfl) ?_
  refine lv_ishr hx hb dX5_isNetOf_5 ?_
  refine lv_iconst (v := 1) hx hb dX5_isNetOf_6 (by decide) ?_
  refine lv_iand hx hb dX5_isNetOf_7 ?_
  refine lv_iconst (v := 1) hx hb dX5_isNetOf_8 (by decide) ?_
  refine lv_icmp_ne (tgt := 16) hx hb dX5_isNetOf_9 (by decide) (fun c9 => ?_) (fun c9 => ?_)
  · refine lv_iconst (v := 0) hx hb dX5_isNetOf_16 (by decide) ?_
    exact h_zret X Y rfl ⟨congrArg (fun z => some (Value.int z)) (if_neg c9).symm, rfl⟩ (Nat.le_refl _) (Nat.le_refl _) dX5_isNetOf_17
  · refine lv_iconst (v := 1) hx hb dX5_isNetOf_12 (by decide) ?_
    refine lv_goto (tgt := 17) hx hb dX5_isNetOf_13 (by decide) ?_
    exact h_zret X Y rfl ⟨congrArg (fun z => some (Value.int z)) (if_pos c9).symm, rfl⟩ (Nat.le_refl _) (Nat.le_refl _) dX5_isNetOf_17
theorem dX5_tellYear_0 : decode cX5_tellYear 0 = .ok (.iload_n 2, 1) := by decide +kernel
theorem dX5_tellYear_1 : decode cX5_tellYear 1 = .ok (.tableswitch 48 0 2 #[27, 34, 41], 27) := by decide +kernel
theorem dX5_tellYear_28 : decode cX5_tellYear 28 = .ok (.aload_n 0, 1) := by decide +kernel
theorem dX5_tellYear_29 : decode cX5_tellYear 29 = .ok (.getfield 38, 3) := by decide +kernel
theorem dX5_tellYear_32 : decode cX5_tellYear 32 = .ok (.iload_n 1, 1) := by decide +kernel
theorem dX5_tellYear_33 : decode cX5_tellYear 33 = .ok (.iaload, 1) := by decide +kernel
theorem dX5_tellYear_34 : decode cX5_tellYear 34 = .ok (.ireturn, 1) := by decide +kernel
theorem dX5_tellYear_35 : decode cX5_tellYear 35 = .ok (.aload_n 0, 1) := by decide +kernel
theorem dX5_tellYear_36 : decode cX5_tellYear 36 = .ok (.getfield 41, 3) := by decide +kernel
theorem dX5_tellYear_39 : decode cX5_tellYear 39 = .ok (.iload_n 1, 1) := by decide +kernel
theorem dX5_tellYear_40 : decode cX5_tellYear 40 = .ok (.iaload, 1) := by decide +kernel
theorem dX5_tellYear_41 : decode cX5_tellYear 41 = .ok (.ireturn, 1) := by decide +kernel
theorem dX5_tellYear_42 : decode cX5_tellYear 42 = .ok (.aload_n 0, 1) := by decide +kernel
theorem dX5_tellYear_43 : decode cX5_tellYear 43 = .ok (.getfield 44, 3) := by decide +kernel
theorem dX5_tellYear_46 : decode cX5_tellYear 46 = .ok (.iload_n 1, 1) := by decide +kernel
theorem dX5_tellYear_47 : decode cX5_tellYear 47 = .ok (.iaload, 1) := by decide +kernel
theorem dX5_tellYear_48 : decode cX5_tellYear 48 = .ok (.ireturn, 1) := by decide +kernel
theorem dX5_tellYear_49 : decode cX5_tellYear 49 = .ok (.aload_n 0, 1) := by decide +kernel
theorem dX5_tellYear_50 : decode cX5_tellYear 50 = .ok (.getfield 47, 3) := by decide +kernel
theorem dX5_tellYear_53 : decode cX5_tellYear 53 = .ok (.iload_n 1, 1) := by decide +kernel
theorem dX5_tellYear_54 : decode cX5_tellYear 54 = .ok (.laload, 1) := by decide +kernel
theorem dX5_tellYear_55 : decode cX5_tellYear 55 = .ok (.ldc2_w 75, 3) := by decide +kernel
theorem dX5_tellYear_58 : decode cX5_tellYear 58 = .ok (.invokestatic 69, 3) := by decide +kernel
theorem dX5_tellYear_61 : decode cX5_tellYear 61 = .ok (.l2i, 1) := by decide +kernel
theorem dX5_tellYear_62 : decode cX5_tellYear 62 = .ok (.ireturn, 1) := by decide +kernel
set_option maxHeartbeats 400000 in
set_option maxRecDepth 100000 in
/-- what it tells of a year -/
theorem c_tellYear (l : Launch) (G : hG) (M : hM) (a t : Nat) (L : hLy) (hL : LyV G M a t L) (y what : Nat) (hy : y < 10) (hw : what < 4) : hCT l G yX5_tellYear cX5_tellYear 3 (Option.some FieldType.int) (hRm 1 0 0) M [.ref a, .int (nI y), .int (nI what)] (hRd M (.int (lyYear L y what))) := by
  refine hCT.of (own := RX5) (nm := "tellYear") (by decide) rfl rfl (Nat.le_of_ble_eq_true rfl) ?_
  intro p e s m args below meth c ls X Y hl
  have hx := X.1
  have hb := X.2.1
  have hl : lv_has ls 3 [(0, .ref a), (1, .int (nI y)), (2, .int (nI what))] := hl
  refine lv_iload_n hx hb dX5_tellYear_0 rfl (lv_at hl 2 rfl) ?_
  rcases (show what = 0 ∨ what = 1 ∨ what = 2 ∨ what = 3 from (by omega)) with rfl | rfl | rfl | rfl
  · refine lv_tableIn (off := 27) (tgt := 28) hx hb dX5_tellYear_1 (by decide) (by decide) (by decide) (by decide) ?_
    refine lv_aload_n hx hb dX5_tellYear_28 rfl (lv_at hl 0 rfl) ?_
    refine h_get X Y (k := 10) (v := .ref (lyA L 3)) hL.1 rfl hin_X5 (by decide) kfl_X5_38 rfl dX5_tellYear_29 ?_
    refine lv_iload_n hx hb dX5_tellYear_32 rfl (lv_at hl 1 rfl) ?_
    refine h_iald X Y (i := y) hL.2.2.1 (by omega) (by decide) dX5_tellYear_33 ?_
    exact h_iret X Y ⟨rfl, rfl⟩ (Nat.le_refl _) (Nat.le_refl _) dX5_tellYear_34
  · refine lv_tableIn (off := 34) (tgt := 35) hx hb dX5_tellYear_1 (by decide) (by decide) (by decide) (by decide) ?_
    refine lv_aload_n hx hb dX5_tellYear_35 rfl (lv_at hl 0 rfl) ?_
    refine h_get X Y (k := 11) (v := .ref (lyA L 4)) hL.1 rfl hin_X5 (by decide) kfl_X5_41 rfl dX5_tellYear_36 ?_
    refine lv_iload_n hx hb dX5_tellYear_39 rfl (lv_at hl 1 rfl) ?_
    refine h_iald X Y (i := y) hL.2.2.2.1 (by omega) (by decide) dX5_tellYear_40 ?_
    exact h_iret X Y ⟨rfl, rfl⟩ (Nat.le_refl _) (Nat.le_refl _) dX5_tellYear_41
  · refine lv_tableIn (off := 41) (tgt := 42) hx hb dX5_tellYear_1 (by decide) (by decide) (by decide) (by decide) ?_
    refine lv_aload_n hx hb dX5_tellYear_42 rfl (lv_at hl 0 rfl) ?_
    refine h_get X Y (k := 12) (v := .ref (lyA L 5)) hL.1 rfl hin_X5 (by decide) kfl_X5_44 rfl dX5_tellYear_43 ?_
    refine lv_iload_n hx hb dX5_tellYear_46 rfl (lv_at hl 1 rfl) ?_
    refine h_iald X Y (i := y) hL.2.2.2.2.1 (by omega) (by decide) dX5_tellYear_47 ?_
    exact h_iret X Y ⟨rfl, rfl⟩ (Nat.le_refl _) (Nat.le_refl _) dX5_tellYear_48
  · refine lv_tableOut (tgt := 49) hx hb dX5_tellYear_1 (by decide) (by decide) ?_
    refine lv_aload_n hx hb dX5_tellYear_49 rfl (lv_at hl 0 rfl) ?_
    refine h_get X Y (k := 13) (v := .ref (lyA L 6)) hL.1 rfl hin_X5 (by decide) kfl_X5_47 rfl dX5_tellYear_50 ?_
    refine lv_iload_n hx hb dX5_tellYear_53 rfl (lv_at hl 1 rfl) ?_
    refine h_lald X Y (i := y) hL.2.2.2.2.2 (by omega) (by decide) dX5_tellYear_54 ?_
    refine lv_ldc2 hx hb X.2.2.2.2.1 (X.2.2.2.2.2.1 _ kcJ_X5_75) dX5_tellYear_55 ?_
    refine h_mminL X kml_X5_69 hl.1 (Nat.le_of_ble_eq_true rfl) (Nat.le_of_ble_eq_true rfl) ⟨Nat.le_of_ble_eq_true rfl, Nat.le_of_ble_eq_true rfl⟩ dX5_tellYear_58 ?_
    refine lv_l2i (v := (sMinL ((lyB L) y) 2147483647).toInt32) hx hb dX5_tellYear_61 rfl ?_
    exact h_iret X Y ⟨rfl, rfl⟩ (Nat.le_refl _) (Nat.le_refl _) dX5_tellYear_62
theorem dX5_tell_0 : decode cX5_tell 0 = .ok (.iload_n 1, 1) := by decide +kernel
theorem dX5_tell_1 : decode cX5_tell 1 = .ok (.tableswitch 59 0 3 #[31, 36, 41, 54], 31) := by decide +kernel
theorem dX5_tell_32 : decode cX5_tell 32 = .ok (.aload_n 0, 1) := by decide +kernel
theorem dX5_tell_33 : decode cX5_tell 33 = .ok (.getfield 21, 3) := by decide +kernel
theorem dX5_tell_36 : decode cX5_tell 36 = .ok (.ireturn, 1) := by decide +kernel
theorem dX5_tell_37 : decode cX5_tell 37 = .ok (.aload_n 0, 1) := by decide +kernel
theorem dX5_tell_38 : decode cX5_tell 38 = .ok (.getfield 25, 3) := by decide +kernel
theorem dX5_tell_41 : decode cX5_tell 41 = .ok (.ireturn, 1) := by decide +kernel
theorem dX5_tell_42 : decode cX5_tell 42 = .ok (.aload_n 0, 1) := by decide +kernel
theorem dX5_tell_43 : decode cX5_tell 43 = .ok (.getfield 9, 3) := by decide +kernel
theorem dX5_tell_46 : decode cX5_tell 46 = .ok (.ifnonnull 7, 3) := by decide +kernel
theorem dX5_tell_49 : decode cX5_tell 49 = .ok (.iconst 0, 1) := by decide +kernel
theorem dX5_tell_50 : decode cX5_tell 50 = .ok (.goto 4, 3) := by decide +kernel
theorem dX5_tell_53 : decode cX5_tell 53 = .ok (.iconst 1, 1) := by decide +kernel
theorem dX5_tell_54 : decode cX5_tell 54 = .ok (.ireturn, 1) := by decide +kernel
theorem dX5_tell_55 : decode cX5_tell 55 = .ok (.aload_n 0, 1) := by decide +kernel
theorem dX5_tell_56 : decode cX5_tell 56 = .ok (.getfield 35, 3) := by decide +kernel
theorem dX5_tell_59 : decode cX5_tell 59 = .ok (.ireturn, 1) := by decide +kernel
theorem dX5_tell_60 : decode cX5_tell 60 = .ok (.iload_n 1, 1) := by decide +kernel
theorem dX5_tell_61 : decode cX5_tell 61 = .ok (.iconst 4, 1) := by decide +kernel
theorem dX5_tell_62 : decode cX5_tell 62 = .ok (.if_icmp .lt 25, 3) := by decide +kernel
theorem dX5_tell_65 : decode cX5_tell 65 = .ok (.iload_n 1, 1) := by decide +kernel
theorem dX5_tell_66 : decode cX5_tell 66 = .ok (.iconst 4, 1) := by decide +kernel
theorem dX5_tell_67 : decode cX5_tell 67 = .ok (.aload_n 0, 1) := by decide +kernel
theorem dX5_tell_68 : decode cX5_tell 68 = .ok (.getfield 28, 3) := by decide +kernel
theorem dX5_tell_71 : decode cX5_tell 71 = .ok (.arraylength, 1) := by decide +kernel
theorem dX5_tell_72 : decode cX5_tell 72 = .ok (.iadd, 1) := by decide +kernel
theorem dX5_tell_73 : decode cX5_tell 73 = .ok (.if_icmp .ge 14, 3) := by decide +kernel
theorem dX5_tell_76 : decode cX5_tell 76 = .ok (.aload_n 0, 1) := by decide +kernel
theorem dX5_tell_77 : decode cX5_tell 77 = .ok (.getfield 28, 3) := by decide +kernel
theorem dX5_tell_80 : decode cX5_tell 80 = .ok (.iload_n 1, 1) := by decide +kernel
theorem dX5_tell_81 : decode cX5_tell 81 = .ok (.iconst 4, 1) := by decide +kernel
theorem dX5_tell_82 : decode cX5_tell 82 = .ok (.isub, 1) := by decide +kernel
theorem dX5_tell_83 : decode cX5_tell 83 = .ok (.iaload, 1) := by decide +kernel
theorem dX5_tell_84 : decode cX5_tell 84 = .ok (.goto 4, 3) := by decide +kernel
theorem dX5_tell_88 : decode cX5_tell 88 = .ok (.ireturn, 1) := by decide +kernel
set_option maxHeartbeats 400000 in
set_option maxRecDepth 100000 in
/-- what it tells -/
theorem c_tell (l : Launch) (G : hG) (M : hM) (a t : Nat) (L : hLy) (hL : LyV G M a t L) (what : Nat) (hw : what < 8) : hCT l G yX5_tell cX5_tell 2 (Option.some FieldType.int) (hRm 1 0 0) M [.ref a, .int (nI what)] (hRd M (.int (lyTell L what))) := by
  refine hCT.of (own := RX5) (nm := "tell") (by decide) rfl rfl (Nat.le_of_ble_eq_true rfl) ?_
  intro p e s m args below meth c ls X Y hl
  have hx := X.1
  have hb := X.2.1
  have hl : lv_has ls 2 [(0, .ref a), (1, .int (nI what))] := hl
  refine lv_iload_n hx hb dX5_tell_0 rfl (lv_at hl 1 rfl) ?_
  rcases (show what = 0 ∨ what = 1 ∨ what = 2 ∨ what = 3 ∨ what = 4 ∨ what = 5 ∨ what = 6 ∨ what = 7 from (by omega)) with rfl | rfl | rfl | rfl | rfl | rfl | rfl | rfl
  · refine lv_tableIn (off := 31) (tgt := 32) hx hb dX5_tell_1 (by decide) (by decide) (by decide) (by decide) ?_
    refine lv_aload_n hx hb dX5_tell_32 rfl (lv_at hl 0 rfl) ?_
    refine h_get X Y (k := 5) (v := .int (lyI L 0)) hL.1 rfl hin_X5 (by decide) kfl_X5_21 rfl dX5_tell_33 ?_
    exact h_iret X Y ⟨rfl, rfl⟩ (Nat.le_refl _) (Nat.le_refl _) dX5_tell_36
  · refine lv_tableIn (off := 36) (tgt := 37) hx hb dX5_tell_1 (by decide) (by decide) (by decide) (by decide) ?_
    refine lv_aload_n hx hb dX5_tell_37 rfl (lv_at hl 0 rfl) ?_
    refine h_get X Y (k := 6) (v := .int (lyI L 1)) hL.1 rfl hin_X5 (by decide) kfl_X5_25 rfl dX5_tell_38 ?_
    exact h_iret X Y ⟨rfl, rfl⟩ (Nat.le_refl _) (Nat.le_refl _) dX5_tell_41
  · refine lv_tableIn (off := 41) (tgt := 42) hx hb dX5_tell_1 (by decide) (by decide) (by decide) (by decide) ?_
    refine lv_aload_n hx hb dX5_tell_42 rfl (lv_at hl 0 rfl) ?_
    refine h_get X Y (k := 2) (v := va_rf (lyR L 0)) hL.1 rfl hin_X5 (by decide) kfl_X5_9 rfl dX5_tell_43 ?_
    cases hq : lyR L 0 with
    | none =>
      refine lv_ifnonnullN hx hb dX5_tell_46 ?_
      refine lv_iconst (v := 0) hx hb dX5_tell_49 (by decide) ?_
      refine lv_goto (tgt := 54) hx hb dX5_tell_50 (by decide) ?_
      exact h_iret X Y ⟨by simp only [lyTell, hq]; rfl, rfl⟩ (Nat.le_refl _) (Nat.le_refl _) dX5_tell_54
    | some q =>
      refine lv_ifnonnull (tgt := 53) hx hb dX5_tell_46 (by decide) ?_
      refine lv_iconst (v := 1) hx hb dX5_tell_53 (by decide) ?_
      exact h_iret X Y ⟨by simp only [lyTell, hq]; rfl, rfl⟩ (Nat.le_refl _) (Nat.le_refl _) dX5_tell_54
  · refine lv_tableIn (off := 54) (tgt := 55) hx hb dX5_tell_1 (by decide) (by decide) (by decide) (by decide) ?_
    refine lv_aload_n hx hb dX5_tell_55 rfl (lv_at hl 0 rfl) ?_
    refine h_get X Y (k := 9) (v := .int (lyI L 3)) hL.1 rfl hin_X5 (by decide) kfl_X5_35 rfl dX5_tell_56 ?_
    exact h_iret X Y ⟨rfl, rfl⟩ (Nat.le_refl _) (Nat.le_refl _) dX5_tell_59
  · refine lv_tableOut (tgt := 60) hx hb dX5_tell_1 (by decide) (by decide) ?_
    refine lv_iload_n hx hb dX5_tell_60 rfl (lv_at hl 1 rfl) ?_
    refine lv_iconst (v := 4) hx hb dX5_tell_61 (by decide) ?_
    refine lv_icmp_lt (tgt := 87) hx hb dX5_tell_62 (by decide) (fun c62 => absurd c62 (by decide)) (fun c62 => ?_)
    refine lv_iload_n hx hb dX5_tell_65 rfl (lv_at hl 1 rfl) ?_
    refine lv_iconst (v := 4) hx hb dX5_tell_66 (by decide) ?_
    refine lv_aload_n hx hb dX5_tell_67 rfl (lv_at hl 0 rfl) ?_
    refine h_get X Y (k := 7) (v := .ref (lyA L 2)) hL.1 rfl hin_X5 (by decide) kfl_X5_28 rfl dX5_tell_68 ?_
    refine h_alen X Y 0 hL.2.1 rfl dX5_tell_71 ?_
    refine lv_iadd hx hb dX5_tell_72 ?_
    refine h_ev (y := nI 8) (by decide) ?_
    refine lv_icmp_ge (tgt := 87) hx hb dX5_tell_73 (by decide) (fun c73 => absurd c73 (by decide)) (fun c73 => ?_)
    refine lv_aload_n hx hb dX5_tell_76 rfl (lv_at hl 0 rfl) ?_
    refine h_get X Y (k := 7) (v := .ref (lyA L 2)) hL.1 rfl hin_X5 (by decide) kfl_X5_28 rfl dX5_tell_77 ?_
    refine lv_iload_n hx hb dX5_tell_80 rfl (lv_at hl 1 rfl) ?_
    refine lv_iconst (v := 4) hx hb dX5_tell_81 (by decide) ?_
    refine lv_isub hx hb dX5_tell_82 ?_
    refine h_ev (y := nI 0) (by decide) ?_
    refine h_iald X Y (i := 0) hL.2.1 (by omega) (by decide) dX5_tell_83 ?_
    refine lv_goto (tgt := 88) hx hb dX5_tell_84 (by decide) ?_
    exact h_iret X Y ⟨rfl, rfl⟩ (Nat.le_refl _) (Nat.le_refl _) dX5_tell_88
  · refine lv_tableOut (tgt := 60) hx hb dX5_tell_1 (by decide) (by decide) ?_
    refine lv_iload_n hx hb dX5_tell_60 rfl (lv_at hl 1 rfl) ?_
    refine lv_iconst (v := 4) hx hb dX5_tell_61 (by decide) ?_
    refine lv_icmp_lt (tgt := 87) hx hb dX5_tell_62 (by decide) (fun c62 => absurd c62 (by decide)) (fun c62 => ?_)
    refine lv_iload_n hx hb dX5_tell_65 rfl (lv_at hl 1 rfl) ?_
    refine lv_iconst (v := 4) hx hb dX5_tell_66 (by decide) ?_
    refine lv_aload_n hx hb dX5_tell_67 rfl (lv_at hl 0 rfl) ?_
    refine h_get X Y (k := 7) (v := .ref (lyA L 2)) hL.1 rfl hin_X5 (by decide) kfl_X5_28 rfl dX5_tell_68 ?_
    refine h_alen X Y 0 hL.2.1 rfl dX5_tell_71 ?_
    refine lv_iadd hx hb dX5_tell_72 ?_
    refine h_ev (y := nI 8) (by decide) ?_
    refine lv_icmp_ge (tgt := 87) hx hb dX5_tell_73 (by decide) (fun c73 => absurd c73 (by decide)) (fun c73 => ?_)
    refine lv_aload_n hx hb dX5_tell_76 rfl (lv_at hl 0 rfl) ?_
    refine h_get X Y (k := 7) (v := .ref (lyA L 2)) hL.1 rfl hin_X5 (by decide) kfl_X5_28 rfl dX5_tell_77 ?_
    refine lv_iload_n hx hb dX5_tell_80 rfl (lv_at hl 1 rfl) ?_
    refine lv_iconst (v := 4) hx hb dX5_tell_81 (by decide) ?_
    refine lv_isub hx hb dX5_tell_82 ?_
    refine h_ev (y := nI 1) (by decide) ?_
    refine h_iald X Y (i := 1) hL.2.1 (by omega) (by decide) dX5_tell_83 ?_
    refine lv_goto (tgt := 88) hx hb dX5_tell_84 (by decide) ?_
    exact h_iret X Y ⟨rfl, rfl⟩ (Nat.le_refl _) (Nat.le_refl _) dX5_tell_88
  · refine lv_tableOut (tgt := 60) hx hb dX5_tell_1 (by decide) (by decide) ?_
    refine lv_iload_n hx hb dX5_tell_60 rfl (lv_at hl 1 rfl) ?_
    refine lv_iconst (v := 4) hx hb dX5_tell_61 (by decide) ?_
    refine lv_icmp_lt (tgt := 87) hx hb dX5_tell_62 (by decide) (fun c62 => absurd c62 (by decide)) (fun c62 => ?_)
    refine lv_iload_n hx hb dX5_tell_65 rfl (lv_at hl 1 rfl) ?_
    refine lv_iconst (v := 4) hx hb dX5_tell_66 (by decide) ?_
    refine lv_aload_n hx hb dX5_tell_67 rfl (lv_at hl 0 rfl) ?_
    refine h_get X Y (k := 7) (v := .ref (lyA L 2)) hL.1 rfl hin_X5 (by decide) kfl_X5_28 rfl dX5_tell_68 ?_
    refine h_alen X Y 0 hL.2.1 rfl dX5_tell_71 ?_
    refine lv_iadd hx hb dX5_tell_72 ?_
    refine h_ev (y := nI 8) (by decide) ?_
    refine lv_icmp_ge (tgt := 87) hx hb dX5_tell_73 (by decide) (fun c73 => absurd c73 (by decide)) (fun c73 => ?_)
    refine lv_aload_n hx hb dX5_tell_76 rfl (lv_at hl 0 rfl) ?_
    refine h_get X Y (k := 7) (v := .ref (lyA L 2)) hL.1 rfl hin_X5 (by decide) kfl_X5_28 rfl dX5_tell_77 ?_
    refine lv_iload_n hx hb dX5_tell_80 rfl (lv_at hl 1 rfl) ?_
    refine lv_iconst (v := 4) hx hb dX5_tell_81 (by decide) ?_
    refine lv_isub hx hb dX5_tell_82 ?_
    refine h_ev (y := nI 2) (by decide) ?_
    refine h_iald X Y (i := 2) hL.2.1 (by omega) (by decide) dX5_tell_83 ?_
    refine lv_goto (tgt := 88) hx hb dX5_tell_84 (by decide) ?_
    exact h_iret X Y ⟨rfl, rfl⟩ (Nat.le_refl _) (Nat.le_refl _) dX5_tell_88
  · refine lv_tableOut (tgt := 60) hx hb dX5_tell_1 (by decide) (by decide) ?_
    refine lv_iload_n hx hb dX5_tell_60 rfl (lv_at hl 1 rfl) ?_
    refine lv_iconst (v := 4) hx hb dX5_tell_61 (by decide) ?_
    refine lv_icmp_lt (tgt := 87) hx hb dX5_tell_62 (by decide) (fun c62 => absurd c62 (by decide)) (fun c62 => ?_)
    refine lv_iload_n hx hb dX5_tell_65 rfl (lv_at hl 1 rfl) ?_
    refine lv_iconst (v := 4) hx hb dX5_tell_66 (by decide) ?_
    refine lv_aload_n hx hb dX5_tell_67 rfl (lv_at hl 0 rfl) ?_
    refine h_get X Y (k := 7) (v := .ref (lyA L 2)) hL.1 rfl hin_X5 (by decide) kfl_X5_28 rfl dX5_tell_68 ?_
    refine h_alen X Y 0 hL.2.1 rfl dX5_tell_71 ?_
    refine lv_iadd hx hb dX5_tell_72 ?_
    refine h_ev (y := nI 8) (by decide) ?_
    refine lv_icmp_ge (tgt := 87) hx hb dX5_tell_73 (by decide) (fun c73 => absurd c73 (by decide)) (fun c73 => ?_)
    refine lv_aload_n hx hb dX5_tell_76 rfl (lv_at hl 0 rfl) ?_
    refine h_get X Y (k := 7) (v := .ref (lyA L 2)) hL.1 rfl hin_X5 (by decide) kfl_X5_28 rfl dX5_tell_77 ?_
    refine lv_iload_n hx hb dX5_tell_80 rfl (lv_at hl 1 rfl) ?_
    refine lv_iconst (v := 4) hx hb dX5_tell_81 (by decide) ?_
    refine lv_isub hx hb dX5_tell_82 ?_
    refine h_ev (y := nI 3) (by decide) ?_
    refine h_iald X Y (i := 3) hL.2.1 (by omega) (by decide) dX5_tell_83 ?_
    refine lv_goto (tgt := 88) hx hb dX5_tell_84 (by decide) ?_
    exact h_iret X Y ⟨rfl, rfl⟩ (Nat.le_refl _) (Nat.le_refl _) dX5_tell_88
theorem dX5_chargeOf_0 : decode cX5_chargeOf 0 = .ok (.aload_n 0, 1) := by decide +kernel
theorem dX5_chargeOf_1 : decode cX5_chargeOf 1 = .ok (.getfield 38, 3) := by decide +kernel
theorem dX5_chargeOf_4 : decode cX5_chargeOf 4 = .ok (.iload_n 1, 1) := by decide +kernel
theorem dX5_chargeOf_5 : decode cX5_chargeOf 5 = .ok (.iaload, 1) := by decide +kernel
theorem dX5_chargeOf_6 : decode cX5_chargeOf 6 = .ok (.i2l, 1) := by decide +kernel
theorem dX5_chargeOf_7 : decode cX5_chargeOf 7 = .ok (.lstore_n 3, 1) := by decide +kernel
theorem dX5_chargeOf_8 : decode cX5_chargeOf 8 = .ok (.lconst 0, 1) := by decide +kernel
theorem dX5_chargeOf_9 : decode cX5_chargeOf 9 = .ok (.lstore 5, 2) := by decide +kernel
theorem dX5_chargeOf_11 : decode cX5_chargeOf 11 = .ok (.iconst 0, 1) := by decide +kernel
theorem dX5_chargeOf_12 : decode cX5_chargeOf 12 = .ok (.istore 7, 2) := by decide +kernel
theorem dX5_chargeOf_14 : decode cX5_chargeOf 14 = .ok (.iload 7, 2) := by decide +kernel
theorem dX5_chargeOf_16 : decode cX5_chargeOf 16 = .ok (.aload_n 0, 1) := by decide +kernel
theorem dX5_chargeOf_17 : decode cX5_chargeOf 17 = .ok (.getfield 32, 3) := by decide +kernel
theorem dX5_chargeOf_20 : decode cX5_chargeOf 20 = .ok (.if_icmp .ge 57, 3) := by decide +kernel
theorem dX5_chargeOf_23 : decode cX5_chargeOf 23 = .ok (.iload 7, 2) := by decide +kernel
theorem dX5_chargeOf_25 : decode cX5_chargeOf 25 = .ok (.aload_n 0, 1) := by decide +kernel
theorem dX5_chargeOf_26 : decode cX5_chargeOf 26 = .ok (.getfield 28, 3) := by decide +kernel
theorem dX5_chargeOf_29 : decode cX5_chargeOf 29 = .ok (.arraylength, 1) := by decide +kernel
theorem dX5_chargeOf_30 : decode cX5_chargeOf 30 = .ok (.if_icmp .ge 47, 3) := by decide +kernel
theorem dX5_chargeOf_33 : decode cX5_chargeOf 33 = .ok (.iload_n 2, 1) := by decide +kernel
theorem dX5_chargeOf_34 : decode cX5_chargeOf 34 = .ok (.i2l, 1) := by decide +kernel
theorem dX5_chargeOf_35 : decode cX5_chargeOf 35 = .ok (.iload 7, 2) := by decide +kernel
theorem dX5_chargeOf_37 : decode cX5_chargeOf 37 = .ok (.i2l, 1) := by decide +kernel
theorem dX5_chargeOf_38 : decode cX5_chargeOf 38 = .ok (.lload_n 3, 1) := by decide +kernel
theorem dX5_chargeOf_39 : decode cX5_chargeOf 39 = .ok (.lmul, 1) := by decide +kernel
theorem dX5_chargeOf_40 : decode cX5_chargeOf 40 = .ok (.lsub, 1) := by decide +kernel
theorem dX5_chargeOf_41 : decode cX5_chargeOf 41 = .ok (.lload_n 3, 1) := by decide +kernel
theorem dX5_chargeOf_42 : decode cX5_chargeOf 42 = .ok (.invokestatic 69, 3) := by decide +kernel
theorem dX5_chargeOf_45 : decode cX5_chargeOf 45 = .ok (.lconst 0, 1) := by decide +kernel
theorem dX5_chargeOf_46 : decode cX5_chargeOf 46 = .ok (.invokestatic 97, 3) := by decide +kernel
theorem dX5_chargeOf_49 : decode cX5_chargeOf 49 = .ok (.lstore 8, 2) := by decide +kernel
theorem dX5_chargeOf_51 : decode cX5_chargeOf 51 = .ok (.lload 5, 2) := by decide +kernel
theorem dX5_chargeOf_53 : decode cX5_chargeOf 53 = .ok (.lload 8, 2) := by decide +kernel
theorem dX5_chargeOf_55 : decode cX5_chargeOf 55 = .ok (.aload_n 0, 1) := by decide +kernel
theorem dX5_chargeOf_56 : decode cX5_chargeOf 56 = .ok (.getfield 28, 3) := by decide +kernel
theorem dX5_chargeOf_59 : decode cX5_chargeOf 59 = .ok (.iload 7, 2) := by decide +kernel
theorem dX5_chargeOf_61 : decode cX5_chargeOf 61 = .ok (.iaload, 1) := by decide +kernel
theorem dX5_chargeOf_62 : decode cX5_chargeOf 62 = .ok (.i2l, 1) := by decide +kernel
theorem dX5_chargeOf_63 : decode cX5_chargeOf 63 = .ok (.lmul, 1) := by decide +kernel
theorem dX5_chargeOf_64 : decode cX5_chargeOf 64 = .ok (.ldc2_w 95, 3) := by decide +kernel
theorem dX5_chargeOf_67 : decode cX5_chargeOf 67 = .ok (.ldiv, 1) := by decide +kernel
theorem dX5_chargeOf_68 : decode cX5_chargeOf 68 = .ok (.ladd, 1) := by decide +kernel
theorem dX5_chargeOf_69 : decode cX5_chargeOf 69 = .ok (.lstore 5, 2) := by decide +kernel
theorem dX5_chargeOf_71 : decode cX5_chargeOf 71 = .ok (.iinc 7 1, 3) := by decide +kernel
theorem dX5_chargeOf_74 : decode cX5_chargeOf 74 = .ok (.goto (-60), 3) := by decide +kernel
theorem dX5_chargeOf_77 : decode cX5_chargeOf 77 = .ok (.lload 5, 2) := by decide +kernel
theorem dX5_chargeOf_79 : decode cX5_chargeOf 79 = .ok (.aload_n 0, 1) := by decide +kernel
theorem dX5_chargeOf_80 : decode cX5_chargeOf 80 = .ok (.getfield 21, 3) := by decide +kernel
theorem dX5_chargeOf_83 : decode cX5_chargeOf 83 = .ok (.i2l, 1) := by decide +kernel
theorem dX5_chargeOf_84 : decode cX5_chargeOf 84 = .ok (.lmul, 1) := by decide +kernel
theorem dX5_chargeOf_85 : decode cX5_chargeOf 85 = .ok (.ldc2_w 95, 3) := by decide +kernel
theorem dX5_chargeOf_88 : decode cX5_chargeOf 88 = .ok (.ldiv, 1) := by decide +kernel
theorem dX5_chargeOf_89 : decode cX5_chargeOf 89 = .ok (.l2i, 1) := by decide +kernel
theorem dX5_chargeOf_90 : decode cX5_chargeOf 90 = .ok (.ireturn, 1) := by decide +kernel
set_option maxHeartbeats 400000 in
set_option maxRecDepth 100000 in
/-- what reinstatements are charged -/
theorem c_chargeOf (l : Launch) (G : hG) (M : hM) (a t : Nat) (L : hLy) (hL : LyV G M a t L) (y : Nat) (hy : y < 10) (b : Int32) (n : Nat) (hn : n ≤ 4) (hc : lyI L 2 = nI n) : hCT l G yX5_chargeOf cX5_chargeOf 10 (Option.some FieldType.int) (hRm 1 0 0) M [.ref a, .int (nI y), .int b] (hRd M (.int (lyCharge L y b n))) := by
  refine hCT.of (own := RX5) (nm := "chargeOf") (by decide) rfl rfl (Nat.le_of_ble_eq_true rfl) ?_
  intro p e s m args below meth c ls X Y hl
  have hx := X.1
  have hb := X.2.1
  have hl : lv_has ls 10 [(0, .ref a), (1, .int (nI y)), (2, .int b)] := hl
  refine lv_aload_n hx hb dX5_chargeOf_0 rfl (lv_at hl 0 rfl) ?_
  refine h_get X Y (k := 10) (v := .ref (lyA L 3)) hL.1 rfl hin_X5 (by decide) kfl_X5_38 rfl dX5_chargeOf_1 ?_
  refine lv_iload_n hx hb dX5_chargeOf_4 rfl (lv_at hl 1 rfl) ?_
  refine h_iald X Y (i := y) hL.2.2.1 (by omega) (by decide) dX5_chargeOf_5 ?_
  refine lv_i2l (v := ((lyN L 1) y).toInt64) hx hb dX5_chargeOf_6 rfl ?_
  refine lv_lstore_n (lv' := [(3, .long (((lyN L 1) y).toInt64)), (0, .ref a), (1, .int (nI y)), (2, .int b)]) hx hb dX5_chargeOf_7 rfl hl (by decide) rfl (fun ls hl => ?_)
  refine lv_lconst (v := 0) hx hb dX5_chargeOf_8 (by decide) ?_
  refine lv_lstore (lv' := [(5, .long 0), (3, .long (((lyN L 1) y).toInt64)), (0, .ref a), (1, .int (nI y)), (2, .int b)]) hx hb dX5_chargeOf_9 hl (by decide) rfl (fun ls hl => ?_)
  refine lv_iconst (v := 0) hx hb dX5_chargeOf_11 (by decide) ?_
  refine lv_istore (lv' := [(7, .int 0), (5, .long 0), (3, .long (((lyN L 1) y).toInt64)), (0, .ref a), (1, .int (nI y)), (2, .int b)]) hx hb dX5_chargeOf_12 hl (by decide) rfl (fun ls hl => ?_)
  have loop : ∀ (d k : Nat), k + d = n + 1 → k ≤ n → ∀ (H : Heap) (locs : List Loc) (ls : Array Slot), hHS G M s H locs → lv_has ls 10 [(0, .ref a), (2, .int b), (3, .long ((lyN L 1 y).toInt64)), (5, .long (lyParts L y b k)), (7, .int (nI k))] → W p l e (hRm 1 0 0) s m args below meth c H locs 0 0 (MQ below (hQ G (hRd M (.int (lyCharge L y b n)))) args s 0 0 (hA G)) (F0 m 14 ls []) := by
    intro d
    induction d with
    | zero => intro k h1 h2; exact absurd h1 (by omega)
    | succ d ih =>
      intro k h1 h2 H locs ls Y hl
      refine lv_iload hx hb dX5_chargeOf_14 (lv_at hl 4 rfl) ?_
      refine lv_aload_n hx hb dX5_chargeOf_16 rfl (lv_at hl 0 rfl) ?_
      refine h_get X Y (k := 8) (v := .int (lyI L 2)) hL.1 rfl hin_X5 (by decide) kfl_X5_32 rfl dX5_chargeOf_17 ?_
      refine h_ev (y := nI n) hc ?_
      refine lv_icmp_ge (tgt := 77) hx hb dX5_chargeOf_20 (by decide) (fun c20 => ?_) (fun c20 => ?_)
      · have c20 : n ≤ k := (nI_leI (a := n) (b := k) (by omega) (by omega)).mp c20
        have hk9 : n = k := by omega
        subst hk9
        refine lv_lload hx hb dX5_chargeOf_77 (lv_at hl 3 rfl) ?_
        refine lv_aload_n hx hb dX5_chargeOf_79 rfl (lv_at hl 0 rfl) ?_
        refine h_get X Y (k := 5) (v := .int (lyI L 0)) hL.1 rfl hin_X5 (by decide) kfl_X5_21 rfl dX5_chargeOf_80 ?_
        refine lv_i2l (v := (lyI L 0).toInt64) hx hb dX5_chargeOf_83 rfl ?_
        refine lv_lmul hx hb dX5_chargeOf_84 ?_
        refine lv_ldc2 hx hb X.2.2.2.2.1 (X.2.2.2.2.2.1 _ kcJ_X5_95) dX5_chargeOf_85 ?_
        refine lv_ldiv hx hb dX5_chargeOf_88 (by decide) ?_
        refine lv_l2i (v := (((lyParts L y b n) * ((lyI L 0).toInt64)) / 100).toInt32) hx hb dX5_chargeOf_89 rfl ?_
        exact h_iret X Y ⟨rfl, rfl⟩ (Nat.le_refl _) (Nat.le_refl _) dX5_chargeOf_90
      · have c20 : ¬ n ≤ k := fun z9 => c20 ((nI_leI (a := n) (b := k) (by omega) (by omega)).mpr z9)
        refine lv_iload hx hb dX5_chargeOf_23 (lv_at hl 4 rfl) ?_
        refine lv_aload_n hx hb dX5_chargeOf_25 rfl (lv_at hl 0 rfl) ?_
        refine h_get X Y (k := 7) (v := .ref (lyA L 2)) hL.1 rfl hin_X5 (by decide) kfl_X5_28 rfl dX5_chargeOf_26 ?_
        refine h_alen X Y 0 hL.2.1 rfl dX5_chargeOf_29 ?_
        refine lv_icmp_ge (tgt := 77) hx hb dX5_chargeOf_30 (by decide) (fun c30 => absurd (show 4 ≤ k from (nI_leI (a := 4) (b := k) (by omega) (by omega)).mp c30) (by omega)) (fun c30 => ?_)
        have c30 : ¬ 4 ≤ k := fun z9 => c30 ((nI_leI (a := 4) (b := k) (by omega) (by omega)).mpr z9)
        refine lv_iload_n hx hb dX5_chargeOf_33 rfl (lv_at hl 1 rfl) ?_
        refine lv_i2l (v := b.toInt64) hx hb dX5_chargeOf_34 rfl ?_
        refine lv_iload hx hb dX5_chargeOf_35 (lv_at hl 4 rfl) ?_
        refine lv_i2l (v := (nI k).toInt64) hx hb dX5_chargeOf_37 rfl ?_
        refine lv_lload_n hx hb dX5_chargeOf_38 rfl (lv_at hl 2 rfl) ?_
        refine lv_lmul hx hb dX5_chargeOf_39 ?_
        refine lv_lsub hx hb dX5_chargeOf_40 ?_
        refine lv_lload_n hx hb dX5_chargeOf_41 rfl (lv_at hl 2 rfl) ?_
        refine h_mminL X kml_X5_69 hl.1 (Nat.le_of_ble_eq_true rfl) (Nat.le_of_ble_eq_true rfl) ⟨Nat.le_of_ble_eq_true rfl, Nat.le_of_ble_eq_true rfl⟩ dX5_chargeOf_42 ?_
        refine lv_lconst (v := 0) hx hb dX5_chargeOf_45 (by decide) ?_
        refine h_mmaxL X kml_X5_97 hl.1 (Nat.le_of_ble_eq_true rfl) (Nat.le_of_ble_eq_true rfl) ⟨Nat.le_of_ble_eq_true rfl, Nat.le_of_ble_eq_true rfl⟩ dX5_chargeOf_46 ?_
        refine lv_lstore (lv' := [(8, .long (sMaxL (sMinL (b.toInt64 - (((nI k).toInt64) * ((lyN L 1 y).toInt64))) ((lyN L 1 y).toInt64)) 0)), (0, .ref a), (2, .int b), (3, .long ((lyN L 1 y).toInt64)), (5, .long (lyParts L y b k)), (7, .int (nI k))]) hx hb dX5_chargeOf_49 hl (by decide) rfl (fun ls hl => ?_)
        refine lv_lload hx hb dX5_chargeOf_51 (lv_at hl 4 rfl) ?_
        refine lv_lload hx hb dX5_chargeOf_53 (lv_at hl 0 rfl) ?_
        refine lv_aload_n hx hb dX5_chargeOf_55 rfl (lv_at hl 1 rfl) ?_
        refine h_get X Y (k := 7) (v := .ref (lyA L 2)) hL.1 rfl hin_X5 (by decide) kfl_X5_28 rfl dX5_chargeOf_56 ?_
        refine lv_iload hx hb dX5_chargeOf_59 (lv_at hl 5 rfl) ?_
        refine h_iald X Y (i := k) hL.2.1 (by omega) (by decide) dX5_chargeOf_61 ?_
        refine lv_i2l (v := ((lyN L 0) k).toInt64) hx hb dX5_chargeOf_62 rfl ?_
        refine lv_lmul hx hb dX5_chargeOf_63 ?_
        refine lv_ldc2 hx hb X.2.2.2.2.1 (X.2.2.2.2.2.1 _ kcJ_X5_95) dX5_chargeOf_64 ?_
        refine lv_ldiv hx hb dX5_chargeOf_67 (by decide) ?_
        refine lv_ladd hx hb dX5_chargeOf_68 ?_
        refine lv_lstore (lv' := [(5, .long ((lyParts L y b k) + (((sMaxL (sMinL (b.toInt64 - (((nI k).toInt64) * ((lyN L 1 y).toInt64))) ((lyN L 1 y).toInt64)) 0) * (((lyN L 0) k).toInt64)) / 100))), (8, .long (sMaxL (sMinL (b.toInt64 - (((nI k).toInt64) * ((lyN L 1 y).toInt64))) ((lyN L 1 y).toInt64)) 0)), (0, .ref a), (2, .int b), (3, .long ((lyN L 1 y).toInt64)), (7, .int (nI k))]) hx hb dX5_chargeOf_69 hl (by decide) rfl (fun ls hl => ?_)
        refine lv_iinc (v := nI (k + 1)) (lv' := [(7, .int (nI (k + 1))), (5, .long ((lyParts L y b k) + (((sMaxL (sMinL (b.toInt64 - (((nI k).toInt64) * ((lyN L 1 y).toInt64))) ((lyN L 1 y).toInt64)) 0) * (((lyN L 0) k).toInt64)) / 100))), (8, .long (sMaxL (sMinL (b.toInt64 - (((nI k).toInt64) * ((lyN L 1 y).toInt64))) ((lyN L 1 y).toInt64)) 0)), (0, .ref a), (2, .int b), (3, .long ((lyN L 1 y).toInt64))]) hx hb dX5_chargeOf_71 hl (k := 5) rfl (nI_1 k) (by decide) rfl (fun ls hl => ?_)
        refine lv_goto (tgt := 14) hx hb dX5_chargeOf_74 (by decide) ?_
        exact ih (k + 1) (by omega) (by omega) _ _ _ Y (lv_sub hl [3, 4, 5, 1, 0] rfl)
  exact loop (n + 1) 0 (by omega) (by omega) _ _ _ Y (lv_sub hl [3, 5, 2, 1, 0] rfl)
end
section
-- FORMULAS: the steps that the law's texts tell: 11 or, 12 not, 15 line, 17 amount, 24 +, 26 *, 28 <, 32 >=, 34 a number
def fOk (k : Nat) : Prop := k = 11 ∨ k = 12 ∨ k = 15 ∨ k = 17 ∨ k = 24 ∨ k = 26 ∨ k = 28 ∨ k = 32 ∨ k = 34
def fLeaf (k : Nat) (num line amount : Int32) : Int32 := if k = 15 then line else if k = 17 then amount else num
def fJoin (k : Nat) (x y : Int32) : Int32 := if k = 24 then x + y else if k = 26 then x * y else if k = 28 then (if x < y then 1 else 0) else if k = 32 then (if y ≤ x then 1 else 0) else x ||| y
abbrev hFo : Type := (Nat → Nat) × Nat × (Nat → Nat) × (Nat → Int32)
abbrev foN (F : hFo) : Nat := F.2.1
abbrev foS (F : hFo) : Nat → Nat := F.2.2.1
abbrev foI (F : hFo) : Nat → Int32 := F.2.2.2
def FoV (G : hG) (M : hM) (a t : Nat) (F : hFo) : Prop := M a = some (t, .inr (6, [.ref (F.1 0), .ref (F.1 1), .ref (F.1 2)])) ∧ (∃ f : Nat → Option Nat, (∀ i, i < foN F → f i = some (hSg G (foS F i))) ∧ M (F.1 0) = some (t + 1, .inl (hT G 3, foN F, .inr (.inr (.inr (.inr f)))))) ∧ M (F.1 1) = some (t + 2, .inl (hT G 0, foN F, .inl (foI F))) ∧ ∃ st : Nat → Int32, M (F.1 2) = some (t + 9, .inl (hT G 0, foN F, .inl st))
/-- the height of the stack ahead of a step -/
def fH (F : hFo) : Nat → Nat
  | 0 => 0
  | i + 1 => if sgOp (foS F i) = 2 then fH F i - 1 else if sgOp (foS F i) = 1 then fH F i else fH F i + 1
/-- the stack ahead of a step -/
def fSt (F : hFo) (line amount : Int32) (s0 : Nat → Int32) : Nat → Nat → Int32
  | 0 => s0
  | i + 1 => if sgOp (foS F i) = 2 then upd (fSt F line amount s0 i) (fH F i - 2) (fJoin (foS F i) (fSt F line amount s0 i (fH F i - 2)) (fSt F line amount s0 i (fH F i - 1)))
    else if sgOp (foS F i) = 1 then upd (fSt F line amount s0 i) (fH F i - 1) (1 - fSt F line amount s0 i (fH F i - 1))
    else upd (fSt F line amount s0 i) (fH F i) (fLeaf (foS F i) (foI F i) line amount)
/-- a formula that can be reckoned -/
def FoW (F : hFo) : Prop := foN F ≤ 400 ∧ (0 < fH F (foN F) ∧ fH F (foN F) ≤ foN F) ∧ 0 < foN F ∧ ∀ i, i < foN F → fOk (foS F i) ∧ (sgOp (foS F i) = 2 → 2 ≤ fH F i) ∧ (sgOp (foS F i) = 1 → 1 ≤ fH F i) ∧ fH F i ≤ foN F ∧ (¬ sgOp (foS F i) = 2 → ¬ sgOp (foS F i) = 1 → fH F i < foN F)
/-- its value -/
def FoE (F : hFo) (line amount r : Int32) : Prop := ∀ s0, fSt F line amount s0 (foN F) 0 = r
theorem fOk_lt {k : Nat} (h : fOk k) : k < 38 := by unfold fOk at h; omega
theorem fOk_2 {k : Nat} (h : fOk k) (h2 : sgOp k = 2) : k = 24 ∨ k = 26 ∨ k = 28 ∨ k = 32 ∨ k = 11 := by
  rcases h with rfl | rfl | rfl | rfl | rfl | rfl | rfl | rfl | rfl <;> first | omega | exact absurd h2 (by decide)
theorem fOk_1 {k : Nat} (h : fOk k) (h2 : sgOp k = 1) : k = 12 := by
  rcases h with rfl | rfl | rfl | rfl | rfl | rfl | rfl | rfl | rfl <;> first | omega | exact absurd h2 (by decide)
theorem fOk_0 {k : Nat} (h : fOk k) (h2 : ¬ sgOp k = 2) (h1 : ¬ sgOp k = 1) : k = 15 ∨ k = 17 ∨ k = 34 := by
  rcases h with rfl | rfl | rfl | rfl | rfl | rfl | rfl | rfl | rfl <;> first | omega | exact absurd (by decide) h2 | exact absurd (by decide) h1
theorem gu_X4_56 : GoodIn hGW (va_wsU RX4 56 "LossHouse$Sign" "java/lang/Enum" ⟨"LossHouse$Sign", "ordinal", "()I"⟩ yJx29ce0_ordinal_8abf5 (Cond.code yJx29ce0_ordinal_8abf5 cJx29ce0_ordinal_8abf5 1 (some .int) :: hGW)) := hgi5 kml_X4_56 ksm_X7_ordinal__I kse_X7_ZLossHouse_Sign_ordinal___I_Jx29ce0_ordinal_8abf5 kin_Jx29ce0_ordinal_8abf5 kini_Jx29ce0 kco_Jx29ce0_ordinal_8abf5
theorem dsu_ordinal : ("java/lang/Enum" : String) ≠ "java/lang/invoke/MethodHandle" ∧ ("java/lang/Enum" : String) ≠ "java/lang/invoke/VarHandle" ∧ (parseMethodDescriptor (⟨"LossHouse$Sign", "ordinal", "()I"⟩ : MethodName).desc).map (fun d => d.parameters.length) = some 0 := ⟨by decide +kernel, by decide +kernel, by decide +kernel⟩

theorem dX4_leaf_0 : decode cX4_leaf 0 = .ok (.getstatic 51, 3) := by decide +kernel
theorem dX4_leaf_3 : decode cX4_leaf 3 = .ok (.aload_n 1, 1) := by decide +kernel
theorem dX4_leaf_4 : decode cX4_leaf 4 = .ok (.invokevirtual 56, 3) := by decide +kernel
theorem dX4_leaf_7 : decode cX4_leaf 7 = .ok (.iaload, 1) := by decide +kernel
theorem dX4_leaf_8 : decode cX4_leaf 8 = .ok (.tableswitch 36 1 3 #[28, 30, 33], 28) := by decide +kernel
theorem dX4_leaf_36 : decode cX4_leaf 36 = .ok (.iload_n 3, 1) := by decide +kernel
theorem dX4_leaf_37 : decode cX4_leaf 37 = .ok (.ireturn, 1) := by decide +kernel
theorem dX4_leaf_41 : decode cX4_leaf 41 = .ok (.iload 5, 2) := by decide +kernel
theorem dX4_leaf_43 : decode cX4_leaf 43 = .ok (.ireturn, 1) := by decide +kernel
theorem dX4_leaf_44 : decode cX4_leaf 44 = .ok (.iload_n 2, 1) := by decide +kernel
theorem dX4_leaf_45 : decode cX4_leaf 45 = .ok (.ireturn, 1) := by decide +kernel
set_option maxHeartbeats 400000 in
set_option maxRecDepth 100000 in
/-- a leaf -/
theorem c_leaf (l : Launch) (G : hG) (M : hM) (a k : Nat) (num line year amount : Int32) (hk : k = 15 ∨ k = 17 ∨ k = 34) : hCT l G yX4_leaf cX4_leaf 6 (Option.some FieldType.int) (hRm 2 0 0) M [.ref a, .ref (hSg G k), .int num, .int line, .int year, .int amount] (hRd M (.int (fLeaf k num line amount))) := by
  refine hCT.of (own := RX4) (nm := "leaf") (by decide) rfl rfl (Nat.le_of_ble_eq_true rfl) ?_
  intro p e s m args below meth c ls X Y hl
  have hx := X.1
  have hb := X.2.1
  have hl : lv_has ls 6 [(0, .ref a), (1, .ref (hSg G k)), (2, .int num), (3, .int line), (4, .int year), (5, .int amount)] := hl
  rcases (show k = 15 ∨ k = 17 ∨ k = 34 from hk) with rfl | rfl | rfl
  · refine h_gets X Y (hsw_Z X.2.2.2.2.2.2.2.2.1 X.2.2.2.2.2.2.2.2.2.1) kfl_X4_51 dX4_leaf_0 ?_
    refine lv_aload_n hx hb dX4_leaf_3 rfl (lv_at hl 1 rfl) ?_
    refine h_callUr (rest := [.ref (hSW G)]) X Y (c_ordinal l G M 15 (by decide)) rfl rfl gu_X4_56 rfl dsu_ordinal (h_recvO Y (hsg_O X.2.2.2.2.2.2.2.2.1 X.2.2.2.2.2.2.2.2.2.1 (by decide))) rfl rfl hl.1 (Nat.le_of_ble_eq_true rfl) ⟨Nat.le_of_ble_eq_true rfl, Nat.le_of_ble_eq_true rfl⟩ ⟨Nat.le_of_ble_eq_true rfl, Nat.le_of_ble_eq_true rfl⟩ dX4_leaf_4 (fun H locs Y => ?_)
    refine h_iaT X Y (i := 15) (hsw_T X.2.2.2.2.2.2.2.2.1 X.2.2.2.2.2.2.2.2.2.1) (by decide) (by decide) dX4_leaf_7 ?_
    refine h_ev (y := nI 1) (by decide) ?_
    refine lv_tableIn (off := 28) (tgt := 36) hx hb dX4_leaf_8 (by decide) (by decide) (by decide) (by decide) ?_
    refine lv_iload_n hx hb dX4_leaf_36 rfl (lv_at hl 3 rfl) ?_
    exact h_iret X Y ⟨rfl, rfl⟩ (Nat.le_refl _) (Nat.le_refl _) dX4_leaf_37
  · refine h_gets X Y (hsw_Z X.2.2.2.2.2.2.2.2.1 X.2.2.2.2.2.2.2.2.2.1) kfl_X4_51 dX4_leaf_0 ?_
    refine lv_aload_n hx hb dX4_leaf_3 rfl (lv_at hl 1 rfl) ?_
    refine h_callUr (rest := [.ref (hSW G)]) X Y (c_ordinal l G M 17 (by decide)) rfl rfl gu_X4_56 rfl dsu_ordinal (h_recvO Y (hsg_O X.2.2.2.2.2.2.2.2.1 X.2.2.2.2.2.2.2.2.2.1 (by decide))) rfl rfl hl.1 (Nat.le_of_ble_eq_true rfl) ⟨Nat.le_of_ble_eq_true rfl, Nat.le_of_ble_eq_true rfl⟩ ⟨Nat.le_of_ble_eq_true rfl, Nat.le_of_ble_eq_true rfl⟩ dX4_leaf_4 (fun H locs Y => ?_)
    refine h_iaT X Y (i := 17) (hsw_T X.2.2.2.2.2.2.2.2.1 X.2.2.2.2.2.2.2.2.2.1) (by decide) (by decide) dX4_leaf_7 ?_
    refine h_ev (y := nI 3) (by decide) ?_
    refine lv_tableIn (off := 33) (tgt := 41) hx hb dX4_leaf_8 (by decide) (by decide) (by decide) (by decide) ?_
    refine lv_iload hx hb dX4_leaf_41 (lv_at hl 5 rfl) ?_
    exact h_iret X Y ⟨rfl, rfl⟩ (Nat.le_refl _) (Nat.le_refl _) dX4_leaf_43
  · refine h_gets X Y (hsw_Z X.2.2.2.2.2.2.2.2.1 X.2.2.2.2.2.2.2.2.2.1) kfl_X4_51 dX4_leaf_0 ?_
    refine lv_aload_n hx hb dX4_leaf_3 rfl (lv_at hl 1 rfl) ?_
    refine h_callUr (rest := [.ref (hSW G)]) X Y (c_ordinal l G M 34 (by decide)) rfl rfl gu_X4_56 rfl dsu_ordinal (h_recvO Y (hsg_O X.2.2.2.2.2.2.2.2.1 X.2.2.2.2.2.2.2.2.2.1 (by decide))) rfl rfl hl.1 (Nat.le_of_ble_eq_true rfl) ⟨Nat.le_of_ble_eq_true rfl, Nat.le_of_ble_eq_true rfl⟩ ⟨Nat.le_of_ble_eq_true rfl, Nat.le_of_ble_eq_true rfl⟩ dX4_leaf_4 (fun H locs Y => ?_)
    refine h_iaT X Y (i := 34) (hsw_T X.2.2.2.2.2.2.2.2.1 X.2.2.2.2.2.2.2.2.2.1) (by decide) (by decide) dX4_leaf_7 ?_
    refine h_ev (y := nI 0) (by decide) ?_
    refine lv_tableOut (tgt := 44) hx hb dX4_leaf_8 (by decide) (by decide) ?_
    refine lv_iload_n hx hb dX4_leaf_44 rfl (lv_at hl 2 rfl) ?_
    exact h_iret X Y ⟨rfl, rfl⟩ (Nat.le_refl _) (Nat.le_refl _) dX4_leaf_45
theorem fb_le {x y : Int32} (h : y ≤ x) : ¬ x < y := fun q => absurd (Int32.lt_iff_toInt_lt.mp q) (by have := Int32.le_iff_toInt_le.mp h; omega)
theorem fb_lt {x y : Int32} (h : x < y) : ¬ y ≤ x := fun q => absurd (Int32.lt_iff_toInt_lt.mp h) (by have := Int32.le_iff_toInt_le.mp q; omega)
theorem fb_nle {x y : Int32} (h : ¬ y ≤ x) : x < y := Int32.lt_iff_toInt_lt.mpr (by have := mt Int32.le_iff_toInt_le.mpr h; omega)
theorem fb_nlt {x y : Int32} (h : ¬ x < y) : y ≤ x := Int32.le_iff_toInt_le.mpr (by have := mt Int32.lt_iff_toInt_lt.mpr h; omega)
theorem dX4_join_0 : decode cX4_join 0 = .ok (.getstatic 51, 3) := by decide +kernel
theorem dX4_join_3 : decode cX4_join 3 = .ok (.aload_n 1, 1) := by decide +kernel
theorem dX4_join_4 : decode cX4_join 4 = .ok (.invokevirtual 56, 3) := by decide +kernel
theorem dX4_join_7 : decode cX4_join 7 = .ok (.iaload, 1) := by decide +kernel
theorem dX4_join_8 : decode cX4_join 8 = .ok (.tableswitch 177 4 16 #[68, 72, 76, 80, 92, 103, 114, 125, 136, 147, 158, 169, 173], 68) := by decide +kernel
theorem dX4_join_76 : decode cX4_join 76 = .ok (.iload_n 2, 1) := by decide +kernel
theorem dX4_join_77 : decode cX4_join 77 = .ok (.iload_n 3, 1) := by decide +kernel
theorem dX4_join_78 : decode cX4_join 78 = .ok (.iadd, 1) := by decide +kernel
theorem dX4_join_79 : decode cX4_join 79 = .ok (.ireturn, 1) := by decide +kernel
theorem dX4_join_84 : decode cX4_join 84 = .ok (.iload_n 2, 1) := by decide +kernel
theorem dX4_join_85 : decode cX4_join 85 = .ok (.iload_n 3, 1) := by decide +kernel
theorem dX4_join_86 : decode cX4_join 86 = .ok (.imul, 1) := by decide +kernel
theorem dX4_join_87 : decode cX4_join 87 = .ok (.ireturn, 1) := by decide +kernel
theorem dX4_join_122 : decode cX4_join 122 = .ok (.iload_n 2, 1) := by decide +kernel
theorem dX4_join_123 : decode cX4_join 123 = .ok (.iload_n 3, 1) := by decide +kernel
theorem dX4_join_124 : decode cX4_join 124 = .ok (.if_icmp .ge 7, 3) := by decide +kernel
theorem dX4_join_127 : decode cX4_join 127 = .ok (.iconst 1, 1) := by decide +kernel
theorem dX4_join_128 : decode cX4_join 128 = .ok (.goto 4, 3) := by decide +kernel
theorem dX4_join_131 : decode cX4_join 131 = .ok (.iconst 0, 1) := by decide +kernel
theorem dX4_join_132 : decode cX4_join 132 = .ok (.ireturn, 1) := by decide +kernel
theorem dX4_join_166 : decode cX4_join 166 = .ok (.iload_n 2, 1) := by decide +kernel
theorem dX4_join_167 : decode cX4_join 167 = .ok (.iload_n 3, 1) := by decide +kernel
theorem dX4_join_168 : decode cX4_join 168 = .ok (.if_icmp .lt 7, 3) := by decide +kernel
theorem dX4_join_171 : decode cX4_join 171 = .ok (.iconst 1, 1) := by decide +kernel
theorem dX4_join_172 : decode cX4_join 172 = .ok (.goto 4, 3) := by decide +kernel
theorem dX4_join_175 : decode cX4_join 175 = .ok (.iconst 0, 1) := by decide +kernel
theorem dX4_join_176 : decode cX4_join 176 = .ok (.ireturn, 1) := by decide +kernel
theorem dX4_join_181 : decode cX4_join 181 = .ok (.iload_n 2, 1) := by decide +kernel
theorem dX4_join_182 : decode cX4_join 182 = .ok (.iload_n 3, 1) := by decide +kernel
theorem dX4_join_183 : decode cX4_join 183 = .ok (.ior, 1) := by decide +kernel
theorem dX4_join_184 : decode cX4_join 184 = .ok (.ireturn, 1) := by decide +kernel
set_option maxHeartbeats 400000 in
set_option maxRecDepth 100000 in
/-- two numbers joined -/
theorem c_join (l : Launch) (G : hG) (M : hM) (a k : Nat) (x y : Int32) (hk : k = 24 ∨ k = 26 ∨ k = 28 ∨ k = 32 ∨ k = 11) : hCT l G yX4_join cX4_join 4 (Option.some FieldType.int) (hRm 2 0 0) M [.ref a, .ref (hSg G k), .int x, .int y] (hRd M (.int (fJoin k x y))) := by
  refine hCT.of (own := RX4) (nm := "join") (by decide) rfl rfl (Nat.le_of_ble_eq_true rfl) ?_
  intro p e s m args below meth c ls X Y hl
  have hx := X.1
  have hb := X.2.1
  have hl : lv_has ls 4 [(0, .ref a), (1, .ref (hSg G k)), (2, .int x), (3, .int y)] := hl
  rcases (show k = 24 ∨ k = 26 ∨ k = 28 ∨ k = 32 ∨ k = 11 from hk) with rfl | rfl | rfl | rfl | rfl
  · refine h_gets X Y (hsw_Z X.2.2.2.2.2.2.2.2.1 X.2.2.2.2.2.2.2.2.2.1) kfl_X4_51 dX4_join_0 ?_
    refine lv_aload_n hx hb dX4_join_3 rfl (lv_at hl 1 rfl) ?_
    refine h_callUr (rest := [.ref (hSW G)]) X Y (c_ordinal l G M 24 (by decide)) rfl rfl gu_X4_56 rfl dsu_ordinal (h_recvO Y (hsg_O X.2.2.2.2.2.2.2.2.1 X.2.2.2.2.2.2.2.2.2.1 (by decide))) rfl rfl hl.1 (Nat.le_of_ble_eq_true rfl) ⟨Nat.le_of_ble_eq_true rfl, Nat.le_of_ble_eq_true rfl⟩ ⟨Nat.le_of_ble_eq_true rfl, Nat.le_of_ble_eq_true rfl⟩ dX4_join_4 (fun H locs Y => ?_)
    refine h_iaT X Y (i := 24) (hsw_T X.2.2.2.2.2.2.2.2.1 X.2.2.2.2.2.2.2.2.2.1) (by decide) (by decide) dX4_join_7 ?_
    refine h_ev (y := nI 4) (by decide) ?_
    refine lv_tableIn (off := 68) (tgt := 76) hx hb dX4_join_8 (by decide) (by decide) (by decide) (by decide) ?_
    refine lv_iload_n hx hb dX4_join_76 rfl (lv_at hl 2 rfl) ?_
    refine lv_iload_n hx hb dX4_join_77 rfl (lv_at hl 3 rfl) ?_
    refine lv_iadd hx hb dX4_join_78 ?_
    exact h_iret X Y ⟨rfl, rfl⟩ (Nat.le_refl _) (Nat.le_refl _) dX4_join_79
  · refine h_gets X Y (hsw_Z X.2.2.2.2.2.2.2.2.1 X.2.2.2.2.2.2.2.2.2.1) kfl_X4_51 dX4_join_0 ?_
    refine lv_aload_n hx hb dX4_join_3 rfl (lv_at hl 1 rfl) ?_
    refine h_callUr (rest := [.ref (hSW G)]) X Y (c_ordinal l G M 26 (by decide)) rfl rfl gu_X4_56 rfl dsu_ordinal (h_recvO Y (hsg_O X.2.2.2.2.2.2.2.2.1 X.2.2.2.2.2.2.2.2.2.1 (by decide))) rfl rfl hl.1 (Nat.le_of_ble_eq_true rfl) ⟨Nat.le_of_ble_eq_true rfl, Nat.le_of_ble_eq_true rfl⟩ ⟨Nat.le_of_ble_eq_true rfl, Nat.le_of_ble_eq_true rfl⟩ dX4_join_4 (fun H locs Y => ?_)
    refine h_iaT X Y (i := 26) (hsw_T X.2.2.2.2.2.2.2.2.1 X.2.2.2.2.2.2.2.2.2.1) (by decide) (by decide) dX4_join_7 ?_
    refine h_ev (y := nI 6) (by decide) ?_
    refine lv_tableIn (off := 76) (tgt := 84) hx hb dX4_join_8 (by decide) (by decide) (by decide) (by decide) ?_
    refine lv_iload_n hx hb dX4_join_84 rfl (lv_at hl 2 rfl) ?_
    refine lv_iload_n hx hb dX4_join_85 rfl (lv_at hl 3 rfl) ?_
    refine lv_imul hx hb dX4_join_86 ?_
    exact h_iret X Y ⟨rfl, rfl⟩ (Nat.le_refl _) (Nat.le_refl _) dX4_join_87
  · refine h_gets X Y (hsw_Z X.2.2.2.2.2.2.2.2.1 X.2.2.2.2.2.2.2.2.2.1) kfl_X4_51 dX4_join_0 ?_
    refine lv_aload_n hx hb dX4_join_3 rfl (lv_at hl 1 rfl) ?_
    refine h_callUr (rest := [.ref (hSW G)]) X Y (c_ordinal l G M 28 (by decide)) rfl rfl gu_X4_56 rfl dsu_ordinal (h_recvO Y (hsg_O X.2.2.2.2.2.2.2.2.1 X.2.2.2.2.2.2.2.2.2.1 (by decide))) rfl rfl hl.1 (Nat.le_of_ble_eq_true rfl) ⟨Nat.le_of_ble_eq_true rfl, Nat.le_of_ble_eq_true rfl⟩ ⟨Nat.le_of_ble_eq_true rfl, Nat.le_of_ble_eq_true rfl⟩ dX4_join_4 (fun H locs Y => ?_)
    refine h_iaT X Y (i := 28) (hsw_T X.2.2.2.2.2.2.2.2.1 X.2.2.2.2.2.2.2.2.2.1) (by decide) (by decide) dX4_join_7 ?_
    refine h_ev (y := nI 10) (by decide) ?_
    refine lv_tableIn (off := 114) (tgt := 122) hx hb dX4_join_8 (by decide) (by decide) (by decide) (by decide) ?_
    refine lv_iload_n hx hb dX4_join_122 rfl (lv_at hl 2 rfl) ?_
    refine lv_iload_n hx hb dX4_join_123 rfl (lv_at hl 3 rfl) ?_
    refine lv_icmp_ge (tgt := 131) hx hb dX4_join_124 (by decide) (fun c124 => ?_) (fun c124 => ?_)
    · refine lv_iconst (v := 0) hx hb dX4_join_131 (by decide) ?_
      exact h_iret X Y ⟨congrArg (fun z => some (Value.int z)) (if_neg (fb_le c124)).symm, rfl⟩ (Nat.le_refl _) (Nat.le_refl _) dX4_join_132
    · refine lv_iconst (v := 1) hx hb dX4_join_127 (by decide) ?_
      refine lv_goto (tgt := 132) hx hb dX4_join_128 (by decide) ?_
      exact h_iret X Y ⟨congrArg (fun z => some (Value.int z)) (if_pos (fb_nle c124)).symm, rfl⟩ (Nat.le_refl _) (Nat.le_refl _) dX4_join_132
  · refine h_gets X Y (hsw_Z X.2.2.2.2.2.2.2.2.1 X.2.2.2.2.2.2.2.2.2.1) kfl_X4_51 dX4_join_0 ?_
    refine lv_aload_n hx hb dX4_join_3 rfl (lv_at hl 1 rfl) ?_
    refine h_callUr (rest := [.ref (hSW G)]) X Y (c_ordinal l G M 32 (by decide)) rfl rfl gu_X4_56 rfl dsu_ordinal (h_recvO Y (hsg_O X.2.2.2.2.2.2.2.2.1 X.2.2.2.2.2.2.2.2.2.1 (by decide))) rfl rfl hl.1 (Nat.le_of_ble_eq_true rfl) ⟨Nat.le_of_ble_eq_true rfl, Nat.le_of_ble_eq_true rfl⟩ ⟨Nat.le_of_ble_eq_true rfl, Nat.le_of_ble_eq_true rfl⟩ dX4_join_4 (fun H locs Y => ?_)
    refine h_iaT X Y (i := 32) (hsw_T X.2.2.2.2.2.2.2.2.1 X.2.2.2.2.2.2.2.2.2.1) (by decide) (by decide) dX4_join_7 ?_
    refine h_ev (y := nI 14) (by decide) ?_
    refine lv_tableIn (off := 158) (tgt := 166) hx hb dX4_join_8 (by decide) (by decide) (by decide) (by decide) ?_
    refine lv_iload_n hx hb dX4_join_166 rfl (lv_at hl 2 rfl) ?_
    refine lv_iload_n hx hb dX4_join_167 rfl (lv_at hl 3 rfl) ?_
    refine lv_icmp_lt (tgt := 175) hx hb dX4_join_168 (by decide) (fun c168 => ?_) (fun c168 => ?_)
    · refine lv_iconst (v := 0) hx hb dX4_join_175 (by decide) ?_
      exact h_iret X Y ⟨congrArg (fun z => some (Value.int z)) (if_neg (fb_lt c168)).symm, rfl⟩ (Nat.le_refl _) (Nat.le_refl _) dX4_join_176
    · refine lv_iconst (v := 1) hx hb dX4_join_171 (by decide) ?_
      refine lv_goto (tgt := 176) hx hb dX4_join_172 (by decide) ?_
      exact h_iret X Y ⟨congrArg (fun z => some (Value.int z)) (if_pos (fb_nlt c168)).symm, rfl⟩ (Nat.le_refl _) (Nat.le_refl _) dX4_join_176
  · refine h_gets X Y (hsw_Z X.2.2.2.2.2.2.2.2.1 X.2.2.2.2.2.2.2.2.2.1) kfl_X4_51 dX4_join_0 ?_
    refine lv_aload_n hx hb dX4_join_3 rfl (lv_at hl 1 rfl) ?_
    refine h_callUr (rest := [.ref (hSW G)]) X Y (c_ordinal l G M 11 (by decide)) rfl rfl gu_X4_56 rfl dsu_ordinal (h_recvO Y (hsg_O X.2.2.2.2.2.2.2.2.1 X.2.2.2.2.2.2.2.2.2.1 (by decide))) rfl rfl hl.1 (Nat.le_of_ble_eq_true rfl) ⟨Nat.le_of_ble_eq_true rfl, Nat.le_of_ble_eq_true rfl⟩ ⟨Nat.le_of_ble_eq_true rfl, Nat.le_of_ble_eq_true rfl⟩ dX4_join_4 (fun H locs Y => ?_)
    refine h_iaT X Y (i := 11) (hsw_T X.2.2.2.2.2.2.2.2.1 X.2.2.2.2.2.2.2.2.2.1) (by decide) (by decide) dX4_join_7 ?_
    refine h_ev (y := nI 16) (by decide) ?_
    refine lv_tableIn (off := 173) (tgt := 181) hx hb dX4_join_8 (by decide) (by decide) (by decide) (by decide) ?_
    refine lv_iload_n hx hb dX4_join_181 rfl (lv_at hl 2 rfl) ?_
    refine lv_iload_n hx hb dX4_join_182 rfl (lv_at hl 3 rfl) ?_
    refine lv_ior hx hb dX4_join_183 ?_
    exact h_iret X Y ⟨rfl, rfl⟩ (Nat.le_refl _) (Nat.le_refl _) dX4_join_184
theorem gw_X4_43 : GoodIn hGW (wsV RX4 43 RX4 yX4_leaf (Cond.code yX4_leaf cX4_leaf 6 (Option.some FieldType.int) :: hGW)) := hgi4 kml_X4_43 kin_X4_leaf kse_X4_X4_leaf_X4_leaf kini_X4 kco_X4_leaf
theorem dsc_X4_leaf : yX4_leaf.cls = RX4 ∧ yX4_leaf.cls ≠ "java/lang/invoke/MethodHandle" ∧ yX4_leaf.cls ≠ "java/lang/invoke/VarHandle" ∧ (parseMethodDescriptor yX4_leaf.desc).map (fun d => d.parameters.length) = some 5 := ⟨rfl, by decide +kernel, by decide +kernel, by decide +kernel⟩
theorem gw_X4_35 : GoodIn hGW (wsV RX4 35 RX4 yX4_join (Cond.code yX4_join cX4_join 4 (Option.some FieldType.int) :: hGW)) := hgi4 kml_X4_35 kin_X4_join kse_X4_X4_join_X4_join kini_X4 kco_X4_join
theorem dsc_X4_join : yX4_join.cls = RX4 ∧ yX4_join.cls ≠ "java/lang/invoke/MethodHandle" ∧ yX4_join.cls ≠ "java/lang/invoke/VarHandle" ∧ (parseMethodDescriptor yX4_join.desc).map (fun d => d.parameters.length) = some 3 := ⟨rfl, by decide +kernel, by decide +kernel, by decide +kernel⟩
theorem dX4_value_0 : decode cX4_value 0 = .ok (.iconst 0, 1) := by decide +kernel
theorem dX4_value_1 : decode cX4_value 1 = .ok (.istore 4, 2) := by decide +kernel
theorem dX4_value_3 : decode cX4_value 3 = .ok (.iconst 0, 1) := by decide +kernel
theorem dX4_value_4 : decode cX4_value 4 = .ok (.istore 5, 2) := by decide +kernel
theorem dX4_value_6 : decode cX4_value 6 = .ok (.iload 5, 2) := by decide +kernel
theorem dX4_value_8 : decode cX4_value 8 = .ok (.aload_n 0, 1) := by decide +kernel
theorem dX4_value_9 : decode cX4_value 9 = .ok (.getfield 18, 3) := by decide +kernel
theorem dX4_value_12 : decode cX4_value 12 = .ok (.arraylength, 1) := by decide +kernel
theorem dX4_value_13 : decode cX4_value 13 = .ok (.if_icmp .ge 165, 3) := by decide +kernel
theorem dX4_value_16 : decode cX4_value 16 = .ok (.aload_n 0, 1) := by decide +kernel
theorem dX4_value_17 : decode cX4_value 17 = .ok (.getfield 18, 3) := by decide +kernel
theorem dX4_value_20 : decode cX4_value 20 = .ok (.iload 5, 2) := by decide +kernel
theorem dX4_value_22 : decode cX4_value 22 = .ok (.aaload, 1) := by decide +kernel
theorem dX4_value_23 : decode cX4_value 23 = .ok (.astore 6, 2) := by decide +kernel
theorem dX4_value_25 : decode cX4_value 25 = .ok (.aload 6, 2) := by decide +kernel
theorem dX4_value_27 : decode cX4_value 27 = .ok (.getfield 31, 3) := by decide +kernel
theorem dX4_value_30 : decode cX4_value 30 = .ok (.iconst 2, 1) := by decide +kernel
theorem dX4_value_31 : decode cX4_value 31 = .ok (.if_icmp .ne 46, 3) := by decide +kernel
theorem dX4_value_34 : decode cX4_value 34 = .ok (.iload 4, 2) := by decide +kernel
theorem dX4_value_36 : decode cX4_value 36 = .ok (.iconst 2, 1) := by decide +kernel
theorem dX4_value_37 : decode cX4_value 37 = .ok (.if_icmp .lt 40, 3) := by decide +kernel
theorem dX4_value_40 : decode cX4_value 40 = .ok (.iinc 4 (-1), 3) := by decide +kernel
theorem dX4_value_43 : decode cX4_value 43 = .ok (.aload_n 0, 1) := by decide +kernel
theorem dX4_value_44 : decode cX4_value 44 = .ok (.getfield 28, 3) := by decide +kernel
theorem dX4_value_47 : decode cX4_value 47 = .ok (.iload 4, 2) := by decide +kernel
theorem dX4_value_49 : decode cX4_value 49 = .ok (.iconst 1, 1) := by decide +kernel
theorem dX4_value_50 : decode cX4_value 50 = .ok (.isub, 1) := by decide +kernel
theorem dX4_value_51 : decode cX4_value 51 = .ok (.aload_n 0, 1) := by decide +kernel
theorem dX4_value_52 : decode cX4_value 52 = .ok (.aload 6, 2) := by decide +kernel
theorem dX4_value_54 : decode cX4_value 54 = .ok (.aload_n 0, 1) := by decide +kernel
theorem dX4_value_55 : decode cX4_value 55 = .ok (.getfield 28, 3) := by decide +kernel
theorem dX4_value_58 : decode cX4_value 58 = .ok (.iload 4, 2) := by decide +kernel
theorem dX4_value_60 : decode cX4_value 60 = .ok (.iconst 1, 1) := by decide +kernel
theorem dX4_value_61 : decode cX4_value 61 = .ok (.isub, 1) := by decide +kernel
theorem dX4_value_62 : decode cX4_value 62 = .ok (.iaload, 1) := by decide +kernel
theorem dX4_value_63 : decode cX4_value 63 = .ok (.aload_n 0, 1) := by decide +kernel
theorem dX4_value_64 : decode cX4_value 64 = .ok (.getfield 28, 3) := by decide +kernel
theorem dX4_value_67 : decode cX4_value 67 = .ok (.iload 4, 2) := by decide +kernel
theorem dX4_value_69 : decode cX4_value 69 = .ok (.iaload, 1) := by decide +kernel
theorem dX4_value_70 : decode cX4_value 70 = .ok (.invokevirtual 35, 3) := by decide +kernel
theorem dX4_value_73 : decode cX4_value 73 = .ok (.iastore, 1) := by decide +kernel
theorem dX4_value_74 : decode cX4_value 74 = .ok (.goto 98, 3) := by decide +kernel
theorem dX4_value_77 : decode cX4_value 77 = .ok (.aload 6, 2) := by decide +kernel
theorem dX4_value_79 : decode cX4_value 79 = .ok (.getfield 31, 3) := by decide +kernel
theorem dX4_value_82 : decode cX4_value 82 = .ok (.iconst 1, 1) := by decide +kernel
theorem dX4_value_83 : decode cX4_value 83 = .ok (.if_icmp .ne 53, 3) := by decide +kernel
theorem dX4_value_86 : decode cX4_value 86 = .ok (.iload 4, 2) := by decide +kernel
theorem dX4_value_88 : decode cX4_value 88 = .ok (.iconst 1, 1) := by decide +kernel
theorem dX4_value_89 : decode cX4_value 89 = .ok (.if_icmp .lt 47, 3) := by decide +kernel
theorem dX4_value_92 : decode cX4_value 92 = .ok (.aload_n 0, 1) := by decide +kernel
theorem dX4_value_93 : decode cX4_value 93 = .ok (.getfield 28, 3) := by decide +kernel
theorem dX4_value_96 : decode cX4_value 96 = .ok (.iload 4, 2) := by decide +kernel
theorem dX4_value_98 : decode cX4_value 98 = .ok (.iconst 1, 1) := by decide +kernel
theorem dX4_value_99 : decode cX4_value 99 = .ok (.isub, 1) := by decide +kernel
theorem dX4_value_100 : decode cX4_value 100 = .ok (.aload 6, 2) := by decide +kernel
theorem dX4_value_102 : decode cX4_value 102 = .ok (.getstatic 39, 3) := by decide +kernel
theorem dX4_value_105 : decode cX4_value 105 = .ok (.if_acmp .ne 17, 3) := by decide +kernel
theorem dX4_value_108 : decode cX4_value 108 = .ok (.iconst 1, 1) := by decide +kernel
theorem dX4_value_109 : decode cX4_value 109 = .ok (.aload_n 0, 1) := by decide +kernel
theorem dX4_value_110 : decode cX4_value 110 = .ok (.getfield 28, 3) := by decide +kernel
theorem dX4_value_113 : decode cX4_value 113 = .ok (.iload 4, 2) := by decide +kernel
theorem dX4_value_115 : decode cX4_value 115 = .ok (.iconst 1, 1) := by decide +kernel
theorem dX4_value_116 : decode cX4_value 116 = .ok (.isub, 1) := by decide +kernel
theorem dX4_value_117 : decode cX4_value 117 = .ok (.iaload, 1) := by decide +kernel
theorem dX4_value_118 : decode cX4_value 118 = .ok (.isub, 1) := by decide +kernel
theorem dX4_value_119 : decode cX4_value 119 = .ok (.goto 13, 3) := by decide +kernel
theorem dX4_value_132 : decode cX4_value 132 = .ok (.iastore, 1) := by decide +kernel
theorem dX4_value_133 : decode cX4_value 133 = .ok (.goto 39, 3) := by decide +kernel
theorem dX4_value_136 : decode cX4_value 136 = .ok (.iload 4, 2) := by decide +kernel
theorem dX4_value_138 : decode cX4_value 138 = .ok (.aload_n 0, 1) := by decide +kernel
theorem dX4_value_139 : decode cX4_value 139 = .ok (.getfield 28, 3) := by decide +kernel
theorem dX4_value_142 : decode cX4_value 142 = .ok (.arraylength, 1) := by decide +kernel
theorem dX4_value_143 : decode cX4_value 143 = .ok (.if_icmp .ge 29, 3) := by decide +kernel
theorem dX4_value_146 : decode cX4_value 146 = .ok (.aload_n 0, 1) := by decide +kernel
theorem dX4_value_147 : decode cX4_value 147 = .ok (.getfield 28, 3) := by decide +kernel
theorem dX4_value_150 : decode cX4_value 150 = .ok (.iload 4, 2) := by decide +kernel
theorem dX4_value_152 : decode cX4_value 152 = .ok (.aload_n 0, 1) := by decide +kernel
theorem dX4_value_153 : decode cX4_value 153 = .ok (.aload 6, 2) := by decide +kernel
theorem dX4_value_155 : decode cX4_value 155 = .ok (.aload_n 0, 1) := by decide +kernel
theorem dX4_value_156 : decode cX4_value 156 = .ok (.getfield 24, 3) := by decide +kernel
theorem dX4_value_159 : decode cX4_value 159 = .ok (.iload 5, 2) := by decide +kernel
theorem dX4_value_161 : decode cX4_value 161 = .ok (.iaload, 1) := by decide +kernel
theorem dX4_value_162 : decode cX4_value 162 = .ok (.iload_n 1, 1) := by decide +kernel
theorem dX4_value_163 : decode cX4_value 163 = .ok (.iload_n 2, 1) := by decide +kernel
theorem dX4_value_164 : decode cX4_value 164 = .ok (.iload_n 3, 1) := by decide +kernel
theorem dX4_value_165 : decode cX4_value 165 = .ok (.invokevirtual 43, 3) := by decide +kernel
theorem dX4_value_168 : decode cX4_value 168 = .ok (.iastore, 1) := by decide +kernel
theorem dX4_value_169 : decode cX4_value 169 = .ok (.iinc 4 1, 3) := by decide +kernel
theorem dX4_value_172 : decode cX4_value 172 = .ok (.iinc 5 1, 3) := by decide +kernel
theorem dX4_value_175 : decode cX4_value 175 = .ok (.goto (-169), 3) := by decide +kernel
theorem dX4_value_178 : decode cX4_value 178 = .ok (.iload 4, 2) := by decide +kernel
theorem dX4_value_180 : decode cX4_value 180 = .ok (.ifCond .le 12, 3) := by decide +kernel
theorem dX4_value_183 : decode cX4_value 183 = .ok (.aload_n 0, 1) := by decide +kernel
theorem dX4_value_184 : decode cX4_value 184 = .ok (.getfield 28, 3) := by decide +kernel
theorem dX4_value_187 : decode cX4_value 187 = .ok (.iconst 0, 1) := by decide +kernel
theorem dX4_value_188 : decode cX4_value 188 = .ok (.iaload, 1) := by decide +kernel
theorem dX4_value_189 : decode cX4_value 189 = .ok (.goto 4, 3) := by decide +kernel
theorem dX4_value_193 : decode cX4_value 193 = .ok (.ireturn, 1) := by decide +kernel
set_option maxHeartbeats 400000 in
set_option maxRecDepth 100000 in
/-- the value of a formula: its stack alone is written -/
theorem c_value (l : Launch) (G : hG) (M : hM) (a t : Nat) (F : hFo) (hF : FoV G M a t F) (hW : FoW F) (line year amount r : Int32) (hE : FoE F line amount r) : hCT l G yX4_value cX4_value 7 (Option.some FieldType.int) (hRm 3 0 0) M [.ref a, .int line, .int year, .int amount] (fun v M' => v = some (.int r) ∧ hSim G (fun u => u = t + 9) M M') := by
  refine hCT.of (own := RX4) (nm := "value") (by decide) rfl rfl (Nat.le_of_ble_eq_true rfl) ?_
  intro p e s m args below meth c ls X Y hl
  have hx := X.1
  have hb := X.2.1
  have hl : lv_has ls 7 [(0, .ref a), (1, .int line), (2, .int year), (3, .int amount)] := hl
  obtain ⟨fo, ⟨f, hf, fs⟩, fn, s0, fk⟩ := id hF
  obtain ⟨hn, hh, hn0, hw⟩ := id hW
  have Y : hHS G (hup M (F.1 2) (t + 9, .inl (hT G 0, foN F, .inl s0))) s s.heap [] := by rw [hup_self fk]; exact Y
  refine lv_iconst (v := 0) hx hb dX4_value_0 (by decide) ?_
  refine lv_istore (lv' := [(4, .int 0), (0, .ref a), (1, .int line), (2, .int year), (3, .int amount)]) hx hb dX4_value_1 hl (by decide) rfl (fun ls hl => ?_)
  refine lv_iconst (v := 0) hx hb dX4_value_3 (by decide) ?_
  refine lv_istore (lv' := [(5, .int 0), (4, .int 0), (0, .ref a), (1, .int line), (2, .int year), (3, .int amount)]) hx hb dX4_value_4 hl (by decide) rfl (fun ls hl => ?_)
  have loop : ∀ (d i : Nat), i + d = foN F + 1 → i ≤ foN F → ∀ (H : Heap) (locs : List Loc) (ls : Array Slot), hHS G (hup M (F.1 2) (t + 9, .inl (hT G 0, foN F, .inl (fSt F line amount s0 i)))) s H locs → lv_has ls 7 [(0, .ref a), (1, .int line), (2, .int year), (3, .int amount), (4, .int (nI (fH F i))), (5, .int (nI i))] → W p l e (hRm 3 0 0) s m args below meth c H locs 0 0 (MQ below (hQ G (fun v M' => v = some (.int r) ∧ hSim G (fun u => u = t + 9) M M')) args s 0 0 (hA G)) (F0 m 6 ls []) := by
    intro d
    induction d with
    | zero => intro i h1 h2; exact absurd h1 (by omega)
    | succ d ih =>
      intro i h1 h2 H locs ls Y hl
      refine lv_iload hx hb dX4_value_6 (lv_at hl 5 rfl) ?_
      refine lv_aload_n hx hb dX4_value_8 rfl (lv_at hl 0 rfl) ?_
      refine h_get X Y (k := 0) (v := .ref (F.1 0)) (hup_tag fo fk (by omega)) rfl hin_X4 (by decide) kfl_X4_18 rfl dX4_value_9 ?_
      refine h_alen X Y 3 (hup_tag fs fk (by omega)) rfl dX4_value_12 ?_
      refine lv_icmp_ge (tgt := 178) hx hb dX4_value_13 (by decide) (fun c13 => ?_) (fun c13 => ?_)
      · have c13 : (foN F) ≤ i := (nI_leI (a := (foN F)) (b := i) (by omega) (by omega)).mp c13
        have hk9 : i = foN F := by omega
        subst hk9
        refine lv_iload hx hb dX4_value_178 (lv_at hl 4 rfl) ?_
        refine lv_if_le (tgt := 192) hx hb dX4_value_180 (by decide) (fun c180 => absurd (show nI (fH F (foN F)) ≤ nI 0 from c180) (fun q => absurd ((nI_leI (by omega) (by omega)).mp q) (by omega))) (fun c180 => ?_)
        have c180 : ¬ (fH F (foN F)) ≤ 0 := fun z9 => c180 ((nI_leI (a := (fH F (foN F))) (b := 0) (by omega) (by omega)).mpr z9)
        refine lv_aload_n hx hb dX4_value_183 rfl (lv_at hl 0 rfl) ?_
        refine h_get X Y (k := 2) (v := .ref (F.1 2)) (hup_tag fo fk (by omega)) rfl hin_X4 (by decide) kfl_X4_28 rfl dX4_value_184 ?_
        refine lv_iconst (v := 0) hx hb dX4_value_187 (by decide) ?_
        refine h_iald X Y (i := 0) hup_eq (by omega) (by omega) dX4_value_188 ?_
        refine lv_goto (tgt := 193) hx hb dX4_value_189 (by decide) ?_
        exact h_iret X Y ⟨congrArg (fun z => some (Value.int z)) (hE s0), hSim.put fk rfl⟩ (Nat.le_refl _) (Nat.le_refl _) dX4_value_193
      · have c13 : ¬ (foN F) ≤ i := fun z9 => c13 ((nI_leI (a := (foN F)) (b := i) (by omega) (by omega)).mpr z9)
        refine lv_aload_n hx hb dX4_value_16 rfl (lv_at hl 0 rfl) ?_
        refine h_get X Y (k := 0) (v := .ref (F.1 0)) (hup_tag fo fk (by omega)) rfl hin_X4 (by decide) kfl_X4_18 rfl dX4_value_17 ?_
        refine lv_iload hx hb dX4_value_20 (lv_at hl 5 rfl) ?_
        refine h_aald X Y 3 (i := i) (hup_tag fs fk (by omega)) rfl (by omega) (by omega) dX4_value_22 ?_
        obtain ⟨ok, w2, w1, w9, w0⟩ := hw i (by omega)
        refine h_rf (hf i (by omega)) ?_
        refine lv_astore (lv' := [(6, .ref (hSg G (foS F i))), (0, .ref a), (1, .int line), (2, .int year), (3, .int amount), (4, .int (nI (fH F i))), (5, .int (nI i))]) hx hb dX4_value_23 hl (by decide) rfl (fun ls hl => ?_)
        refine lv_aload hx hb dX4_value_25 (lv_at hl 0 rfl) ?_
        refine h_getC X Y (hsg_opF X.2.2.2.2.2.2.2.2.1 X.2.2.2.2.2.2.2.2.2.1 (fOk_lt ok)) kfl_X4_31 dX4_value_27 ?_
        refine lv_iconst (v := 2) hx hb dX4_value_30 (by decide) ?_
        refine lv_icmp_ne (tgt := 77) hx hb dX4_value_31 (by decide) (fun c31 => ?_) (fun c31 => ?_)
        · refine lv_aload hx hb dX4_value_77 (lv_at hl 0 rfl) ?_
          refine h_getC X Y (hsg_opF X.2.2.2.2.2.2.2.2.1 X.2.2.2.2.2.2.2.2.2.1 (fOk_lt ok)) kfl_X4_31 dX4_value_79 ?_
          refine lv_iconst (v := 1) hx hb dX4_value_82 (by decide) ?_
          refine lv_icmp_ne (tgt := 136) hx hb dX4_value_83 (by decide) (fun c83 => ?_) (fun c83 => ?_)
          · refine lv_iload hx hb dX4_value_136 (lv_at hl 5 rfl) ?_
            refine lv_aload_n hx hb dX4_value_138 rfl (lv_at hl 1 rfl) ?_
            refine h_get X Y (k := 2) (v := .ref (F.1 2)) (hup_tag fo fk (by omega)) rfl hin_X4 (by decide) kfl_X4_28 rfl dX4_value_139 ?_
            refine h_alen X Y 0 hup_eq rfl dX4_value_142 ?_
            refine lv_icmp_ge (tgt := 172) hx hb dX4_value_143 (by decide) (fun c143 => absurd ((nI_leI (by omega) (by omega)).mp c143) (by have := w0 c31 c83; omega)) (fun c143 => ?_)
            have c143 : ¬ (foN F) ≤ (fH F i) := fun z9 => c143 ((nI_leI (a := (foN F)) (b := (fH F i)) (by omega) (by omega)).mpr z9)
            refine lv_aload_n hx hb dX4_value_146 rfl (lv_at hl 1 rfl) ?_
            refine h_get X Y (k := 2) (v := .ref (F.1 2)) (hup_tag fo fk (by omega)) rfl hin_X4 (by decide) kfl_X4_28 rfl dX4_value_147 ?_
            refine lv_iload hx hb dX4_value_150 (lv_at hl 5 rfl) ?_
            refine lv_aload_n hx hb dX4_value_152 rfl (lv_at hl 1 rfl) ?_
            refine lv_aload hx hb dX4_value_153 (lv_at hl 0 rfl) ?_
            refine lv_aload_n hx hb dX4_value_155 rfl (lv_at hl 1 rfl) ?_
            refine h_get X Y (k := 1) (v := .ref (F.1 1)) (hup_tag fo fk (by omega)) rfl hin_X4 (by decide) kfl_X4_24 rfl dX4_value_156 ?_
            refine lv_iload hx hb dX4_value_159 (lv_at hl 6 rfl) ?_
            refine h_iald X Y (i := i) (hup_tag fn fk (by omega)) (by omega) (by omega) dX4_value_161 ?_
            refine lv_iload_n hx hb dX4_value_162 rfl (lv_at hl 2 rfl) ?_
            refine lv_iload_n hx hb dX4_value_163 rfl (lv_at hl 3 rfl) ?_
            refine lv_iload_n hx hb dX4_value_164 rfl (lv_at hl 4 rfl) ?_
            refine h_callVr (rest := [.int (nI (fH F i)), .ref (F.1 2)]) X Y (c_leaf l G (hup M (F.1 2) (t + 9, .inl (hT G 0, foN F, .inl (fSt F line amount s0 i)))) a (foS F i) (foI F i) line year amount (fOk_0 ok c31 c83)) rfl rfl gw_X4_43 dsc_X4_leaf (hup_tag fo fk (by omega)) rfl rfl rfl rfl hl.1 (Nat.le_of_ble_eq_true rfl) ⟨Nat.le_of_ble_eq_true rfl, Nat.le_of_ble_eq_true rfl⟩ ⟨Nat.le_of_ble_eq_true rfl, Nat.le_of_ble_eq_true rfl⟩ dX4_value_165 (fun H locs Y => ?_)
            refine h_iast X Y (i := (fH F i)) hup_eq (by have := w0 c31 c83; omega) (by omega) dX4_value_168 (fun H locs Y => ?_)
            rw [hup_hup] at Y
            refine lv_iinc (v := nI ((fH F i) + 1)) (lv' := [(4, .int (nI ((fH F i) + 1))), (6, .ref (hSg G (foS F i))), (0, .ref a), (1, .int line), (2, .int year), (3, .int amount), (5, .int (nI i))]) hx hb dX4_value_169 hl (k := 5) rfl (nI_1 (fH F i)) (by decide) rfl (fun ls hl => ?_)
            refine lv_iinc (v := nI (i + 1)) (lv' := [(5, .int (nI (i + 1))), (4, .int (nI ((fH F i) + 1))), (6, .ref (hSg G (foS F i))), (0, .ref a), (1, .int line), (2, .int year), (3, .int amount)]) hx hb dX4_value_172 hl (k := 6) rfl (nI_1 i) (by decide) rfl (fun ls hl => ?_)
            refine lv_goto (tgt := 6) hx hb dX4_value_175 (by decide) ?_
            have e1 : fSt F line amount s0 (i + 1) = upd (fSt F line amount s0 i) (fH F i) (fLeaf (foS F i) (foI F i) line amount) := by
              show (if _ then _ else _) = _
              rw [if_neg c31, if_neg c83]
            have e2 : fH F (i + 1) = ((fH F i) + 1) := by
              show (if _ then _ else _) = _
              rw [if_neg c31, if_neg c83]
            exact ih (i + 1) (by omega) (by omega) _ _ _ (by rw [e1]; exact Y) (by rw [e2]; exact lv_sub hl [3, 4, 5, 6, 1, 0] rfl)
          · obtain ⟨q, hq⟩ : ∃ q, fH F i = q + 1 := ⟨fH F i - 1, by have := w1 c83; omega⟩
            rw [hq] at hl
            have hq2 : fH F i - 1 = q := by omega
            refine lv_iload hx hb dX4_value_86 (lv_at hl 5 rfl) ?_
            refine lv_iconst (v := 1) hx hb dX4_value_88 (by decide) ?_
            refine lv_icmp_lt (tgt := 136) hx hb dX4_value_89 (by decide) (fun c89 => absurd (show ((q + 1)) < 1 from (nI_ltI (a := ((q + 1))) (b := 1) (by omega) (by omega)).mp c89) (by omega)) (fun c89 => ?_)
            have c89 : ¬ ((q + 1)) < 1 := fun z9 => c89 ((nI_ltI (a := ((q + 1))) (b := 1) (by omega) (by omega)).mpr z9)
            refine lv_aload_n hx hb dX4_value_92 rfl (lv_at hl 1 rfl) ?_
            refine h_get X Y (k := 2) (v := .ref (F.1 2)) (hup_tag fo fk (by omega)) rfl hin_X4 (by decide) kfl_X4_28 rfl dX4_value_93 ?_
            refine lv_iload hx hb dX4_value_96 (lv_at hl 5 rfl) ?_
            refine lv_iconst (v := 1) hx hb dX4_value_98 (by decide) ?_
            refine lv_isub hx hb dX4_value_99 ?_
            refine h_ev (y := nI q) (nI_pred q) ?_
            refine lv_aload hx hb dX4_value_100 (lv_at hl 0 rfl) ?_
            refine h_gets X Y (hsg_Z (k := 12) X.2.2.2.2.2.2.2.2.1 X.2.2.2.2.2.2.2.2.2.1 (by decide)) kfl_X4_39 dX4_value_102 ?_
            refine lv_acmp_ne (rx := some (hSg G (foS F i))) (ry := some (hSg G 12)) (tgt := 122) hx hb dX4_value_105 (by decide) (fun c105 => absurd (congrArg some (congrArg (hSg G) (fOk_1 ok c83))) c105) (fun c105 => ?_)
            refine lv_iconst (v := 1) hx hb dX4_value_108 (by decide) ?_
            refine lv_aload_n hx hb dX4_value_109 rfl (lv_at hl 1 rfl) ?_
            refine h_get X Y (k := 2) (v := .ref (F.1 2)) (hup_tag fo fk (by omega)) rfl hin_X4 (by decide) kfl_X4_28 rfl dX4_value_110 ?_
            refine lv_iload hx hb dX4_value_113 (lv_at hl 5 rfl) ?_
            refine lv_iconst (v := 1) hx hb dX4_value_115 (by decide) ?_
            refine lv_isub hx hb dX4_value_116 ?_
            refine h_ev (y := nI q) (nI_pred q) ?_
            refine h_iald X Y (i := q) hup_eq (by omega) (by omega) dX4_value_117 ?_
            refine lv_isub hx hb dX4_value_118 ?_
            refine lv_goto (tgt := 132) hx hb dX4_value_119 (by decide) ?_
            refine h_iast X Y (i := q) hup_eq (by omega) (by omega) dX4_value_132 (fun H locs Y => ?_)
            rw [hup_hup] at Y
            refine lv_goto (tgt := 172) hx hb dX4_value_133 (by decide) ?_
            refine lv_iinc (v := nI (i + 1)) (lv' := [(5, .int (nI (i + 1))), (6, .ref (hSg G (foS F i))), (0, .ref a), (1, .int line), (2, .int year), (3, .int amount), (4, .int (nI ((q + 1))))]) hx hb dX4_value_172 hl (k := 6) rfl (nI_1 i) (by decide) rfl (fun ls hl => ?_)
            refine lv_goto (tgt := 6) hx hb dX4_value_175 (by decide) ?_
            have e1 : fSt F line amount s0 (i + 1) = upd (fSt F line amount s0 i) q (1 - ((fSt F line amount s0 i) q)) := by
              show (if _ then _ else _) = _
              rw [if_neg c31, if_pos c83, hq2]
            have e2 : fH F (i + 1) = ((q + 1)) := by
              show (if _ then _ else _) = _
              rw [if_neg c31, if_pos c83, hq]
            exact ih (i + 1) (by omega) (by omega) _ _ _ (by rw [e1]; exact Y) (by rw [e2]; exact lv_sub hl [2, 3, 4, 5, 6, 0] rfl)
        · obtain ⟨q, hq⟩ : ∃ q, fH F i = q + 2 := ⟨fH F i - 2, by have := w2 c31; omega⟩
          rw [hq] at hl
          have hq1 : fH F i - 2 = q := by omega
          have hq2 : fH F i - 1 = q + 1 := by omega
          refine lv_iload hx hb dX4_value_34 (lv_at hl 5 rfl) ?_
          refine lv_iconst (v := 2) hx hb dX4_value_36 (by decide) ?_
          refine lv_icmp_lt (tgt := 77) hx hb dX4_value_37 (by decide) (fun c37 => absurd (show ((q + 2)) < 2 from (nI_ltI (a := ((q + 2))) (b := 2) (by omega) (by omega)).mp c37) (by omega)) (fun c37 => ?_)
          have c37 : ¬ ((q + 2)) < 2 := fun z9 => c37 ((nI_ltI (a := ((q + 2))) (b := 2) (by omega) (by omega)).mpr z9)
          refine lv_iinc (v := nI (q + 1)) (lv' := [(4, .int (nI (q + 1))), (6, .ref (hSg G (foS F i))), (0, .ref a), (1, .int line), (2, .int year), (3, .int amount), (5, .int (nI i))]) hx hb dX4_value_40 hl (k := 5) rfl (pk_m1 (q + 1)) (by decide) rfl (fun ls hl => ?_)
          refine lv_aload_n hx hb dX4_value_43 rfl (lv_at hl 2 rfl) ?_
          refine h_get X Y (k := 2) (v := .ref (F.1 2)) (hup_tag fo fk (by omega)) rfl hin_X4 (by decide) kfl_X4_28 rfl dX4_value_44 ?_
          refine lv_iload hx hb dX4_value_47 (lv_at hl 0 rfl) ?_
          refine lv_iconst (v := 1) hx hb dX4_value_49 (by decide) ?_
          refine lv_isub hx hb dX4_value_50 ?_
          refine h_ev (y := nI q) (nI_pred q) ?_
          refine lv_aload_n hx hb dX4_value_51 rfl (lv_at hl 2 rfl) ?_
          refine lv_aload hx hb dX4_value_52 (lv_at hl 1 rfl) ?_
          refine lv_aload_n hx hb dX4_value_54 rfl (lv_at hl 2 rfl) ?_
          refine h_get X Y (k := 2) (v := .ref (F.1 2)) (hup_tag fo fk (by omega)) rfl hin_X4 (by decide) kfl_X4_28 rfl dX4_value_55 ?_
          refine lv_iload hx hb dX4_value_58 (lv_at hl 0 rfl) ?_
          refine lv_iconst (v := 1) hx hb dX4_value_60 (by decide) ?_
          refine lv_isub hx hb dX4_value_61 ?_
          refine h_ev (y := nI q) (nI_pred q) ?_
          refine h_iald X Y (i := q) hup_eq (by have := w2 c31; omega) (by omega) dX4_value_62 ?_
          refine lv_aload_n hx hb dX4_value_63 rfl (lv_at hl 2 rfl) ?_
          refine h_get X Y (k := 2) (v := .ref (F.1 2)) (hup_tag fo fk (by omega)) rfl hin_X4 (by decide) kfl_X4_28 rfl dX4_value_64 ?_
          refine lv_iload hx hb dX4_value_67 (lv_at hl 0 rfl) ?_
          refine h_iald X Y (i := q + 1) hup_eq (by have := w2 c31; omega) (by omega) dX4_value_69 ?_
          refine h_callVr (rest := [.int (nI q), .ref (F.1 2)]) X Y (c_join l G (hup M (F.1 2) (t + 9, .inl (hT G 0, foN F, .inl (fSt F line amount s0 i)))) a (foS F i) ((fSt F line amount s0 i) q) ((fSt F line amount s0 i) (q + 1)) (fOk_2 ok c31)) rfl rfl gw_X4_35 dsc_X4_join (hup_tag fo fk (by omega)) rfl rfl rfl rfl hl.1 (Nat.le_of_ble_eq_true rfl) ⟨Nat.le_of_ble_eq_true rfl, Nat.le_of_ble_eq_true rfl⟩ ⟨Nat.le_of_ble_eq_true rfl, Nat.le_of_ble_eq_true rfl⟩ dX4_value_70 (fun H locs Y => ?_)
          refine h_iast X Y (i := q) hup_eq (by have := w2 c31; omega) (by omega) dX4_value_73 (fun H locs Y => ?_)
          rw [hup_hup] at Y
          refine lv_goto (tgt := 172) hx hb dX4_value_74 (by decide) ?_
          refine lv_iinc (v := nI (i + 1)) (lv' := [(5, .int (nI (i + 1))), (4, .int (nI (q + 1))), (6, .ref (hSg G (foS F i))), (0, .ref a), (1, .int line), (2, .int year), (3, .int amount)]) hx hb dX4_value_172 hl (k := 6) rfl (nI_1 i) (by decide) rfl (fun ls hl => ?_)
          refine lv_goto (tgt := 6) hx hb dX4_value_175 (by decide) ?_
          have e1 : fSt F line amount s0 (i + 1) = upd (fSt F line amount s0 i) q (fJoin (foS F i) ((fSt F line amount s0 i) q) ((fSt F line amount s0 i) (q + 1))) := by
            show (if _ then _ else _) = _
            rw [if_pos c31, hq1, hq2]
          have e2 : fH F (i + 1) = q + 1 := by
            show (if _ then _ else _) = _
            rw [if_pos c31, hq2]
          exact ih (i + 1) (by omega) (by omega) _ _ _ (by rw [e1]; exact Y) (by rw [e2]; exact lv_sub hl [3, 4, 5, 6, 1, 0] rfl)
  exact loop (foN F + 1) 0 (by omega) (by omega) _ _ _ Y (lv_sub hl [2, 3, 4, 5, 1, 0] rfl)
end
section
-- LISTS
/-- the object of an ArrayList: its row at e, n things in it -/
def LsO (M : hM) (a t e n : Nat) : Prop := ∃ mc : Int32, M a = some (t, .inr (2, [.int mc, .ref e, .int (nI n)]))
/-- its row -/
def LsE (G : hG) (M : hM) (e t n : Nat) (g : Nat → Nat) : Prop := ∃ (cap : Nat) (f : Nat → Option Nat), n ≤ cap ∧ cap ≤ 1000 ∧ (∀ i, i < n → f i = some (g i)) ∧ M e = some (t, .inl (hT G 6, cap, .inr (.inr (.inr (.inr f)))))
def bI (p : Bool) : Int32 := if p then 1 else 0
theorem hFw_Jx4a65c_get_915e3 {G : hG} {p : Program} {s : State} {m : MethodId} {args : Array Value} {meth : Method} {c : Code} {cc : ByteArray} {maxL : Nat} {ret : Option FieldType} {own nm : String} (X : hCX G p s m args meth c cc maxL ret own nm) : va_Fw RJx4a65c ⟨"java/util/List", "get", "(I)Ljava/lang/Object;"⟩ yJx4a65c_get_915e3 s :=
  va_Fw.moved ⟨by decide, by decide⟩ X.2.2.2.2.2.2.2.2.2.1.1.alike (va_Fw.of (A := hAr G) (hW0 X.2.2.2.2.2.2.2.2.1 427 (by decide +kernel)) (hW0 X.2.2.2.2.2.2.2.2.1 426 (by decide +kernel)) (hW0 X.2.2.2.2.2.2.2.2.1 430 (by decide +kernel)) (hW0 X.2.2.2.2.2.2.2.2.1 429 (by decide +kernel)) (hW0 X.2.2.2.2.2.2.2.2.1 416 (by decide +kernel)))
theorem hFw_Jx4a65c_size_8abf5 {G : hG} {p : Program} {s : State} {m : MethodId} {args : Array Value} {meth : Method} {c : Code} {cc : ByteArray} {maxL : Nat} {ret : Option FieldType} {own nm : String} (X : hCX G p s m args meth c cc maxL ret own nm) : va_Fw RJx4a65c ⟨"java/util/List", "size", "()I"⟩ yJx4a65c_size_8abf5 s :=
  va_Fw.moved ⟨by decide, by decide⟩ X.2.2.2.2.2.2.2.2.2.1.1.alike (va_Fw.of (A := hAr G) (hW0 X.2.2.2.2.2.2.2.2.1 415 (by decide +kernel)) (hW0 X.2.2.2.2.2.2.2.2.1 414 (by decide +kernel)) (hW0 X.2.2.2.2.2.2.2.2.1 419 (by decide +kernel)) (hW0 X.2.2.2.2.2.2.2.2.1 418 (by decide +kernel)) (hW0 X.2.2.2.2.2.2.2.2.1 416 (by decide +kernel)))
theorem dJ3_checkIndex_8e157_0 : decode cJ3_checkIndex_8e157 0 = .ok (.iload_n 0, 1) := by decide +kernel
theorem dJ3_checkIndex_8e157_1 : decode cJ3_checkIndex_8e157 1 = .ok (.ifCond .lt 8, 3) := by decide +kernel
theorem dJ3_checkIndex_8e157_4 : decode cJ3_checkIndex_8e157 4 = .ok (.iload_n 0, 1) := by decide +kernel
theorem dJ3_checkIndex_8e157_5 : decode cJ3_checkIndex_8e157 5 = .ok (.iload_n 1, 1) := by decide +kernel
theorem dJ3_checkIndex_8e157_6 : decode cJ3_checkIndex_8e157 6 = .ok (.if_icmp .lt 10, 3) := by decide +kernel
theorem dJ3_checkIndex_8e157_16 : decode cJ3_checkIndex_8e157 16 = .ok (.iload_n 0, 1) := by decide +kernel
theorem dJ3_checkIndex_8e157_17 : decode cJ3_checkIndex_8e157 17 = .ok (.ireturn, 1) := by decide +kernel
set_option maxHeartbeats 400000 in
set_option maxRecDepth 100000 in
theorem c_checkIndex3 (l : Launch) (G : hG) (M : hM) (i n : Nat) (hi : i < n) (hn : n < 2147483648) : hCT l G yJ3_checkIndex_8e157 cJ3_checkIndex_8e157 3 (Option.some FieldType.int) (hRm 1 0 0) M [.int (nI i), .int (nI n), .null] (hRd M (.int (nI i))) := by
  refine hCT.of (own := RJ3) (nm := "checkIndex") (by decide) rfl rfl (Nat.le_of_ble_eq_true rfl) ?_
  intro p e s m args below meth c ls X Y hl
  have hx := X.1
  have hb := X.2.1
  have hl : lv_has ls 3 [(0, .int (nI i)), (1, .int (nI n)), (2, .null)] := hl
  refine lv_iload_n hx hb dJ3_checkIndex_8e157_0 rfl (lv_at hl 0 rfl) ?_
  refine lv_if_lt (tgt := 9) hx hb dJ3_checkIndex_8e157_1 (by decide) (fun c1 => absurd (show i < 0 from (nI_ltI (a := i) (b := 0) (by omega) (by omega)).mp c1) (by omega)) (fun c1 => ?_)
  have c1 : ¬ i < 0 := fun z9 => c1 ((nI_ltI (a := i) (b := 0) (by omega) (by omega)).mpr z9)
  refine lv_iload_n hx hb dJ3_checkIndex_8e157_4 rfl (lv_at hl 0 rfl) ?_
  refine lv_iload_n hx hb dJ3_checkIndex_8e157_5 rfl (lv_at hl 1 rfl) ?_
  refine lv_icmp_lt (tgt := 16) hx hb dJ3_checkIndex_8e157_6 (by decide) (fun c6 => ?_) (fun c6 => absurd (show ¬ i < n from fun z9 => c6 ((nI_ltI (a := i) (b := n) (by omega) (by omega)).mpr z9)) (by omega))
  have c6 : i < n := (nI_ltI (a := i) (b := n) (by omega) (by omega)).mp c6
  refine lv_iload_n hx hb dJ3_checkIndex_8e157_16 rfl (lv_at hl 0 rfl) ?_
  exact h_iret X Y ⟨rfl, rfl⟩ (Nat.le_refl _) (Nat.le_refl _) dJ3_checkIndex_8e157_17
theorem gw_J15_105 : GoodIn hGW (va_wsS RJ15 105 yJ3_checkIndex_8e157 (Cond.code yJ3_checkIndex_8e157 cJ3_checkIndex_8e157 3 (Option.some FieldType.int) :: hGW)) := hgi3 kml_J15_105 kst_J3_checkIndex_8e157 kini_J3 kco_J3_checkIndex_8e157
theorem dsc_J3_checkIndex_8e157 : yJ3_checkIndex_8e157.cls = RJ3 ∧ yJ3_checkIndex_8e157.cls ≠ "java/lang/invoke/MethodHandle" ∧ yJ3_checkIndex_8e157.cls ≠ "java/lang/invoke/VarHandle" ∧ (parseMethodDescriptor yJ3_checkIndex_8e157.desc).map (fun d => d.parameters.length) = some 3 := ⟨rfl, by decide +kernel, by decide +kernel, by decide +kernel⟩
theorem dJ15_checkIndex_7cf53_0 : decode cJ15_checkIndex_7cf53 0 = .ok (.iload_n 0, 1) := by decide +kernel
theorem dJ15_checkIndex_7cf53_1 : decode cJ15_checkIndex_7cf53 1 = .ok (.iload_n 1, 1) := by decide +kernel
theorem dJ15_checkIndex_7cf53_2 : decode cJ15_checkIndex_7cf53 2 = .ok (.aconst_null, 1) := by decide +kernel
theorem dJ15_checkIndex_7cf53_3 : decode cJ15_checkIndex_7cf53 3 = .ok (.invokestatic 105, 3) := by decide +kernel
theorem dJ15_checkIndex_7cf53_6 : decode cJ15_checkIndex_7cf53 6 = .ok (.ireturn, 1) := by decide +kernel
set_option maxHeartbeats 400000 in
set_option maxRecDepth 100000 in
theorem c_checkIndex (l : Launch) (G : hG) (M : hM) (i n : Nat) (hi : i < n) (hn : n < 2147483648) : hCT l G yJ15_checkIndex_7cf53 cJ15_checkIndex_7cf53 2 (Option.some FieldType.int) (hRm 2 0 0) M [.int (nI i), .int (nI n)] (hRd M (.int (nI i))) := by
  refine hCT.of (own := RJ15) (nm := "checkIndex") (by decide) rfl rfl (Nat.le_of_ble_eq_true rfl) ?_
  intro p e s m args below meth c ls X Y hl
  have hx := X.1
  have hb := X.2.1
  have hl : lv_has ls 2 [(0, .int (nI i)), (1, .int (nI n))] := hl
  refine lv_iload_n hx hb dJ15_checkIndex_7cf53_0 rfl (lv_at hl 0 rfl) ?_
  refine lv_iload_n hx hb dJ15_checkIndex_7cf53_1 rfl (lv_at hl 1 rfl) ?_
  refine lv_null hx hb dJ15_checkIndex_7cf53_2 ?_
  refine h_callSr (rest := []) X Y (c_checkIndex3 l G M i n hi hn) rfl rfl gw_J15_105 dsc_J3_checkIndex_8e157.2 rfl rfl hl.1 (Nat.le_of_ble_eq_true rfl) ⟨Nat.le_of_ble_eq_true rfl, Nat.le_of_ble_eq_true rfl⟩ ⟨Nat.le_of_ble_eq_true rfl, Nat.le_of_ble_eq_true rfl⟩ dJ15_checkIndex_7cf53_3 (fun H locs Y => ?_)
  exact h_iret X Y ⟨rfl, rfl⟩ (Nat.le_refl _) (Nat.le_refl _) dJ15_checkIndex_7cf53_6
theorem dJx4a65c_size_8abf5_0 : decode cJx4a65c_size_8abf5 0 = .ok (.aload_n 0, 1) := by decide +kernel
theorem dJx4a65c_size_8abf5_1 : decode cJx4a65c_size_8abf5 1 = .ok (.getfield 48, 3) := by decide +kernel
theorem dJx4a65c_size_8abf5_4 : decode cJx4a65c_size_8abf5 4 = .ok (.ireturn, 1) := by decide +kernel
set_option maxHeartbeats 400000 in
set_option maxRecDepth 100000 in
theorem c_size (l : Launch) (G : hG) (M : hM) (a t e0 n : Nat) (hO : LsO M a t e0 n) : hCT l G yJx4a65c_size_8abf5 cJx4a65c_size_8abf5 1 (Option.some FieldType.int) (hRm 1 0 0) M [.ref a] (hRd M (.int (nI n))) := by
  refine hCT.of (own := RJx4a65c) (nm := "size") (by decide) rfl rfl (Nat.le_of_ble_eq_true rfl) ?_
  intro p e s m args below meth c ls X Y hl
  have hx := X.1
  have hb := X.2.1
  have hl : lv_has ls 1 [(0, .ref a)] := hl
  obtain ⟨mc, ho⟩ := hO
  refine lv_aload_n hx hb dJx4a65c_size_8abf5_0 rfl (lv_at hl 0 rfl) ?_
  refine h_get X Y (k := 2) (v := .int (nI n)) ho rfl hin_Jx4a65c (by decide) kfl_Jx4a65c_48 rfl dJx4a65c_size_8abf5_1 ?_
  exact h_iret X Y ⟨rfl, rfl⟩ (Nat.le_refl _) (Nat.le_refl _) dJx4a65c_size_8abf5_4
theorem dJx4a65c_elementData_915e3_0 : decode cJx4a65c_elementData_915e3 0 = .ok (.aload_n 0, 1) := by decide +kernel
theorem dJx4a65c_elementData_915e3_1 : decode cJx4a65c_elementData_915e3 1 = .ok (.getfield 9, 3) := by decide +kernel
theorem dJx4a65c_elementData_915e3_4 : decode cJx4a65c_elementData_915e3 4 = .ok (.iload_n 1, 1) := by decide +kernel
theorem dJx4a65c_elementData_915e3_5 : decode cJx4a65c_elementData_915e3 5 = .ok (.aaload, 1) := by decide +kernel
theorem dJx4a65c_elementData_915e3_6 : decode cJx4a65c_elementData_915e3 6 = .ok (.areturn, 1) := by decide +kernel
set_option maxHeartbeats 400000 in
set_option maxRecDepth 100000 in
theorem c_elementData (l : Launch) (G : hG) (M : hM) (a t e0 te n i : Nat) (g : Nat → Nat) (hO : LsO M a t e0 n) (hE : LsE G M e0 te n g) (hi : i < n) : hCT l G yJx4a65c_elementData_915e3 cJx4a65c_elementData_915e3 2 (Option.some (FieldType.object "java/lang/Object")) (hRm 1 0 0) M [.ref a, .int (nI i)] (hRd M (.ref (g i))) := by
  refine hCT.of (own := RJx4a65c) (nm := "elementData") (by decide) rfl rfl (Nat.le_of_ble_eq_true rfl) ?_
  intro p e s m args below meth c ls X Y hl
  have hx := X.1
  have hb := X.2.1
  have hl : lv_has ls 2 [(0, .ref a), (1, .int (nI i))] := hl
  obtain ⟨mc, ho⟩ := hO
  obtain ⟨cap, f, hc, hcap, hf, he⟩ := hE
  refine lv_aload_n hx hb dJx4a65c_elementData_915e3_0 rfl (lv_at hl 0 rfl) ?_
  refine h_get X Y (k := 1) (v := .ref e0) ho rfl hin_Jx4a65c (by decide) kfl_Jx4a65c_9 rfl dJx4a65c_elementData_915e3_1 ?_
  refine lv_iload_n hx hb dJx4a65c_elementData_915e3_4 rfl (lv_at hl 1 rfl) ?_
  refine h_aald X Y 6 (i := i) he rfl (by omega) (by omega) dJx4a65c_elementData_915e3_5 ?_
  rw [hf i hi]
  exact h_aret (v := some (g i)) X Y (Or.inl ⟨_, rfl⟩) ⟨rfl, rfl⟩ (Nat.le_refl _) (Nat.le_refl _) dJx4a65c_elementData_915e3_6
theorem gw_Jx4a65c_118 : GoodIn hGW (va_wsS RJx4a65c 118 yJ15_checkIndex_7cf53 (Cond.code yJ15_checkIndex_7cf53 cJ15_checkIndex_7cf53 2 (Option.some FieldType.int) :: hGW)) := hgi3 kml_Jx4a65c_118 kst_J15_checkIndex_7cf53 kini_J15 kco_J15_checkIndex_7cf53
theorem dsc_J15_checkIndex_7cf53 : yJ15_checkIndex_7cf53.cls = RJ15 ∧ yJ15_checkIndex_7cf53.cls ≠ "java/lang/invoke/MethodHandle" ∧ yJ15_checkIndex_7cf53.cls ≠ "java/lang/invoke/VarHandle" ∧ (parseMethodDescriptor yJ15_checkIndex_7cf53.desc).map (fun d => d.parameters.length) = some 2 := ⟨rfl, by decide +kernel, by decide +kernel, by decide +kernel⟩
theorem gw_Jx4a65c_123 : GoodIn hGW (wsV RJx4a65c 123 RJx4a65c yJx4a65c_elementData_915e3 (Cond.code yJx4a65c_elementData_915e3 cJx4a65c_elementData_915e3 2 (Option.some (FieldType.object "java/lang/Object")) :: hGW)) := hgi4 kml_Jx4a65c_123 kin_Jx4a65c_elementData_915e3 kse_Jx4a65c_Jx4a65c_elementData_915e3_Jx4a65c_elementData_915e3 kini_Jx4a65c kco_Jx4a65c_elementData_915e3
theorem dsc_Jx4a65c_elementData_915e3 : yJx4a65c_elementData_915e3.cls = RJx4a65c ∧ yJx4a65c_elementData_915e3.cls ≠ "java/lang/invoke/MethodHandle" ∧ yJx4a65c_elementData_915e3.cls ≠ "java/lang/invoke/VarHandle" ∧ (parseMethodDescriptor yJx4a65c_elementData_915e3.desc).map (fun d => d.parameters.length) = some 1 := ⟨rfl, by decide +kernel, by decide +kernel, by decide +kernel⟩
theorem dJx4a65c_get_915e3_0 : decode cJx4a65c_get_915e3 0 = .ok (.iload_n 1, 1) := by decide +kernel
theorem dJx4a65c_get_915e3_1 : decode cJx4a65c_get_915e3 1 = .ok (.aload_n 0, 1) := by decide +kernel
theorem dJx4a65c_get_915e3_2 : decode cJx4a65c_get_915e3 2 = .ok (.getfield 48, 3) := by decide +kernel
theorem dJx4a65c_get_915e3_5 : decode cJx4a65c_get_915e3 5 = .ok (.invokestatic 118, 3) := by decide +kernel
theorem dJx4a65c_get_915e3_8 : decode cJx4a65c_get_915e3 8 = .ok (.pop, 1) := by decide +kernel
theorem dJx4a65c_get_915e3_9 : decode cJx4a65c_get_915e3 9 = .ok (.aload_n 0, 1) := by decide +kernel
theorem dJx4a65c_get_915e3_10 : decode cJx4a65c_get_915e3 10 = .ok (.iload_n 1, 1) := by decide +kernel
theorem dJx4a65c_get_915e3_11 : decode cJx4a65c_get_915e3 11 = .ok (.invokevirtual 123, 3) := by decide +kernel
theorem dJx4a65c_get_915e3_14 : decode cJx4a65c_get_915e3 14 = .ok (.areturn, 1) := by decide +kernel
set_option maxHeartbeats 400000 in
set_option maxRecDepth 100000 in
theorem c_get (l : Launch) (G : hG) (M : hM) (a t e0 te n i : Nat) (g : Nat → Nat) (hO : LsO M a t e0 n) (hE : LsE G M e0 te n g) (hi : i < n) : hCT l G yJx4a65c_get_915e3 cJx4a65c_get_915e3 2 (Option.some (FieldType.object "java/lang/Object")) (hRm 3 0 0) M [.ref a, .int (nI i)] (hRd M (.ref (g i))) := by
  refine hCT.of (own := RJx4a65c) (nm := "get") (by decide) rfl rfl (Nat.le_of_ble_eq_true rfl) ?_
  intro p e s m args below meth c ls X Y hl
  have hx := X.1
  have hb := X.2.1
  have hl : lv_has ls 2 [(0, .ref a), (1, .int (nI i))] := hl
  obtain ⟨mc, ho⟩ := id hO
  obtain ⟨cap, f, hc, hcap, hf, he⟩ := id hE
  refine lv_iload_n hx hb dJx4a65c_get_915e3_0 rfl (lv_at hl 1 rfl) ?_
  refine lv_aload_n hx hb dJx4a65c_get_915e3_1 rfl (lv_at hl 0 rfl) ?_
  refine h_get X Y (k := 2) (v := .int (nI n)) ho rfl hin_Jx4a65c (by decide) kfl_Jx4a65c_48 rfl dJx4a65c_get_915e3_2 ?_
  refine h_callSr (rest := []) X Y (c_checkIndex l G M i n hi (by omega)) rfl rfl gw_Jx4a65c_118 dsc_J15_checkIndex_7cf53.2 rfl rfl hl.1 (Nat.le_of_ble_eq_true rfl) ⟨Nat.le_of_ble_eq_true rfl, Nat.le_of_ble_eq_true rfl⟩ ⟨Nat.le_of_ble_eq_true rfl, Nat.le_of_ble_eq_true rfl⟩ dJx4a65c_get_915e3_5 (fun H locs Y => ?_)
  refine lv_pop hx hb dJx4a65c_get_915e3_8 rfl ?_
  refine lv_aload_n hx hb dJx4a65c_get_915e3_9 rfl (lv_at hl 0 rfl) ?_
  refine lv_iload_n hx hb dJx4a65c_get_915e3_10 rfl (lv_at hl 1 rfl) ?_
  refine h_callVr (rest := []) X Y (c_elementData l G M a t e0 te n i g hO hE hi) rfl rfl gw_Jx4a65c_123 dsc_Jx4a65c_elementData_915e3 ho rfl rfl rfl rfl hl.1 (Nat.le_of_ble_eq_true rfl) ⟨Nat.le_of_ble_eq_true rfl, Nat.le_of_ble_eq_true rfl⟩ ⟨Nat.le_of_ble_eq_true rfl, Nat.le_of_ble_eq_true rfl⟩ dJx4a65c_get_915e3_11 (fun H locs Y => ?_)
  exact h_aret (v := some (g i)) X Y (Or.inl ⟨_, rfl⟩) ⟨rfl, rfl⟩ (Nat.le_refl _) (Nat.le_refl _) dJx4a65c_get_915e3_14
end
section
-- THE HOUSE'S LAYERS AND CLAIMS, AND WHAT A CESSION HOLDS; an address by its tag: sA S t
abbrev hCl : Type := (Nat → Nat) × Nat × (Nat → Int32) × (Nat → Nat → Int32)
abbrev clA (C : hCl) : Nat → Nat := C.1
abbrev clY (C : hCl) : Nat := C.2.1
/-- 0 line, 1 paid, 2 reserve, 3 whether it is open -/
abbrev clI (C : hCl) : Nat → Int32 := C.2.2.1
abbrev clN (C : hCl) : Nat → Nat → Int32 := C.2.2.2
def ClV (G : hG) (M : hM) (a t : Nat) (C : hCl) : Prop := M a = some (t, .inr (5, [.int (nI (clY C)), .int (clI C 0), .int (clI C 1), .int (clI C 2), .int (clI C 3), .ref (clA C 0), .ref (clA C 1)])) ∧ M (clA C 0) = some (t + 1, .inl (hT G 0, 10, .inl (clN C 0))) ∧ M (clA C 1) = some (t + 2, .inl (hT G 0, 10, .inl (clN C 1)))
/-- what is known of a claim at an age -/
def clKnown (C : hCl) (age now : Nat) (p : Bool) : Int32 := if now - clY C ≤ age then (if p then clI C 1 else clI C 1 + clI C 2) else (if p then clN C 0 age else clN C 1 age)
abbrev hSy : Type := Nat × (Nat → hLy) × (Nat → Nat → hFo) × Nat × (Nat → hCl) × (Nat → Nat)
abbrev sN (S : hSy) : Nat := S.1
abbrev sL (S : hSy) : Nat → hLy := S.2.1
abbrev sF (S : hSy) : Nat → Nat → hFo := S.2.2.1
abbrev sM (S : hSy) : Nat := S.2.2.2.1
abbrev sC (S : hSy) : Nat → hCl := S.2.2.2.2.1
abbrev sA (S : hSy) : Nat → Nat := S.2.2.2.2.2
/-- a formula's value, where it hangs on nothing else -/
def fv (F : hFo) (line amount : Int32) : Int32 := fSt F line amount (fun _ => 0) (foN F) 0
def FoG (F : hFo) : Prop := FoW F ∧ ∀ line amount, FoE F line amount (fv F line amount)
/-- a layer with its formulas of the limit (0), the retention (1), the test (4) -/
def LaV (G : hG) (M : hM) (a t : Nat) (L : hLy) (F : Nat → hFo) : Prop := LyV G M a t L ∧ FoV G M (lyA L 0) (t + 10) (F 0) ∧ FoV G M (lyA L 1) (t + 20) (F 1) ∧ (∀ q, lyR L 2 = some q → FoV G M q (t + 50) (F 4))
def LaG (L : hLy) (F : Nat → hFo) : Prop := FoG (F 0) ∧ FoG (F 1) ∧ FoG (F 4) ∧ ∃ n, n ≤ 4 ∧ lyI L 2 = nI n
def SyV (G : hG) (M : hM) (S : hSy) : Prop := LsO M (sA S 13) 13 (sA S 14) (sN S) ∧ (0 < sN S → LsE G M (sA S 14) 14 (sN S) (fun k => sA S (2000 + 100 * k))) ∧ LsO M (sA S 15) 15 (sA S 16) (sM S) ∧ (0 < sM S → LsE G M (sA S 16) 16 (sM S) (fun i => sA S (1000 + 10 * i)))
  ∧ (∀ k, k < sN S → LaV G M (sA S (2000 + 100 * k)) (2000 + 100 * k) (sL S k) (sF S k)) ∧ (∀ i, i < sM S → ClV G M (sA S (1000 + 10 * i)) (1000 + 10 * i) (sC S i))
/-- what always holds of them -/
def SyG (S : hSy) : Prop := sN S ≤ 8 ∧ sM S ≤ 40 ∧ (∀ k, k < sN S → LaG (sL S k) (sF S k)) ∧ ∀ i, i < sM S → clY (sC S i) < 10
def CesV (G : hG) (M : hM) (S : hSy) (cx : Nat) (am : Nat → Int32) (be yl : Nat → Nat → Int32) (lo : Nat → Int32) : Prop :=
  M (sA S (100 * (cx + 1))) = some (100 * (cx + 1), .inr (3, [.ref (sA S (100 * (cx + 1) + 1)), .ref (sA S (100 * (cx + 1) + 2)), .ref (sA S (100 * (cx + 1) + 3)), .ref (sA S (100 * (cx + 1) + 4)), .ref (sA S 13), .ref (sA S 15)]))
  ∧ M (sA S (100 * (cx + 1) + 1)) = some (100 * (cx + 1) + 1, .inl (hT G 0, 40, .inl am))
  ∧ (∃ f : Nat → Option Nat, (∀ i, i < 40 → f i = some (sA S (100 * (cx + 1) + 10 + i))) ∧ M (sA S (100 * (cx + 1) + 2)) = some (100 * (cx + 1) + 2, .inl (hT G 5, 40, .inr (.inr (.inr (.inr f))))))
  ∧ (∀ i, i < 40 → M (sA S (100 * (cx + 1) + 10 + i)) = some (100 * (cx + 1) + 10 + i, .inl (hT G 0, 8, .inl (be i))))
  ∧ (∃ f : Nat → Option Nat, (∀ k, k < 8 → f k = some (sA S (100 * (cx + 1) + 60 + k))) ∧ M (sA S (100 * (cx + 1) + 3)) = some (100 * (cx + 1) + 3, .inl (hT G 5, 8, .inr (.inr (.inr (.inr f))))))
  ∧ (∀ k, k < 8 → M (sA S (100 * (cx + 1) + 60 + k)) = some (100 * (cx + 1) + 60 + k, .inl (hT G 0, 10, .inl (yl k))))
  ∧ M (sA S (100 * (cx + 1) + 4)) = some (100 * (cx + 1) + 4, .inl (hT G 0, 8, .inl lo))
-- what is read off a cession
def rSum (f : Nat → Int32) : Nat → Int32
  | 0 => 0
  | n + 1 => rSum f n + f n
def rGiven (S : hSy) (be : Nat → Nat → Int32) (i k : Nat) : Int32 := lyShare (sL S k) (be i k)
def rAll (S : hSy) (be : Nat → Nat → Int32) (i : Nat) : Int32 := rSum (rGiven S be i) (sN S)
def rLeft (S : hSy) (am : Nat → Int32) (be : Nat → Nat → Int32) (i : Nat) : Int32 := sMax (am i - rAll S be i) 0
def rLefts (S : hSy) (am : Nat → Int32) (be : Nat → Nat → Int32) : Int32 := rSum (rLeft S am be) (sM S)
def rBorne (S : hSy) (yl : Nat → Nat → Int32) (k y : Nat) : Int32 := lyBorne (sL S k) y (yl k y)
def rNum (x : Int32) : Nat := x.toNatClampNeg
def rCharge (S : hSy) (yl : Nat → Nat → Int32) (k y : Nat) : Int32 := lyCharge (sL S k) y (rBorne S yl k y) (rNum (lyI (sL S k) 2))
def rIn (z : Int32) (f : Nat → Int32) : Nat → Int32
  | 0 => z
  | y + 1 => rIn z f y + f y
def rAcc (f : Nat → Nat → Int32) (n : Nat) : Nat → Int32
  | 0 => 0
  | k + 1 => rIn (rAcc f n k) (f k) n
def rCharges (S : hSy) (yl : Nat → Nat → Int32) : Int32 := rAcc (rCharge S yl) 10 (sN S)
def rCount (S : hSy) (be : Nat → Nat → Int32) (k y : Nat) : Nat → Nat
  | 0 => 0
  | i + 1 => if clY (sC S i) = y ∧ 0 < be i k then rCount S be k y i + 1 else rCount S be k y i
theorem rCount_le (S : hSy) (be : Nat → Nat → Int32) (k y : Nat) : ∀ i, rCount S be k y i ≤ i
  | 0 => Nat.le_refl 0
  | i + 1 => by
    have := rCount_le S be k y i
    unfold rCount
    by_cases h : clY (sC S i) = y ∧ 0 < be i k
    · rw [if_pos h]; omega
    · rw [if_neg h]; omega

theorem dX3_known_0 : decode cX3_known 0 = .ok (.iload_n 1, 1) := by decide +kernel
theorem dX3_known_1 : decode cX3_known 1 = .ok (.ifCond .lt 19, 3) := by decide +kernel
theorem dX3_known_4 : decode cX3_known 4 = .ok (.iload_n 1, 1) := by decide +kernel
theorem dX3_known_5 : decode cX3_known 5 = .ok (.iload_n 2, 1) := by decide +kernel
theorem dX3_known_6 : decode cX3_known 6 = .ok (.aload_n 0, 1) := by decide +kernel
theorem dX3_known_7 : decode cX3_known 7 = .ok (.getfield 26, 3) := by decide +kernel
theorem dX3_known_10 : decode cX3_known 10 = .ok (.isub, 1) := by decide +kernel
theorem dX3_known_11 : decode cX3_known 11 = .ok (.if_icmp .ge 9, 3) := by decide +kernel
theorem dX3_known_14 : decode cX3_known 14 = .ok (.iload_n 1, 1) := by decide +kernel
theorem dX3_known_15 : decode cX3_known 15 = .ok (.bipush 10, 2) := by decide +kernel
theorem dX3_known_17 : decode cX3_known 17 = .ok (.if_icmp .lt 24, 3) := by decide +kernel
theorem dX3_known_20 : decode cX3_known 20 = .ok (.iload_n 3, 1) := by decide +kernel
theorem dX3_known_21 : decode cX3_known 21 = .ok (.ifCond .eq 10, 3) := by decide +kernel
theorem dX3_known_24 : decode cX3_known 24 = .ok (.aload_n 0, 1) := by decide +kernel
theorem dX3_known_25 : decode cX3_known 25 = .ok (.getfield 9, 3) := by decide +kernel
theorem dX3_known_28 : decode cX3_known 28 = .ok (.goto 12, 3) := by decide +kernel
theorem dX3_known_31 : decode cX3_known 31 = .ok (.aload_n 0, 1) := by decide +kernel
theorem dX3_known_32 : decode cX3_known 32 = .ok (.getfield 9, 3) := by decide +kernel
theorem dX3_known_35 : decode cX3_known 35 = .ok (.aload_n 0, 1) := by decide +kernel
theorem dX3_known_36 : decode cX3_known 36 = .ok (.getfield 32, 3) := by decide +kernel
theorem dX3_known_39 : decode cX3_known 39 = .ok (.iadd, 1) := by decide +kernel
theorem dX3_known_40 : decode cX3_known 40 = .ok (.ireturn, 1) := by decide +kernel
theorem dX3_known_41 : decode cX3_known 41 = .ok (.iload_n 3, 1) := by decide +kernel
theorem dX3_known_42 : decode cX3_known 42 = .ok (.ifCond .eq 12, 3) := by decide +kernel
theorem dX3_known_45 : decode cX3_known 45 = .ok (.aload_n 0, 1) := by decide +kernel
theorem dX3_known_46 : decode cX3_known 46 = .ok (.getfield 19, 3) := by decide +kernel
theorem dX3_known_49 : decode cX3_known 49 = .ok (.iload_n 1, 1) := by decide +kernel
theorem dX3_known_50 : decode cX3_known 50 = .ok (.iaload, 1) := by decide +kernel
theorem dX3_known_51 : decode cX3_known 51 = .ok (.goto 9, 3) := by decide +kernel
theorem dX3_known_54 : decode cX3_known 54 = .ok (.aload_n 0, 1) := by decide +kernel
theorem dX3_known_55 : decode cX3_known 55 = .ok (.getfield 23, 3) := by decide +kernel
theorem dX3_known_58 : decode cX3_known 58 = .ok (.iload_n 1, 1) := by decide +kernel
theorem dX3_known_59 : decode cX3_known 59 = .ok (.iaload, 1) := by decide +kernel
theorem dX3_known_60 : decode cX3_known 60 = .ok (.ireturn, 1) := by decide +kernel
set_option maxHeartbeats 400000 in
set_option maxRecDepth 100000 in
theorem c_known (l : Launch) (G : hG) (M : hM) (a t : Nat) (C : hCl) (hC : ClV G M a t C) (age now : Nat) (pd : Bool) (ha : age < 10) (hn : now < 10) (hy : clY C ≤ now) : hCT l G yX3_known cX3_known 4 (Option.some FieldType.int) (hRm 1 0 0) M [.ref a, .int (nI age), .int (nI now), .int (bI pd)] (hRd M (.int (clKnown C age now pd))) := by
  refine hCT.of (own := RX3) (nm := "known") (by decide) rfl rfl (Nat.le_of_ble_eq_true rfl) ?_
  intro p e s m args below meth c ls X Y hl
  have hx := X.1
  have hb := X.2.1
  have hl : lv_has ls 4 [(0, .ref a), (1, .int (nI age)), (2, .int (nI now)), (3, .int (bI pd))] := hl
  refine lv_iload_n hx hb dX3_known_0 rfl (lv_at hl 1 rfl) ?_
  refine lv_if_lt (tgt := 20) hx hb dX3_known_1 (by decide) (fun c1 => absurd (show age < 0 from (nI_ltI (a := age) (b := 0) (by omega) (by omega)).mp c1) (by omega)) (fun c1 => ?_)
  have c1 : ¬ age < 0 := fun z9 => c1 ((nI_ltI (a := age) (b := 0) (by omega) (by omega)).mpr z9)
  refine lv_iload_n hx hb dX3_known_4 rfl (lv_at hl 1 rfl) ?_
  refine lv_iload_n hx hb dX3_known_5 rfl (lv_at hl 2 rfl) ?_
  refine lv_aload_n hx hb dX3_known_6 rfl (lv_at hl 0 rfl) ?_
  refine h_get X Y (k := 0) (v := .int (nI (clY C))) hC.1 rfl hin_X3 (by decide) kfl_X3_26 rfl dX3_known_7 ?_
  refine lv_isub hx hb dX3_known_10 ?_
  refine h_ev (y := nI (now - clY C)) (pk_sub hy) ?_
  refine lv_icmp_ge (tgt := 20) hx hb dX3_known_11 (by decide) (fun c11 => ?_) (fun c11 => ?_)
  · have c11 : (now - clY C) ≤ age := (nI_leI (a := (now - clY C)) (b := age) (by omega) (by omega)).mp c11
    refine lv_iload_n hx hb dX3_known_20 rfl (lv_at hl 3 rfl) ?_
    cases pd with
    | false =>
      refine lv_if_eq (tgt := 31) hx hb dX3_known_21 (by decide) (fun _ => ?_) (fun z9 => absurd rfl z9)
      refine lv_aload_n hx hb dX3_known_31 rfl (lv_at hl 0 rfl) ?_
      refine h_get X Y (k := 2) (v := .int (clI C 1)) hC.1 rfl hin_X3 (by decide) kfl_X3_9 rfl dX3_known_32 ?_
      refine lv_aload_n hx hb dX3_known_35 rfl (lv_at hl 0 rfl) ?_
      refine h_get X Y (k := 3) (v := .int (clI C 2)) hC.1 rfl hin_X3 (by decide) kfl_X3_32 rfl dX3_known_36 ?_
      refine lv_iadd hx hb dX3_known_39 ?_
      exact h_iret X Y ⟨congrArg (fun z => some (Value.int z)) (if_pos c11).symm, rfl⟩ (Nat.le_refl _) (Nat.le_refl _) dX3_known_40
    | true =>
      refine lv_if_eq (tgt := 31) hx hb dX3_known_21 (by decide) (fun z9 => absurd z9 (by decide)) (fun _ => ?_)
      refine lv_aload_n hx hb dX3_known_24 rfl (lv_at hl 0 rfl) ?_
      refine h_get X Y (k := 2) (v := .int (clI C 1)) hC.1 rfl hin_X3 (by decide) kfl_X3_9 rfl dX3_known_25 ?_
      refine lv_goto (tgt := 40) hx hb dX3_known_28 (by decide) ?_
      exact h_iret X Y ⟨congrArg (fun z => some (Value.int z)) (if_pos c11).symm, rfl⟩ (Nat.le_refl _) (Nat.le_refl _) dX3_known_40
  · have c11 : ¬ (now - clY C) ≤ age := fun z9 => c11 ((nI_leI (a := (now - clY C)) (b := age) (by omega) (by omega)).mpr z9)
    refine lv_iload_n hx hb dX3_known_14 rfl (lv_at hl 1 rfl) ?_
    refine lv_bipush (v := 10) hx hb dX3_known_15 (by decide) ?_
    refine lv_icmp_lt (tgt := 41) hx hb dX3_known_17 (by decide) (fun c17 => ?_) (fun c17 => absurd (show ¬ age < 10 from fun z9 => c17 ((nI_ltI (a := age) (b := 10) (by omega) (by omega)).mpr z9)) (by omega))
    have c17 : age < 10 := (nI_ltI (a := age) (b := 10) (by omega) (by omega)).mp c17
    refine lv_iload_n hx hb dX3_known_41 rfl (lv_at hl 3 rfl) ?_
    cases pd with
    | false =>
      refine lv_if_eq (tgt := 54) hx hb dX3_known_42 (by decide) (fun _ => ?_) (fun z9 => absurd rfl z9)
      refine lv_aload_n hx hb dX3_known_54 rfl (lv_at hl 0 rfl) ?_
      refine h_get X Y (k := 6) (v := .ref (clA C 1)) hC.1 rfl hin_X3 (by decide) kfl_X3_23 rfl dX3_known_55 ?_
      refine lv_iload_n hx hb dX3_known_58 rfl (lv_at hl 1 rfl) ?_
      refine h_iald X Y (i := age) hC.2.2 (by omega) (by decide) dX3_known_59 ?_
      exact h_iret X Y ⟨congrArg (fun z => some (Value.int z)) (if_neg (by omega)).symm, rfl⟩ (Nat.le_refl _) (Nat.le_refl _) dX3_known_60
    | true =>
      refine lv_if_eq (tgt := 54) hx hb dX3_known_42 (by decide) (fun z9 => absurd z9 (by decide)) (fun _ => ?_)
      refine lv_aload_n hx hb dX3_known_45 rfl (lv_at hl 0 rfl) ?_
      refine h_get X Y (k := 5) (v := .ref (clA C 0)) hC.1 rfl hin_X3 (by decide) kfl_X3_19 rfl dX3_known_46 ?_
      refine lv_iload_n hx hb dX3_known_49 rfl (lv_at hl 1 rfl) ?_
      refine h_iald X Y (i := age) hC.2.1 (by omega) (by decide) dX3_known_50 ?_
      refine lv_goto (tgt := 60) hx hb dX3_known_51 (by decide) ?_
      exact h_iret X Y ⟨congrArg (fun z => some (Value.int z)) (if_neg (by omega)).symm, rfl⟩ (Nat.le_refl _) (Nat.le_refl _) dX3_known_60
theorem gw_X1_43 : GoodIn hGW (va_wsF RX1 43 RJx4a65c ⟨"java/util/List", "get", "(I)Ljava/lang/Object;"⟩ yJx4a65c_get_915e3 (Cond.code yJx4a65c_get_915e3 cJx4a65c_get_915e3 2 (Option.some (FieldType.object "java/lang/Object")) :: hGW)) := hgi4 kml_X1_43 kse_Jx4a65c_Zjava_util_List_get__I_Ljava_lang_Object__Jx4a65c_get_915e3 kin_Jx4a65c_get_915e3 kini_Jx4a65c kco_Jx4a65c_get_915e3
theorem dsi_Jx4a65c_get_915e3 : (⟨"java/util/List", "get", "(I)Ljava/lang/Object;"⟩ : MethodName).cls ≠ "java/lang/invoke/MethodHandle" ∧ (⟨"java/util/List", "get", "(I)Ljava/lang/Object;"⟩ : MethodName).cls ≠ "java/lang/invoke/VarHandle" ∧ (parseMethodDescriptor (⟨"java/util/List", "get", "(I)Ljava/lang/Object;"⟩ : MethodName).desc).map (fun d => d.parameters.length) = some 1 := ⟨by decide +kernel, by decide +kernel, by decide +kernel⟩
theorem gw_X1_79 : GoodIn hGW (wsV RX1 79 RX5 yX5_shareOf (Cond.code yX5_shareOf cX5_shareOf 2 (Option.some FieldType.int) :: hGW)) := hgi4 kml_X1_79 kin_X5_shareOf kse_X5_X5_shareOf_X5_shareOf kini_X5 kco_X5_shareOf
theorem dsc_X5_shareOf : yX5_shareOf.cls = RX5 ∧ yX5_shareOf.cls ≠ "java/lang/invoke/MethodHandle" ∧ yX5_shareOf.cls ≠ "java/lang/invoke/VarHandle" ∧ (parseMethodDescriptor yX5_shareOf.desc).map (fun d => d.parameters.length) = some 1 := ⟨rfl, by decide +kernel, by decide +kernel, by decide +kernel⟩
theorem dX1_given_0 : decode cX1_given 0 = .ok (.aload_n 0, 1) := by decide +kernel
theorem dX1_given_1 : decode cX1_given 1 = .ok (.getfield 26, 3) := by decide +kernel
theorem dX1_given_4 : decode cX1_given 4 = .ok (.iload_n 1, 1) := by decide +kernel
theorem dX1_given_5 : decode cX1_given 5 = .ok (.invokeinterface 43 2, 5) := by decide +kernel
theorem dX1_given_10 : decode cX1_given 10 = .ok (.checkcast 53, 3) := by decide +kernel
theorem dX1_given_13 : decode cX1_given 13 = .ok (.aload_n 0, 1) := by decide +kernel
theorem dX1_given_14 : decode cX1_given 14 = .ok (.getfield 17, 3) := by decide +kernel
theorem dX1_given_17 : decode cX1_given 17 = .ok (.iload_n 2, 1) := by decide +kernel
theorem dX1_given_18 : decode cX1_given 18 = .ok (.aaload, 1) := by decide +kernel
theorem dX1_given_19 : decode cX1_given 19 = .ok (.iload_n 1, 1) := by decide +kernel
theorem dX1_given_20 : decode cX1_given 20 = .ok (.iaload, 1) := by decide +kernel
theorem dX1_given_21 : decode cX1_given 21 = .ok (.invokevirtual 79, 3) := by decide +kernel
theorem dX1_given_24 : decode cX1_given 24 = .ok (.ireturn, 1) := by decide +kernel
set_option maxHeartbeats 400000 in
set_option maxRecDepth 100000 in
theorem c_given (l : Launch) (G : hG) (M : hM) (S : hSy) (hS : SyV G M S) (hG1 : SyG S) (cx : Nat) (am : Nat → Int32) (be yl : Nat → Nat → Int32) (lo : Nat → Int32) (hV : CesV G M S cx am be yl lo) (k i : Nat) (hk : k < sN S) (hi : i < 40) : hCT l G yX1_given cX1_given 3 (Option.some FieldType.int) (hRm 4 0 0) M [.ref (sA S (100 * (cx + 1))), .int (nI k), .int (nI i)] (hRd M (.int (rGiven S be i k))) := by
  refine hCT.of (own := RX1) (nm := "given") (by decide) rfl rfl (Nat.le_of_ble_eq_true rfl) ?_
  intro p e s m args below meth c ls X Y hl
  have hx := X.1
  have hb := X.2.1
  have hl : lv_has ls 3 [(0, .ref (sA S (100 * (cx + 1)))), (1, .int (nI k)), (2, .int (nI i))] := hl
  obtain ⟨hN8, hM40, hLG, hCY⟩ := id hG1
  obtain ⟨hl13, he14, hl15, he16, hLa, hCl⟩ := id hS
  obtain ⟨mc13, hlo13⟩ := id hl13
  obtain ⟨mc15, hlo15⟩ := id hl15
  obtain ⟨ho, ham, ⟨fb, hfb, hbo⟩, hbr, ⟨fy, hfy, hyo⟩, hyr, hlo⟩ := id hV
  refine lv_aload_n hx hb dX1_given_0 rfl (lv_at hl 0 rfl) ?_
  refine h_get X Y (k := 4) (v := .ref (sA S 13)) ho rfl hin_X1 (by decide) kfl_X1_26 rfl dX1_given_1 ?_
  refine lv_iload_n hx hb dX1_given_4 rfl (lv_at hl 1 rfl) ?_
  refine h_callFr (rest := []) X Y (c_get l G M (sA S 13) 13 (sA S 14) 14 (sN S) k (fun k => sA S (2000 + 100 * k)) hl13 (he14 (by omega)) (by omega)) rfl rfl (hFw_Jx4a65c_get_915e3 X) gw_X1_43 dsi_Jx4a65c_get_915e3 hlo13 rfl rfl rfl rfl hl.1 (Nat.le_of_ble_eq_true rfl) ⟨Nat.le_of_ble_eq_true rfl, Nat.le_of_ble_eq_true rfl⟩ ⟨Nat.le_of_ble_eq_true rfl, Nat.le_of_ble_eq_true rfl⟩ dX1_given_5 (fun H locs Y => ?_)
  refine h_cast X Y (hLa k (by omega)).1.1 rfl rfl kcl_X1_53 dX1_given_10 ?_
  refine lv_aload_n hx hb dX1_given_13 rfl (lv_at hl 0 rfl) ?_
  refine h_get X Y (k := 1) (v := .ref (sA S (100 * (cx + 1) + 2))) ho rfl hin_X1 (by decide) kfl_X1_17 rfl dX1_given_14 ?_
  refine lv_iload_n hx hb dX1_given_17 rfl (lv_at hl 2 rfl) ?_
  refine h_aaldI X Y (i := i) hbo (by omega) (by decide) dX1_given_18 ?_
  refine h_rf (hfb i (by omega)) ?_
  refine lv_iload_n hx hb dX1_given_19 rfl (lv_at hl 1 rfl) ?_
  refine h_iald X Y (i := k) (hbr i (by omega)) (by omega) (by decide) dX1_given_20 ?_
  refine h_callVr (rest := []) X Y (c_shareOf l G M (sA S (2000 + 100 * k)) (2000 + 100 * k) (sL S k) (hLa k hk).1 (be i k)) rfl rfl gw_X1_79 dsc_X5_shareOf (hLa k (by omega)).1.1 rfl rfl rfl rfl hl.1 (Nat.le_of_ble_eq_true rfl) ⟨Nat.le_of_ble_eq_true rfl, Nat.le_of_ble_eq_true rfl⟩ ⟨Nat.le_of_ble_eq_true rfl, Nat.le_of_ble_eq_true rfl⟩ dX1_given_21 (fun H locs Y => ?_)
  exact h_iret X Y ⟨rfl, rfl⟩ (Nat.le_refl _) (Nat.le_refl _) dX1_given_24
theorem gw_X1_33 : GoodIn hGW (va_wsF RX1 33 RJx4a65c ⟨"java/util/List", "size", "()I"⟩ yJx4a65c_size_8abf5 (Cond.code yJx4a65c_size_8abf5 cJx4a65c_size_8abf5 1 (Option.some FieldType.int) :: hGW)) := hgi4 kml_X1_33 kse_Jx4a65c_Zjava_util_List_size___I_Jx4a65c_size_8abf5 kin_Jx4a65c_size_8abf5 kini_Jx4a65c kco_Jx4a65c_size_8abf5
theorem dsi_Jx4a65c_size_8abf5 : (⟨"java/util/List", "size", "()I"⟩ : MethodName).cls ≠ "java/lang/invoke/MethodHandle" ∧ (⟨"java/util/List", "size", "()I"⟩ : MethodName).cls ≠ "java/lang/invoke/VarHandle" ∧ (parseMethodDescriptor (⟨"java/util/List", "size", "()I"⟩ : MethodName).desc).map (fun d => d.parameters.length) = some 0 := ⟨by decide +kernel, by decide +kernel, by decide +kernel⟩
theorem gw_X1_71 : GoodIn hGW (wsV RX1 71 RX1 yX1_given (Cond.code yX1_given cX1_given 3 (Option.some FieldType.int) :: hGW)) := hgi4 kml_X1_71 kin_X1_given kse_X1_X1_given_X1_given kini_X1 kco_X1_given
theorem dsc_X1_given : yX1_given.cls = RX1 ∧ yX1_given.cls ≠ "java/lang/invoke/MethodHandle" ∧ yX1_given.cls ≠ "java/lang/invoke/VarHandle" ∧ (parseMethodDescriptor yX1_given.desc).map (fun d => d.parameters.length) = some 2 := ⟨rfl, by decide +kernel, by decide +kernel, by decide +kernel⟩
theorem dX1_allGiven_0 : decode cX1_allGiven 0 = .ok (.iconst 0, 1) := by decide +kernel
theorem dX1_allGiven_1 : decode cX1_allGiven 1 = .ok (.istore_n 2, 1) := by decide +kernel
theorem dX1_allGiven_2 : decode cX1_allGiven 2 = .ok (.iconst 0, 1) := by decide +kernel
theorem dX1_allGiven_3 : decode cX1_allGiven 3 = .ok (.istore_n 3, 1) := by decide +kernel
theorem dX1_allGiven_4 : decode cX1_allGiven 4 = .ok (.iload_n 3, 1) := by decide +kernel
theorem dX1_allGiven_5 : decode cX1_allGiven 5 = .ok (.aload_n 0, 1) := by decide +kernel
theorem dX1_allGiven_6 : decode cX1_allGiven 6 = .ok (.getfield 26, 3) := by decide +kernel
theorem dX1_allGiven_9 : decode cX1_allGiven 9 = .ok (.invokeinterface 33 1, 5) := by decide +kernel
theorem dX1_allGiven_14 : decode cX1_allGiven 14 = .ok (.if_icmp .ge 18, 3) := by decide +kernel
theorem dX1_allGiven_17 : decode cX1_allGiven 17 = .ok (.iload_n 2, 1) := by decide +kernel
theorem dX1_allGiven_18 : decode cX1_allGiven 18 = .ok (.aload_n 0, 1) := by decide +kernel
theorem dX1_allGiven_19 : decode cX1_allGiven 19 = .ok (.iload_n 3, 1) := by decide +kernel
theorem dX1_allGiven_20 : decode cX1_allGiven 20 = .ok (.iload_n 1, 1) := by decide +kernel
theorem dX1_allGiven_21 : decode cX1_allGiven 21 = .ok (.invokevirtual 71, 3) := by decide +kernel
theorem dX1_allGiven_24 : decode cX1_allGiven 24 = .ok (.iadd, 1) := by decide +kernel
theorem dX1_allGiven_25 : decode cX1_allGiven 25 = .ok (.istore_n 2, 1) := by decide +kernel
theorem dX1_allGiven_26 : decode cX1_allGiven 26 = .ok (.iinc 3 1, 3) := by decide +kernel
theorem dX1_allGiven_29 : decode cX1_allGiven 29 = .ok (.goto (-25), 3) := by decide +kernel
theorem dX1_allGiven_32 : decode cX1_allGiven 32 = .ok (.iload_n 2, 1) := by decide +kernel
theorem dX1_allGiven_33 : decode cX1_allGiven 33 = .ok (.ireturn, 1) := by decide +kernel
set_option maxHeartbeats 400000 in
set_option maxRecDepth 100000 in
theorem c_allGiven (l : Launch) (G : hG) (M : hM) (S : hSy) (hS : SyV G M S) (hG1 : SyG S) (cx : Nat) (am : Nat → Int32) (be yl : Nat → Nat → Int32) (lo : Nat → Int32) (hV : CesV G M S cx am be yl lo) (i : Nat) (hi : i < 40) : hCT l G yX1_allGiven cX1_allGiven 4 (Option.some FieldType.int) (hRm 5 0 0) M [.ref (sA S (100 * (cx + 1))), .int (nI i)] (hRd M (.int (rAll S be i))) := by
  refine hCT.of (own := RX1) (nm := "allGiven") (by decide) rfl rfl (Nat.le_of_ble_eq_true rfl) ?_
  intro p e s m args below meth c ls X Y hl
  have hx := X.1
  have hb := X.2.1
  have hl : lv_has ls 4 [(0, .ref (sA S (100 * (cx + 1)))), (1, .int (nI i))] := hl
  obtain ⟨hN8, hM40, hLG, hCY⟩ := id hG1
  obtain ⟨hl13, he14, hl15, he16, hLa, hCl⟩ := id hS
  obtain ⟨mc13, hlo13⟩ := id hl13
  obtain ⟨mc15, hlo15⟩ := id hl15
  obtain ⟨ho, ham, ⟨fb, hfb, hbo⟩, hbr, ⟨fy, hfy, hyo⟩, hyr, hlo⟩ := id hV
  refine lv_iconst (v := 0) hx hb dX1_allGiven_0 (by decide) ?_
  refine lv_istore_n (lv' := [(2, .int 0), (0, .ref (sA S (100 * (cx + 1)))), (1, .int (nI i))]) hx hb dX1_allGiven_1 rfl hl (by decide) rfl (fun ls hl => ?_)
  refine lv_iconst (v := 0) hx hb dX1_allGiven_2 (by decide) ?_
  refine lv_istore_n (lv' := [(3, .int 0), (2, .int 0), (0, .ref (sA S (100 * (cx + 1)))), (1, .int (nI i))]) hx hb dX1_allGiven_3 rfl hl (by decide) rfl (fun ls hl => ?_)
  have loop : ∀ (d k : Nat), k + d = (sN S) + 1 → k ≤ (sN S) → ∀ (H : Heap) (locs : List Loc) (ls : Array Slot), hHS G M s H locs → lv_has ls 4 [(0, .ref (sA S (100 * (cx + 1)))), (1, .int (nI i)), (2, .int (rSum (rGiven S be i) k)), (3, .int (nI k))] → W p l e (hRm 5 0 0) s m args below meth c H locs 0 0 (MQ below (hQ G (hRd M (.int (rAll S be i)))) args s 0 0 (hA G)) (F0 m 4 ls []) := by
    intro d
    induction d with
    | zero => intro k h1 h2; exact absurd h1 (by omega)
    | succ d ih =>
      intro k h1 h2 H locs ls Y hl
      refine lv_iload_n hx hb dX1_allGiven_4 rfl (lv_at hl 3 rfl) ?_
      refine lv_aload_n hx hb dX1_allGiven_5 rfl (lv_at hl 0 rfl) ?_
      refine h_get X Y (k := 4) (v := .ref (sA S 13)) ho rfl hin_X1 (by decide) kfl_X1_26 rfl dX1_allGiven_6 ?_
      refine h_callFr (rest := [.int (nI k)]) X Y (c_size l G M (sA S 13) 13 (sA S 14) (sN S) hl13) rfl rfl (hFw_Jx4a65c_size_8abf5 X) gw_X1_33 dsi_Jx4a65c_size_8abf5 hlo13 rfl rfl rfl rfl hl.1 (Nat.le_of_ble_eq_true rfl) ⟨Nat.le_of_ble_eq_true rfl, Nat.le_of_ble_eq_true rfl⟩ ⟨Nat.le_of_ble_eq_true rfl, Nat.le_of_ble_eq_true rfl⟩ dX1_allGiven_9 (fun H locs Y => ?_)
      refine lv_icmp_ge (tgt := 32) hx hb dX1_allGiven_14 (by decide) (fun c14 => ?_) (fun c14 => ?_)
      · have c14 : (sN S) ≤ k := (nI_leI (a := (sN S)) (b := k) (by omega) (by omega)).mp c14
        have hk9 : k = (sN S) := by omega
        subst hk9
        refine lv_iload_n hx hb dX1_allGiven_32 rfl (lv_at hl 2 rfl) ?_
        exact h_iret X Y ⟨rfl, rfl⟩ (Nat.le_refl _) (Nat.le_refl _) dX1_allGiven_33
      · have c14 : ¬ (sN S) ≤ k := fun z9 => c14 ((nI_leI (a := (sN S)) (b := k) (by omega) (by omega)).mpr z9)
        refine lv_iload_n hx hb dX1_allGiven_17 rfl (lv_at hl 2 rfl) ?_
        refine lv_aload_n hx hb dX1_allGiven_18 rfl (lv_at hl 0 rfl) ?_
        refine lv_iload_n hx hb dX1_allGiven_19 rfl (lv_at hl 3 rfl) ?_
        refine lv_iload_n hx hb dX1_allGiven_20 rfl (lv_at hl 1 rfl) ?_
        refine h_callVr (rest := [.int (rSum (rGiven S be i) k)]) X Y (c_given l G M S hS hG1 cx am be yl lo hV k i (by omega) hi) rfl rfl gw_X1_71 dsc_X1_given ho rfl rfl rfl rfl hl.1 (Nat.le_of_ble_eq_true rfl) ⟨Nat.le_of_ble_eq_true rfl, Nat.le_of_ble_eq_true rfl⟩ ⟨Nat.le_of_ble_eq_true rfl, Nat.le_of_ble_eq_true rfl⟩ dX1_allGiven_21 (fun H locs Y => ?_)
        refine lv_iadd hx hb dX1_allGiven_24 ?_
        refine lv_istore_n (lv' := [(2, .int ((rSum (rGiven S be i) k) + (rGiven S be i k))), (0, .ref (sA S (100 * (cx + 1)))), (1, .int (nI i)), (3, .int (nI k))]) hx hb dX1_allGiven_25 rfl hl (by decide) rfl (fun ls hl => ?_)
        refine lv_iinc (v := nI (k + 1)) (lv' := [(3, .int (nI (k + 1))), (2, .int ((rSum (rGiven S be i) k) + (rGiven S be i k))), (0, .ref (sA S (100 * (cx + 1)))), (1, .int (nI i))]) hx hb dX1_allGiven_26 hl (k := 3) rfl (nI_1 k) (by decide) rfl (fun ls hl => ?_)
        refine lv_goto (tgt := 4) hx hb dX1_allGiven_29 (by decide) ?_
        exact ih (k + 1) (by omega) (by omega) _ _ _ Y (lv_sub hl [2, 3, 1, 0] rfl)
  exact loop ((sN S) + 1) 0 (by omega) (by omega) _ _ _ Y (lv_sub hl [2, 3, 1, 0] rfl)
theorem gw_X1_83 : GoodIn hGW (wsV RX1 83 RX1 yX1_allGiven (Cond.code yX1_allGiven cX1_allGiven 4 (Option.some FieldType.int) :: hGW)) := hgi4 kml_X1_83 kin_X1_allGiven kse_X1_X1_allGiven_X1_allGiven kini_X1 kco_X1_allGiven
theorem dsc_X1_allGiven : yX1_allGiven.cls = RX1 ∧ yX1_allGiven.cls ≠ "java/lang/invoke/MethodHandle" ∧ yX1_allGiven.cls ≠ "java/lang/invoke/VarHandle" ∧ (parseMethodDescriptor yX1_allGiven.desc).map (fun d => d.parameters.length) = some 1 := ⟨rfl, by decide +kernel, by decide +kernel, by decide +kernel⟩
theorem dX1_leftOf_0 : decode cX1_leftOf 0 = .ok (.aload_n 0, 1) := by decide +kernel
theorem dX1_leftOf_1 : decode cX1_leftOf 1 = .ok (.getfield 9, 3) := by decide +kernel
theorem dX1_leftOf_4 : decode cX1_leftOf 4 = .ok (.iload_n 1, 1) := by decide +kernel
theorem dX1_leftOf_5 : decode cX1_leftOf 5 = .ok (.iaload, 1) := by decide +kernel
theorem dX1_leftOf_6 : decode cX1_leftOf 6 = .ok (.aload_n 0, 1) := by decide +kernel
theorem dX1_leftOf_7 : decode cX1_leftOf 7 = .ok (.iload_n 1, 1) := by decide +kernel
theorem dX1_leftOf_8 : decode cX1_leftOf 8 = .ok (.invokevirtual 83, 3) := by decide +kernel
theorem dX1_leftOf_11 : decode cX1_leftOf 11 = .ok (.isub, 1) := by decide +kernel
theorem dX1_leftOf_12 : decode cX1_leftOf 12 = .ok (.iconst 0, 1) := by decide +kernel
theorem dX1_leftOf_13 : decode cX1_leftOf 13 = .ok (.invokestatic 74, 3) := by decide +kernel
theorem dX1_leftOf_16 : decode cX1_leftOf 16 = .ok (.ireturn, 1) := by decide +kernel
set_option maxHeartbeats 400000 in
set_option maxRecDepth 100000 in
theorem c_leftOf (l : Launch) (G : hG) (M : hM) (S : hSy) (hS : SyV G M S) (hG1 : SyG S) (cx : Nat) (am : Nat → Int32) (be yl : Nat → Nat → Int32) (lo : Nat → Int32) (hV : CesV G M S cx am be yl lo) (i : Nat) (hi : i < 40) : hCT l G yX1_leftOf cX1_leftOf 2 (Option.some FieldType.int) (hRm 6 0 0) M [.ref (sA S (100 * (cx + 1))), .int (nI i)] (hRd M (.int (rLeft S am be i))) := by
  refine hCT.of (own := RX1) (nm := "leftOf") (by decide) rfl rfl (Nat.le_of_ble_eq_true rfl) ?_
  intro p e s m args below meth c ls X Y hl
  have hx := X.1
  have hb := X.2.1
  have hl : lv_has ls 2 [(0, .ref (sA S (100 * (cx + 1)))), (1, .int (nI i))] := hl
  obtain ⟨hN8, hM40, hLG, hCY⟩ := id hG1
  obtain ⟨hl13, he14, hl15, he16, hLa, hCl⟩ := id hS
  obtain ⟨mc13, hlo13⟩ := id hl13
  obtain ⟨mc15, hlo15⟩ := id hl15
  obtain ⟨ho, ham, ⟨fb, hfb, hbo⟩, hbr, ⟨fy, hfy, hyo⟩, hyr, hlo⟩ := id hV
  refine lv_aload_n hx hb dX1_leftOf_0 rfl (lv_at hl 0 rfl) ?_
  refine h_get X Y (k := 0) (v := .ref (sA S (100 * (cx + 1) + 1))) ho rfl hin_X1 (by decide) kfl_X1_9 rfl dX1_leftOf_1 ?_
  refine lv_iload_n hx hb dX1_leftOf_4 rfl (lv_at hl 1 rfl) ?_
  refine h_iald X Y (i := i) ham (by omega) (by decide) dX1_leftOf_5 ?_
  refine lv_aload_n hx hb dX1_leftOf_6 rfl (lv_at hl 0 rfl) ?_
  refine lv_iload_n hx hb dX1_leftOf_7 rfl (lv_at hl 1 rfl) ?_
  refine h_callVr (rest := [.int (am i)]) X Y (c_allGiven l G M S hS hG1 cx am be yl lo hV i hi) rfl rfl gw_X1_83 dsc_X1_allGiven ho rfl rfl rfl rfl hl.1 (Nat.le_of_ble_eq_true rfl) ⟨Nat.le_of_ble_eq_true rfl, Nat.le_of_ble_eq_true rfl⟩ ⟨Nat.le_of_ble_eq_true rfl, Nat.le_of_ble_eq_true rfl⟩ dX1_leftOf_8 (fun H locs Y => ?_)
  refine lv_isub hx hb dX1_leftOf_11 ?_
  refine lv_iconst (v := 0) hx hb dX1_leftOf_12 (by decide) ?_
  refine h_mmax X kml_X1_74 hl.1 (Nat.le_of_ble_eq_true rfl) (Nat.le_of_ble_eq_true rfl) ⟨Nat.le_of_ble_eq_true rfl, Nat.le_of_ble_eq_true rfl⟩ dX1_leftOf_13 ?_
  exact h_iret X Y ⟨rfl, rfl⟩ (Nat.le_refl _) (Nat.le_refl _) dX1_leftOf_16
theorem gw_X1_86 : GoodIn hGW (wsV RX1 86 RX1 yX1_leftOf (Cond.code yX1_leftOf cX1_leftOf 2 (Option.some FieldType.int) :: hGW)) := hgi4 kml_X1_86 kin_X1_leftOf kse_X1_X1_leftOf_X1_leftOf kini_X1 kco_X1_leftOf
theorem dsc_X1_leftOf : yX1_leftOf.cls = RX1 ∧ yX1_leftOf.cls ≠ "java/lang/invoke/MethodHandle" ∧ yX1_leftOf.cls ≠ "java/lang/invoke/VarHandle" ∧ (parseMethodDescriptor yX1_leftOf.desc).map (fun d => d.parameters.length) = some 1 := ⟨rfl, by decide +kernel, by decide +kernel, by decide +kernel⟩
theorem dX1_allLeft_0 : decode cX1_allLeft 0 = .ok (.iconst 0, 1) := by decide +kernel
theorem dX1_allLeft_1 : decode cX1_allLeft 1 = .ok (.istore_n 1, 1) := by decide +kernel
theorem dX1_allLeft_2 : decode cX1_allLeft 2 = .ok (.iconst 0, 1) := by decide +kernel
theorem dX1_allLeft_3 : decode cX1_allLeft 3 = .ok (.istore_n 2, 1) := by decide +kernel
theorem dX1_allLeft_4 : decode cX1_allLeft 4 = .ok (.iload_n 2, 1) := by decide +kernel
theorem dX1_allLeft_5 : decode cX1_allLeft 5 = .ok (.aload_n 0, 1) := by decide +kernel
theorem dX1_allLeft_6 : decode cX1_allLeft 6 = .ok (.getfield 30, 3) := by decide +kernel
theorem dX1_allLeft_9 : decode cX1_allLeft 9 = .ok (.invokeinterface 33 1, 5) := by decide +kernel
theorem dX1_allLeft_14 : decode cX1_allLeft 14 = .ok (.if_icmp .ge 17, 3) := by decide +kernel
theorem dX1_allLeft_17 : decode cX1_allLeft 17 = .ok (.iload_n 1, 1) := by decide +kernel
theorem dX1_allLeft_18 : decode cX1_allLeft 18 = .ok (.aload_n 0, 1) := by decide +kernel
theorem dX1_allLeft_19 : decode cX1_allLeft 19 = .ok (.iload_n 2, 1) := by decide +kernel
theorem dX1_allLeft_20 : decode cX1_allLeft 20 = .ok (.invokevirtual 86, 3) := by decide +kernel
theorem dX1_allLeft_23 : decode cX1_allLeft 23 = .ok (.iadd, 1) := by decide +kernel
theorem dX1_allLeft_24 : decode cX1_allLeft 24 = .ok (.istore_n 1, 1) := by decide +kernel
theorem dX1_allLeft_25 : decode cX1_allLeft 25 = .ok (.iinc 2 1, 3) := by decide +kernel
theorem dX1_allLeft_28 : decode cX1_allLeft 28 = .ok (.goto (-24), 3) := by decide +kernel
theorem dX1_allLeft_31 : decode cX1_allLeft 31 = .ok (.iload_n 1, 1) := by decide +kernel
theorem dX1_allLeft_32 : decode cX1_allLeft 32 = .ok (.ireturn, 1) := by decide +kernel
set_option maxHeartbeats 400000 in
set_option maxRecDepth 100000 in
theorem c_allLeft (l : Launch) (G : hG) (M : hM) (S : hSy) (hS : SyV G M S) (hG1 : SyG S) (cx : Nat) (am : Nat → Int32) (be yl : Nat → Nat → Int32) (lo : Nat → Int32) (hV : CesV G M S cx am be yl lo) : hCT l G yX1_allLeft cX1_allLeft 3 (Option.some FieldType.int) (hRm 7 0 0) M [.ref (sA S (100 * (cx + 1)))] (hRd M (.int (rLefts S am be))) := by
  refine hCT.of (own := RX1) (nm := "allLeft") (by decide) rfl rfl (Nat.le_of_ble_eq_true rfl) ?_
  intro p e s m args below meth c ls X Y hl
  have hx := X.1
  have hb := X.2.1
  have hl : lv_has ls 3 [(0, .ref (sA S (100 * (cx + 1))))] := hl
  obtain ⟨hN8, hM40, hLG, hCY⟩ := id hG1
  obtain ⟨hl13, he14, hl15, he16, hLa, hCl⟩ := id hS
  obtain ⟨mc13, hlo13⟩ := id hl13
  obtain ⟨mc15, hlo15⟩ := id hl15
  obtain ⟨ho, ham, ⟨fb, hfb, hbo⟩, hbr, ⟨fy, hfy, hyo⟩, hyr, hlo⟩ := id hV
  refine lv_iconst (v := 0) hx hb dX1_allLeft_0 (by decide) ?_
  refine lv_istore_n (lv' := [(1, .int 0), (0, .ref (sA S (100 * (cx + 1))))]) hx hb dX1_allLeft_1 rfl hl (by decide) rfl (fun ls hl => ?_)
  refine lv_iconst (v := 0) hx hb dX1_allLeft_2 (by decide) ?_
  refine lv_istore_n (lv' := [(2, .int 0), (1, .int 0), (0, .ref (sA S (100 * (cx + 1))))]) hx hb dX1_allLeft_3 rfl hl (by decide) rfl (fun ls hl => ?_)
  have loop : ∀ (d k : Nat), k + d = (sM S) + 1 → k ≤ (sM S) → ∀ (H : Heap) (locs : List Loc) (ls : Array Slot), hHS G M s H locs → lv_has ls 3 [(0, .ref (sA S (100 * (cx + 1)))), (1, .int (rSum (rLeft S am be) k)), (2, .int (nI k))] → W p l e (hRm 7 0 0) s m args below meth c H locs 0 0 (MQ below (hQ G (hRd M (.int (rLefts S am be)))) args s 0 0 (hA G)) (F0 m 4 ls []) := by
    intro d
    induction d with
    | zero => intro k h1 h2; exact absurd h1 (by omega)
    | succ d ih =>
      intro k h1 h2 H locs ls Y hl
      refine lv_iload_n hx hb dX1_allLeft_4 rfl (lv_at hl 2 rfl) ?_
      refine lv_aload_n hx hb dX1_allLeft_5 rfl (lv_at hl 0 rfl) ?_
      refine h_get X Y (k := 5) (v := .ref (sA S 15)) ho rfl hin_X1 (by decide) kfl_X1_30 rfl dX1_allLeft_6 ?_
      refine h_callFr (rest := [.int (nI k)]) X Y (c_size l G M (sA S 15) 15 (sA S 16) (sM S) hl15) rfl rfl (hFw_Jx4a65c_size_8abf5 X) gw_X1_33 dsi_Jx4a65c_size_8abf5 hlo15 rfl rfl rfl rfl hl.1 (Nat.le_of_ble_eq_true rfl) ⟨Nat.le_of_ble_eq_true rfl, Nat.le_of_ble_eq_true rfl⟩ ⟨Nat.le_of_ble_eq_true rfl, Nat.le_of_ble_eq_true rfl⟩ dX1_allLeft_9 (fun H locs Y => ?_)
      refine lv_icmp_ge (tgt := 31) hx hb dX1_allLeft_14 (by decide) (fun c14 => ?_) (fun c14 => ?_)
      · have c14 : (sM S) ≤ k := (nI_leI (a := (sM S)) (b := k) (by omega) (by omega)).mp c14
        have hk9 : k = (sM S) := by omega
        subst hk9
        refine lv_iload_n hx hb dX1_allLeft_31 rfl (lv_at hl 1 rfl) ?_
        exact h_iret X Y ⟨rfl, rfl⟩ (Nat.le_refl _) (Nat.le_refl _) dX1_allLeft_32
      · have c14 : ¬ (sM S) ≤ k := fun z9 => c14 ((nI_leI (a := (sM S)) (b := k) (by omega) (by omega)).mpr z9)
        refine lv_iload_n hx hb dX1_allLeft_17 rfl (lv_at hl 1 rfl) ?_
        refine lv_aload_n hx hb dX1_allLeft_18 rfl (lv_at hl 0 rfl) ?_
        refine lv_iload_n hx hb dX1_allLeft_19 rfl (lv_at hl 2 rfl) ?_
        refine h_callVr (rest := [.int (rSum (rLeft S am be) k)]) X Y (c_leftOf l G M S hS hG1 cx am be yl lo hV k (by omega)) rfl rfl gw_X1_86 dsc_X1_leftOf ho rfl rfl rfl rfl hl.1 (Nat.le_of_ble_eq_true rfl) ⟨Nat.le_of_ble_eq_true rfl, Nat.le_of_ble_eq_true rfl⟩ ⟨Nat.le_of_ble_eq_true rfl, Nat.le_of_ble_eq_true rfl⟩ dX1_allLeft_20 (fun H locs Y => ?_)
        refine lv_iadd hx hb dX1_allLeft_23 ?_
        refine lv_istore_n (lv' := [(1, .int ((rSum (rLeft S am be) k) + (rLeft S am be k))), (0, .ref (sA S (100 * (cx + 1)))), (2, .int (nI k))]) hx hb dX1_allLeft_24 rfl hl (by decide) rfl (fun ls hl => ?_)
        refine lv_iinc (v := nI (k + 1)) (lv' := [(2, .int (nI (k + 1))), (1, .int ((rSum (rLeft S am be) k) + (rLeft S am be k))), (0, .ref (sA S (100 * (cx + 1))))]) hx hb dX1_allLeft_25 hl (k := 2) rfl (nI_1 k) (by decide) rfl (fun ls hl => ?_)
        refine lv_goto (tgt := 4) hx hb dX1_allLeft_28 (by decide) ?_
        exact ih (k + 1) (by omega) (by omega) _ _ _ Y (lv_sub hl [2, 1, 0] rfl)
  exact loop ((sM S) + 1) 0 (by omega) (by omega) _ _ _ Y (lv_sub hl [2, 1, 0] rfl)
theorem gw_X1_63 : GoodIn hGW (wsV RX1 63 RX5 yX5_borneOf (Cond.code yX5_borneOf cX5_borneOf 6 (Option.some FieldType.int) :: hGW)) := hgi4 kml_X1_63 kin_X5_borneOf kse_X5_X5_borneOf_X5_borneOf kini_X5 kco_X5_borneOf
theorem dsc_X5_borneOf : yX5_borneOf.cls = RX5 ∧ yX5_borneOf.cls ≠ "java/lang/invoke/MethodHandle" ∧ yX5_borneOf.cls ≠ "java/lang/invoke/VarHandle" ∧ (parseMethodDescriptor yX5_borneOf.desc).map (fun d => d.parameters.length) = some 2 := ⟨rfl, by decide +kernel, by decide +kernel, by decide +kernel⟩
theorem dX1_borneIn_0 : decode cX1_borneIn 0 = .ok (.aload_n 0, 1) := by decide +kernel
theorem dX1_borneIn_1 : decode cX1_borneIn 1 = .ok (.getfield 26, 3) := by decide +kernel
theorem dX1_borneIn_4 : decode cX1_borneIn 4 = .ok (.iload_n 1, 1) := by decide +kernel
theorem dX1_borneIn_5 : decode cX1_borneIn 5 = .ok (.invokeinterface 43 2, 5) := by decide +kernel
theorem dX1_borneIn_10 : decode cX1_borneIn 10 = .ok (.checkcast 53, 3) := by decide +kernel
theorem dX1_borneIn_13 : decode cX1_borneIn 13 = .ok (.iload_n 2, 1) := by decide +kernel
theorem dX1_borneIn_14 : decode cX1_borneIn 14 = .ok (.aload_n 0, 1) := by decide +kernel
theorem dX1_borneIn_15 : decode cX1_borneIn 15 = .ok (.getfield 20, 3) := by decide +kernel
theorem dX1_borneIn_18 : decode cX1_borneIn 18 = .ok (.iload_n 1, 1) := by decide +kernel
theorem dX1_borneIn_19 : decode cX1_borneIn 19 = .ok (.aaload, 1) := by decide +kernel
theorem dX1_borneIn_20 : decode cX1_borneIn 20 = .ok (.iload_n 2, 1) := by decide +kernel
theorem dX1_borneIn_21 : decode cX1_borneIn 21 = .ok (.iaload, 1) := by decide +kernel
theorem dX1_borneIn_22 : decode cX1_borneIn 22 = .ok (.invokevirtual 63, 3) := by decide +kernel
theorem dX1_borneIn_25 : decode cX1_borneIn 25 = .ok (.ireturn, 1) := by decide +kernel
set_option maxHeartbeats 400000 in
set_option maxRecDepth 100000 in
theorem c_borneIn (l : Launch) (G : hG) (M : hM) (S : hSy) (hS : SyV G M S) (hG1 : SyG S) (cx : Nat) (am : Nat → Int32) (be yl : Nat → Nat → Int32) (lo : Nat → Int32) (hV : CesV G M S cx am be yl lo) (k y : Nat) (hk : k < sN S) (hy : y < 10) : hCT l G yX1_borneIn cX1_borneIn 3 (Option.some FieldType.int) (hRm 4 0 0) M [.ref (sA S (100 * (cx + 1))), .int (nI k), .int (nI y)] (hRd M (.int (rBorne S yl k y))) := by
  refine hCT.of (own := RX1) (nm := "borneIn") (by decide) rfl rfl (Nat.le_of_ble_eq_true rfl) ?_
  intro p e s m args below meth c ls X Y hl
  have hx := X.1
  have hb := X.2.1
  have hl : lv_has ls 3 [(0, .ref (sA S (100 * (cx + 1)))), (1, .int (nI k)), (2, .int (nI y))] := hl
  obtain ⟨hN8, hM40, hLG, hCY⟩ := id hG1
  obtain ⟨hl13, he14, hl15, he16, hLa, hCl⟩ := id hS
  obtain ⟨mc13, hlo13⟩ := id hl13
  obtain ⟨mc15, hlo15⟩ := id hl15
  obtain ⟨ho, ham, ⟨fb, hfb, hbo⟩, hbr, ⟨fy, hfy, hyo⟩, hyr, hlo⟩ := id hV
  refine lv_aload_n hx hb dX1_borneIn_0 rfl (lv_at hl 0 rfl) ?_
  refine h_get X Y (k := 4) (v := .ref (sA S 13)) ho rfl hin_X1 (by decide) kfl_X1_26 rfl dX1_borneIn_1 ?_
  refine lv_iload_n hx hb dX1_borneIn_4 rfl (lv_at hl 1 rfl) ?_
  refine h_callFr (rest := []) X Y (c_get l G M (sA S 13) 13 (sA S 14) 14 (sN S) k (fun k => sA S (2000 + 100 * k)) hl13 (he14 (by omega)) (by omega)) rfl rfl (hFw_Jx4a65c_get_915e3 X) gw_X1_43 dsi_Jx4a65c_get_915e3 hlo13 rfl rfl rfl rfl hl.1 (Nat.le_of_ble_eq_true rfl) ⟨Nat.le_of_ble_eq_true rfl, Nat.le_of_ble_eq_true rfl⟩ ⟨Nat.le_of_ble_eq_true rfl, Nat.le_of_ble_eq_true rfl⟩ dX1_borneIn_5 (fun H locs Y => ?_)
  refine h_cast X Y (hLa k (by omega)).1.1 rfl rfl kcl_X1_53 dX1_borneIn_10 ?_
  refine lv_iload_n hx hb dX1_borneIn_13 rfl (lv_at hl 2 rfl) ?_
  refine lv_aload_n hx hb dX1_borneIn_14 rfl (lv_at hl 0 rfl) ?_
  refine h_get X Y (k := 2) (v := .ref (sA S (100 * (cx + 1) + 3))) ho rfl hin_X1 (by decide) kfl_X1_20 rfl dX1_borneIn_15 ?_
  refine lv_iload_n hx hb dX1_borneIn_18 rfl (lv_at hl 1 rfl) ?_
  refine h_aaldI X Y (i := k) hyo (by omega) (by decide) dX1_borneIn_19 ?_
  refine h_rf (hfy k (by omega)) ?_
  refine lv_iload_n hx hb dX1_borneIn_20 rfl (lv_at hl 2 rfl) ?_
  refine h_iald X Y (i := y) (hyr k (by omega)) (by omega) (by decide) dX1_borneIn_21 ?_
  refine h_callVr (rest := []) X Y (c_borneOf l G M (sA S (2000 + 100 * k)) (2000 + 100 * k) (sL S k) (hLa k hk).1 y hy (yl k y)) rfl rfl gw_X1_63 dsc_X5_borneOf (hLa k (by omega)).1.1 rfl rfl rfl rfl hl.1 (Nat.le_of_ble_eq_true rfl) ⟨Nat.le_of_ble_eq_true rfl, Nat.le_of_ble_eq_true rfl⟩ ⟨Nat.le_of_ble_eq_true rfl, Nat.le_of_ble_eq_true rfl⟩ dX1_borneIn_22 (fun H locs Y => ?_)
  exact h_iret X Y ⟨rfl, rfl⟩ (Nat.le_refl _) (Nat.le_refl _) dX1_borneIn_25
theorem gw_X1_89 : GoodIn hGW (wsV RX1 89 RX1 yX1_borneIn (Cond.code yX1_borneIn cX1_borneIn 3 (Option.some FieldType.int) :: hGW)) := hgi4 kml_X1_89 kin_X1_borneIn kse_X1_X1_borneIn_X1_borneIn kini_X1 kco_X1_borneIn
theorem dsc_X1_borneIn : yX1_borneIn.cls = RX1 ∧ yX1_borneIn.cls ≠ "java/lang/invoke/MethodHandle" ∧ yX1_borneIn.cls ≠ "java/lang/invoke/VarHandle" ∧ (parseMethodDescriptor yX1_borneIn.desc).map (fun d => d.parameters.length) = some 2 := ⟨rfl, by decide +kernel, by decide +kernel, by decide +kernel⟩
theorem gw_X1_92 : GoodIn hGW (wsV RX1 92 RX5 yX5_chargeOf (Cond.code yX5_chargeOf cX5_chargeOf 10 (Option.some FieldType.int) :: hGW)) := hgi4 kml_X1_92 kin_X5_chargeOf kse_X5_X5_chargeOf_X5_chargeOf kini_X5 kco_X5_chargeOf
theorem dsc_X5_chargeOf : yX5_chargeOf.cls = RX5 ∧ yX5_chargeOf.cls ≠ "java/lang/invoke/MethodHandle" ∧ yX5_chargeOf.cls ≠ "java/lang/invoke/VarHandle" ∧ (parseMethodDescriptor yX5_chargeOf.desc).map (fun d => d.parameters.length) = some 2 := ⟨rfl, by decide +kernel, by decide +kernel, by decide +kernel⟩
theorem dX1_chargedIn_0 : decode cX1_chargedIn 0 = .ok (.aload_n 0, 1) := by decide +kernel
theorem dX1_chargedIn_1 : decode cX1_chargedIn 1 = .ok (.getfield 26, 3) := by decide +kernel
theorem dX1_chargedIn_4 : decode cX1_chargedIn 4 = .ok (.iload_n 1, 1) := by decide +kernel
theorem dX1_chargedIn_5 : decode cX1_chargedIn 5 = .ok (.invokeinterface 43 2, 5) := by decide +kernel
theorem dX1_chargedIn_10 : decode cX1_chargedIn 10 = .ok (.checkcast 53, 3) := by decide +kernel
theorem dX1_chargedIn_13 : decode cX1_chargedIn 13 = .ok (.iload_n 2, 1) := by decide +kernel
theorem dX1_chargedIn_14 : decode cX1_chargedIn 14 = .ok (.aload_n 0, 1) := by decide +kernel
theorem dX1_chargedIn_15 : decode cX1_chargedIn 15 = .ok (.iload_n 1, 1) := by decide +kernel
theorem dX1_chargedIn_16 : decode cX1_chargedIn 16 = .ok (.iload_n 2, 1) := by decide +kernel
theorem dX1_chargedIn_17 : decode cX1_chargedIn 17 = .ok (.invokevirtual 89, 3) := by decide +kernel
theorem dX1_chargedIn_20 : decode cX1_chargedIn 20 = .ok (.invokevirtual 92, 3) := by decide +kernel
theorem dX1_chargedIn_23 : decode cX1_chargedIn 23 = .ok (.ireturn, 1) := by decide +kernel
set_option maxHeartbeats 400000 in
set_option maxRecDepth 100000 in
theorem c_chargedIn (l : Launch) (G : hG) (M : hM) (S : hSy) (hS : SyV G M S) (hG1 : SyG S) (cx : Nat) (am : Nat → Int32) (be yl : Nat → Nat → Int32) (lo : Nat → Int32) (hV : CesV G M S cx am be yl lo) (k y : Nat) (hk : k < sN S) (hy : y < 10) : hCT l G yX1_chargedIn cX1_chargedIn 3 (Option.some FieldType.int) (hRm 5 0 0) M [.ref (sA S (100 * (cx + 1))), .int (nI k), .int (nI y)] (hRd M (.int (rCharge S yl k y))) := by
  refine hCT.of (own := RX1) (nm := "chargedIn") (by decide) rfl rfl (Nat.le_of_ble_eq_true rfl) ?_
  intro p e s m args below meth c ls X Y hl
  have hx := X.1
  have hb := X.2.1
  have hl : lv_has ls 3 [(0, .ref (sA S (100 * (cx + 1)))), (1, .int (nI k)), (2, .int (nI y))] := hl
  obtain ⟨hN8, hM40, hLG, hCY⟩ := id hG1
  obtain ⟨hl13, he14, hl15, he16, hLa, hCl⟩ := id hS
  obtain ⟨mc13, hlo13⟩ := id hl13
  obtain ⟨mc15, hlo15⟩ := id hl15
  obtain ⟨ho, ham, ⟨fb, hfb, hbo⟩, hbr, ⟨fy, hfy, hyo⟩, hyr, hlo⟩ := id hV
  obtain ⟨-, -, -, n, hn4, hnq⟩ := hLG k hk
  have hnn : rNum (lyI (sL S k) 2) = n := by unfold rNum; rw [hnq]; exact nI_clamp (by omega)
  refine lv_aload_n hx hb dX1_chargedIn_0 rfl (lv_at hl 0 rfl) ?_
  refine h_get X Y (k := 4) (v := .ref (sA S 13)) ho rfl hin_X1 (by decide) kfl_X1_26 rfl dX1_chargedIn_1 ?_
  refine lv_iload_n hx hb dX1_chargedIn_4 rfl (lv_at hl 1 rfl) ?_
  refine h_callFr (rest := []) X Y (c_get l G M (sA S 13) 13 (sA S 14) 14 (sN S) k (fun k => sA S (2000 + 100 * k)) hl13 (he14 (by omega)) (by omega)) rfl rfl (hFw_Jx4a65c_get_915e3 X) gw_X1_43 dsi_Jx4a65c_get_915e3 hlo13 rfl rfl rfl rfl hl.1 (Nat.le_of_ble_eq_true rfl) ⟨Nat.le_of_ble_eq_true rfl, Nat.le_of_ble_eq_true rfl⟩ ⟨Nat.le_of_ble_eq_true rfl, Nat.le_of_ble_eq_true rfl⟩ dX1_chargedIn_5 (fun H locs Y => ?_)
  refine h_cast X Y (hLa k (by omega)).1.1 rfl rfl kcl_X1_53 dX1_chargedIn_10 ?_
  refine lv_iload_n hx hb dX1_chargedIn_13 rfl (lv_at hl 2 rfl) ?_
  refine lv_aload_n hx hb dX1_chargedIn_14 rfl (lv_at hl 0 rfl) ?_
  refine lv_iload_n hx hb dX1_chargedIn_15 rfl (lv_at hl 1 rfl) ?_
  refine lv_iload_n hx hb dX1_chargedIn_16 rfl (lv_at hl 2 rfl) ?_
  refine h_callVr (rest := [.int (nI y), .ref (sA S (2000 + 100 * k))]) X Y (c_borneIn l G M S hS hG1 cx am be yl lo hV k y hk hy) rfl rfl gw_X1_89 dsc_X1_borneIn ho rfl rfl rfl rfl hl.1 (Nat.le_of_ble_eq_true rfl) ⟨Nat.le_of_ble_eq_true rfl, Nat.le_of_ble_eq_true rfl⟩ ⟨Nat.le_of_ble_eq_true rfl, Nat.le_of_ble_eq_true rfl⟩ dX1_chargedIn_17 (fun H locs Y => ?_)
  refine h_callVr (rest := []) X Y (c_chargeOf l G M (sA S (2000 + 100 * k)) (2000 + 100 * k) (sL S k) (hLa k hk).1 y hy (rBorne S yl k y) n hn4 hnq) rfl rfl gw_X1_92 dsc_X5_chargeOf (hLa k (by omega)).1.1 rfl rfl rfl rfl hl.1 (Nat.le_of_ble_eq_true rfl) ⟨Nat.le_of_ble_eq_true rfl, Nat.le_of_ble_eq_true rfl⟩ ⟨Nat.le_of_ble_eq_true rfl, Nat.le_of_ble_eq_true rfl⟩ dX1_chargedIn_20 (fun H locs Y => ?_)
  exact h_iret X Y ⟨by unfold rCharge; rw [hnn], rfl⟩ (Nat.le_refl _) (Nat.le_refl _) dX1_chargedIn_23
theorem gw_X1_95 : GoodIn hGW (wsV RX1 95 RX1 yX1_chargedIn (Cond.code yX1_chargedIn cX1_chargedIn 3 (Option.some FieldType.int) :: hGW)) := hgi4 kml_X1_95 kin_X1_chargedIn kse_X1_X1_chargedIn_X1_chargedIn kini_X1 kco_X1_chargedIn
theorem dsc_X1_chargedIn : yX1_chargedIn.cls = RX1 ∧ yX1_chargedIn.cls ≠ "java/lang/invoke/MethodHandle" ∧ yX1_chargedIn.cls ≠ "java/lang/invoke/VarHandle" ∧ (parseMethodDescriptor yX1_chargedIn.desc).map (fun d => d.parameters.length) = some 2 := ⟨rfl, by decide +kernel, by decide +kernel, by decide +kernel⟩
theorem dX1_allCharged_0 : decode cX1_allCharged 0 = .ok (.iconst 0, 1) := by decide +kernel
theorem dX1_allCharged_1 : decode cX1_allCharged 1 = .ok (.istore_n 1, 1) := by decide +kernel
theorem dX1_allCharged_2 : decode cX1_allCharged 2 = .ok (.iconst 0, 1) := by decide +kernel
theorem dX1_allCharged_3 : decode cX1_allCharged 3 = .ok (.istore_n 2, 1) := by decide +kernel
theorem dX1_allCharged_4 : decode cX1_allCharged 4 = .ok (.iload_n 2, 1) := by decide +kernel
theorem dX1_allCharged_5 : decode cX1_allCharged 5 = .ok (.aload_n 0, 1) := by decide +kernel
theorem dX1_allCharged_6 : decode cX1_allCharged 6 = .ok (.getfield 26, 3) := by decide +kernel
theorem dX1_allCharged_9 : decode cX1_allCharged 9 = .ok (.invokeinterface 33 1, 5) := by decide +kernel
theorem dX1_allCharged_14 : decode cX1_allCharged 14 = .ok (.if_icmp .ge 32, 3) := by decide +kernel
theorem dX1_allCharged_17 : decode cX1_allCharged 17 = .ok (.iconst 0, 1) := by decide +kernel
theorem dX1_allCharged_18 : decode cX1_allCharged 18 = .ok (.istore_n 3, 1) := by decide +kernel
theorem dX1_allCharged_19 : decode cX1_allCharged 19 = .ok (.iload_n 3, 1) := by decide +kernel
theorem dX1_allCharged_20 : decode cX1_allCharged 20 = .ok (.bipush 10, 2) := by decide +kernel
theorem dX1_allCharged_22 : decode cX1_allCharged 22 = .ok (.if_icmp .ge 18, 3) := by decide +kernel
theorem dX1_allCharged_25 : decode cX1_allCharged 25 = .ok (.iload_n 1, 1) := by decide +kernel
theorem dX1_allCharged_26 : decode cX1_allCharged 26 = .ok (.aload_n 0, 1) := by decide +kernel
theorem dX1_allCharged_27 : decode cX1_allCharged 27 = .ok (.iload_n 2, 1) := by decide +kernel
theorem dX1_allCharged_28 : decode cX1_allCharged 28 = .ok (.iload_n 3, 1) := by decide +kernel
theorem dX1_allCharged_29 : decode cX1_allCharged 29 = .ok (.invokevirtual 95, 3) := by decide +kernel
theorem dX1_allCharged_32 : decode cX1_allCharged 32 = .ok (.iadd, 1) := by decide +kernel
theorem dX1_allCharged_33 : decode cX1_allCharged 33 = .ok (.istore_n 1, 1) := by decide +kernel
theorem dX1_allCharged_34 : decode cX1_allCharged 34 = .ok (.iinc 3 1, 3) := by decide +kernel
theorem dX1_allCharged_37 : decode cX1_allCharged 37 = .ok (.goto (-18), 3) := by decide +kernel
theorem dX1_allCharged_40 : decode cX1_allCharged 40 = .ok (.iinc 2 1, 3) := by decide +kernel
theorem dX1_allCharged_43 : decode cX1_allCharged 43 = .ok (.goto (-39), 3) := by decide +kernel
theorem dX1_allCharged_46 : decode cX1_allCharged 46 = .ok (.iload_n 1, 1) := by decide +kernel
theorem dX1_allCharged_47 : decode cX1_allCharged 47 = .ok (.ireturn, 1) := by decide +kernel
set_option maxHeartbeats 400000 in
set_option maxRecDepth 100000 in
theorem c_allCharged (l : Launch) (G : hG) (M : hM) (S : hSy) (hS : SyV G M S) (hG1 : SyG S) (cx : Nat) (am : Nat → Int32) (be yl : Nat → Nat → Int32) (lo : Nat → Int32) (hV : CesV G M S cx am be yl lo) : hCT l G yX1_allCharged cX1_allCharged 4 (Option.some FieldType.int) (hRm 6 0 0) M [.ref (sA S (100 * (cx + 1)))] (hRd M (.int (rCharges S yl))) := by
  refine hCT.of (own := RX1) (nm := "allCharged") (by decide) rfl rfl (Nat.le_of_ble_eq_true rfl) ?_
  intro p e s m args below meth c ls X Y hl
  have hx := X.1
  have hb := X.2.1
  have hl : lv_has ls 4 [(0, .ref (sA S (100 * (cx + 1))))] := hl
  obtain ⟨hN8, hM40, hLG, hCY⟩ := id hG1
  obtain ⟨hl13, he14, hl15, he16, hLa, hCl⟩ := id hS
  obtain ⟨mc13, hlo13⟩ := id hl13
  obtain ⟨mc15, hlo15⟩ := id hl15
  obtain ⟨ho, ham, ⟨fb, hfb, hbo⟩, hbr, ⟨fy, hfy, hyo⟩, hyr, hlo⟩ := id hV
  refine lv_iconst (v := 0) hx hb dX1_allCharged_0 (by decide) ?_
  refine lv_istore_n (lv' := [(1, .int 0), (0, .ref (sA S (100 * (cx + 1))))]) hx hb dX1_allCharged_1 rfl hl (by decide) rfl (fun ls hl => ?_)
  refine lv_iconst (v := 0) hx hb dX1_allCharged_2 (by decide) ?_
  refine lv_istore_n (lv' := [(2, .int 0), (1, .int 0), (0, .ref (sA S (100 * (cx + 1))))]) hx hb dX1_allCharged_3 rfl hl (by decide) rfl (fun ls hl => ?_)
  have loop : ∀ (d k : Nat), k + d = (sN S) + 1 → k ≤ (sN S) → ∀ (H : Heap) (locs : List Loc) (ls : Array Slot), hHS G M s H locs → lv_has ls 4 [(0, .ref (sA S (100 * (cx + 1)))), (1, .int (rAcc (rCharge S yl) 10 k)), (2, .int (nI k))] → W p l e (hRm 6 0 0) s m args below meth c H locs 0 0 (MQ below (hQ G (hRd M (.int (rCharges S yl)))) args s 0 0 (hA G)) (F0 m 4 ls []) := by
    intro d
    induction d with
    | zero => intro k h1 h2; exact absurd h1 (by omega)
    | succ d ih =>
      intro k h1 h2 H locs ls Y hl
      refine lv_iload_n hx hb dX1_allCharged_4 rfl (lv_at hl 2 rfl) ?_
      refine lv_aload_n hx hb dX1_allCharged_5 rfl (lv_at hl 0 rfl) ?_
      refine h_get X Y (k := 4) (v := .ref (sA S 13)) ho rfl hin_X1 (by decide) kfl_X1_26 rfl dX1_allCharged_6 ?_
      refine h_callFr (rest := [.int (nI k)]) X Y (c_size l G M (sA S 13) 13 (sA S 14) (sN S) hl13) rfl rfl (hFw_Jx4a65c_size_8abf5 X) gw_X1_33 dsi_Jx4a65c_size_8abf5 hlo13 rfl rfl rfl rfl hl.1 (Nat.le_of_ble_eq_true rfl) ⟨Nat.le_of_ble_eq_true rfl, Nat.le_of_ble_eq_true rfl⟩ ⟨Nat.le_of_ble_eq_true rfl, Nat.le_of_ble_eq_true rfl⟩ dX1_allCharged_9 (fun H locs Y => ?_)
      refine lv_icmp_ge (tgt := 46) hx hb dX1_allCharged_14 (by decide) (fun c14 => ?_) (fun c14 => ?_)
      · have c14 : (sN S) ≤ k := (nI_leI (a := (sN S)) (b := k) (by omega) (by omega)).mp c14
        have hk9 : k = (sN S) := by omega
        subst hk9
        refine lv_iload_n hx hb dX1_allCharged_46 rfl (lv_at hl 1 rfl) ?_
        exact h_iret X Y ⟨rfl, rfl⟩ (Nat.le_refl _) (Nat.le_refl _) dX1_allCharged_47
      · have c14 : ¬ (sN S) ≤ k := fun z9 => c14 ((nI_leI (a := (sN S)) (b := k) (by omega) (by omega)).mpr z9)
        refine lv_iconst (v := 0) hx hb dX1_allCharged_17 (by decide) ?_
        refine lv_istore_n (lv' := [(3, .int 0), (0, .ref (sA S (100 * (cx + 1)))), (1, .int (rAcc (rCharge S yl) 10 k)), (2, .int (nI k))]) hx hb dX1_allCharged_18 rfl hl (by decide) rfl (fun ls hl => ?_)
        have loop2 : ∀ (d y : Nat), y + d = 10 + 1 → y ≤ 10 → ∀ (H : Heap) (locs : List Loc) (ls : Array Slot), hHS G M s H locs → lv_has ls 4 [(0, .ref (sA S (100 * (cx + 1)))), (1, .int (rIn (rAcc (rCharge S yl) 10 k) (rCharge S yl k) y)), (2, .int (nI k)), (3, .int (nI y))] → W p l e (hRm 6 0 0) s m args below meth c H locs 0 0 (MQ below (hQ G (hRd M (.int (rCharges S yl)))) args s 0 0 (hA G)) (F0 m 19 ls []) := by
          intro d
          induction d with
          | zero => intro y h1 h2; exact absurd h1 (by omega)
          | succ d ih2 =>
            intro y h1 h2 H locs ls Y hl
            refine lv_iload_n hx hb dX1_allCharged_19 rfl (lv_at hl 3 rfl) ?_
            refine lv_bipush (v := 10) hx hb dX1_allCharged_20 (by decide) ?_
            refine lv_icmp_ge (tgt := 40) hx hb dX1_allCharged_22 (by decide) (fun c22 => ?_) (fun c22 => ?_)
            · have c22 : 10 ≤ y := (nI_leI (a := 10) (b := y) (by omega) (by omega)).mp c22
              have hk9 : y = 10 := by omega
              subst hk9
              refine lv_iinc (v := nI (k + 1)) (lv' := [(2, .int (nI (k + 1))), (0, .ref (sA S (100 * (cx + 1)))), (1, .int (rIn (rAcc (rCharge S yl) 10 k) (rCharge S yl k) 10)), (3, .int (nI 10))]) hx hb dX1_allCharged_40 hl (k := 2) rfl (nI_1 k) (by decide) rfl (fun ls hl => ?_)
              refine lv_goto (tgt := 4) hx hb dX1_allCharged_43 (by decide) ?_
              exact ih (k + 1) (by omega) (by omega) _ _ _ Y (lv_sub hl [1, 2, 0] rfl)
            · have c22 : ¬ 10 ≤ y := fun z9 => c22 ((nI_leI (a := 10) (b := y) (by omega) (by omega)).mpr z9)
              refine lv_iload_n hx hb dX1_allCharged_25 rfl (lv_at hl 1 rfl) ?_
              refine lv_aload_n hx hb dX1_allCharged_26 rfl (lv_at hl 0 rfl) ?_
              refine lv_iload_n hx hb dX1_allCharged_27 rfl (lv_at hl 2 rfl) ?_
              refine lv_iload_n hx hb dX1_allCharged_28 rfl (lv_at hl 3 rfl) ?_
              refine h_callVr (rest := [.int (rIn (rAcc (rCharge S yl) 10 k) (rCharge S yl k) y)]) X Y (c_chargedIn l G M S hS hG1 cx am be yl lo hV k y (by omega) (by omega)) rfl rfl gw_X1_95 dsc_X1_chargedIn ho rfl rfl rfl rfl hl.1 (Nat.le_of_ble_eq_true rfl) ⟨Nat.le_of_ble_eq_true rfl, Nat.le_of_ble_eq_true rfl⟩ ⟨Nat.le_of_ble_eq_true rfl, Nat.le_of_ble_eq_true rfl⟩ dX1_allCharged_29 (fun H locs Y => ?_)
              refine lv_iadd hx hb dX1_allCharged_32 ?_
              refine lv_istore_n (lv' := [(1, .int ((rIn (rAcc (rCharge S yl) 10 k) (rCharge S yl k) y) + (rCharge S yl k y))), (0, .ref (sA S (100 * (cx + 1)))), (2, .int (nI k)), (3, .int (nI y))]) hx hb dX1_allCharged_33 rfl hl (by decide) rfl (fun ls hl => ?_)
              refine lv_iinc (v := nI (y + 1)) (lv' := [(3, .int (nI (y + 1))), (1, .int ((rIn (rAcc (rCharge S yl) 10 k) (rCharge S yl k) y) + (rCharge S yl k y))), (0, .ref (sA S (100 * (cx + 1)))), (2, .int (nI k))]) hx hb dX1_allCharged_34 hl (k := 3) rfl (nI_1 y) (by decide) rfl (fun ls hl => ?_)
              refine lv_goto (tgt := 19) hx hb dX1_allCharged_37 (by decide) ?_
              exact ih2 (y + 1) (by omega) (by omega) _ _ _ Y (lv_sub hl [2, 1, 3, 0] rfl)
        exact loop2 (10 + 1) 0 (by omega) (by omega) _ _ _ Y (lv_sub hl [1, 2, 3, 0] rfl)
  exact loop ((sN S) + 1) 0 (by omega) (by omega) _ _ _ Y (lv_sub hl [2, 1, 0] rfl)
theorem dX1_borneClaims_0 : decode cX1_borneClaims 0 = .ok (.iconst 0, 1) := by decide +kernel
theorem dX1_borneClaims_1 : decode cX1_borneClaims 1 = .ok (.istore_n 3, 1) := by decide +kernel
theorem dX1_borneClaims_2 : decode cX1_borneClaims 2 = .ok (.iconst 0, 1) := by decide +kernel
theorem dX1_borneClaims_3 : decode cX1_borneClaims 3 = .ok (.istore 4, 2) := by decide +kernel
theorem dX1_borneClaims_5 : decode cX1_borneClaims 5 = .ok (.iload 4, 2) := by decide +kernel
theorem dX1_borneClaims_7 : decode cX1_borneClaims 7 = .ok (.aload_n 0, 1) := by decide +kernel
theorem dX1_borneClaims_8 : decode cX1_borneClaims 8 = .ok (.getfield 30, 3) := by decide +kernel
theorem dX1_borneClaims_11 : decode cX1_borneClaims 11 = .ok (.invokeinterface 33 1, 5) := by decide +kernel
theorem dX1_borneClaims_16 : decode cX1_borneClaims 16 = .ok (.if_icmp .ge 45, 3) := by decide +kernel
theorem dX1_borneClaims_19 : decode cX1_borneClaims 19 = .ok (.aload_n 0, 1) := by decide +kernel
theorem dX1_borneClaims_20 : decode cX1_borneClaims 20 = .ok (.getfield 30, 3) := by decide +kernel
theorem dX1_borneClaims_23 : decode cX1_borneClaims 23 = .ok (.iload 4, 2) := by decide +kernel
theorem dX1_borneClaims_25 : decode cX1_borneClaims 25 = .ok (.invokeinterface 43 2, 5) := by decide +kernel
theorem dX1_borneClaims_30 : decode cX1_borneClaims 30 = .ok (.checkcast 47, 3) := by decide +kernel
theorem dX1_borneClaims_33 : decode cX1_borneClaims 33 = .ok (.getfield 49, 3) := by decide +kernel
theorem dX1_borneClaims_36 : decode cX1_borneClaims 36 = .ok (.iload_n 2, 1) := by decide +kernel
theorem dX1_borneClaims_37 : decode cX1_borneClaims 37 = .ok (.if_icmp .ne 18, 3) := by decide +kernel
theorem dX1_borneClaims_40 : decode cX1_borneClaims 40 = .ok (.aload_n 0, 1) := by decide +kernel
theorem dX1_borneClaims_41 : decode cX1_borneClaims 41 = .ok (.getfield 17, 3) := by decide +kernel
theorem dX1_borneClaims_44 : decode cX1_borneClaims 44 = .ok (.iload 4, 2) := by decide +kernel
theorem dX1_borneClaims_46 : decode cX1_borneClaims 46 = .ok (.aaload, 1) := by decide +kernel
theorem dX1_borneClaims_47 : decode cX1_borneClaims 47 = .ok (.iload_n 1, 1) := by decide +kernel
theorem dX1_borneClaims_48 : decode cX1_borneClaims 48 = .ok (.iaload, 1) := by decide +kernel
theorem dX1_borneClaims_49 : decode cX1_borneClaims 49 = .ok (.ifCond .le 6, 3) := by decide +kernel
theorem dX1_borneClaims_52 : decode cX1_borneClaims 52 = .ok (.iinc 3 1, 3) := by decide +kernel
theorem dX1_borneClaims_55 : decode cX1_borneClaims 55 = .ok (.iinc 4 1, 3) := by decide +kernel
theorem dX1_borneClaims_58 : decode cX1_borneClaims 58 = .ok (.goto (-53), 3) := by decide +kernel
theorem dX1_borneClaims_61 : decode cX1_borneClaims 61 = .ok (.iload_n 3, 1) := by decide +kernel
theorem dX1_borneClaims_62 : decode cX1_borneClaims 62 = .ok (.ireturn, 1) := by decide +kernel
set_option maxHeartbeats 400000 in
set_option maxRecDepth 100000 in
theorem c_borneClaims (l : Launch) (G : hG) (M : hM) (S : hSy) (hS : SyV G M S) (hG1 : SyG S) (cx : Nat) (am : Nat → Int32) (be yl : Nat → Nat → Int32) (lo : Nat → Int32) (hV : CesV G M S cx am be yl lo) (k y : Nat) (hk : k < sN S) (hy : y < 10) : hCT l G yX1_borneClaims cX1_borneClaims 5 (Option.some FieldType.int) (hRm 4 0 0) M [.ref (sA S (100 * (cx + 1))), .int (nI k), .int (nI y)] (hRd M (.int (nI (rCount S be k y (sM S))))) := by
  refine hCT.of (own := RX1) (nm := "borneClaims") (by decide) rfl rfl (Nat.le_of_ble_eq_true rfl) ?_
  intro p e s m args below meth c ls X Y hl
  have hx := X.1
  have hb := X.2.1
  have hl : lv_has ls 5 [(0, .ref (sA S (100 * (cx + 1)))), (1, .int (nI k)), (2, .int (nI y))] := hl
  obtain ⟨hN8, hM40, hLG, hCY⟩ := id hG1
  obtain ⟨hl13, he14, hl15, he16, hLa, hCl⟩ := id hS
  obtain ⟨mc13, hlo13⟩ := id hl13
  obtain ⟨mc15, hlo15⟩ := id hl15
  obtain ⟨ho, ham, ⟨fb, hfb, hbo⟩, hbr, ⟨fy, hfy, hyo⟩, hyr, hlo⟩ := id hV
  refine lv_iconst (v := 0) hx hb dX1_borneClaims_0 (by decide) ?_
  refine lv_istore_n (lv' := [(3, .int 0), (0, .ref (sA S (100 * (cx + 1)))), (1, .int (nI k)), (2, .int (nI y))]) hx hb dX1_borneClaims_1 rfl hl (by decide) rfl (fun ls hl => ?_)
  refine lv_iconst (v := 0) hx hb dX1_borneClaims_2 (by decide) ?_
  refine lv_istore (lv' := [(4, .int 0), (3, .int 0), (0, .ref (sA S (100 * (cx + 1)))), (1, .int (nI k)), (2, .int (nI y))]) hx hb dX1_borneClaims_3 hl (by decide) rfl (fun ls hl => ?_)
  have loop : ∀ (d i : Nat), i + d = (sM S) + 1 → i ≤ (sM S) → ∀ (H : Heap) (locs : List Loc) (ls : Array Slot), hHS G M s H locs → lv_has ls 5 [(0, .ref (sA S (100 * (cx + 1)))), (1, .int (nI k)), (2, .int (nI y)), (3, .int (nI (rCount S be k y i))), (4, .int (nI i))] → W p l e (hRm 4 0 0) s m args below meth c H locs 0 0 (MQ below (hQ G (hRd M (.int (nI (rCount S be k y (sM S)))))) args s 0 0 (hA G)) (F0 m 5 ls []) := by
    intro d
    induction d with
    | zero => intro i h1 h2; exact absurd h1 (by omega)
    | succ d ih =>
      intro i h1 h2 H locs ls Y hl
      refine lv_iload hx hb dX1_borneClaims_5 (lv_at hl 4 rfl) ?_
      refine lv_aload_n hx hb dX1_borneClaims_7 rfl (lv_at hl 0 rfl) ?_
      refine h_get X Y (k := 5) (v := .ref (sA S 15)) ho rfl hin_X1 (by decide) kfl_X1_30 rfl dX1_borneClaims_8 ?_
      refine h_callFr (rest := [.int (nI i)]) X Y (c_size l G M (sA S 15) 15 (sA S 16) (sM S) hl15) rfl rfl (hFw_Jx4a65c_size_8abf5 X) gw_X1_33 dsi_Jx4a65c_size_8abf5 hlo15 rfl rfl rfl rfl hl.1 (Nat.le_of_ble_eq_true rfl) ⟨Nat.le_of_ble_eq_true rfl, Nat.le_of_ble_eq_true rfl⟩ ⟨Nat.le_of_ble_eq_true rfl, Nat.le_of_ble_eq_true rfl⟩ dX1_borneClaims_11 (fun H locs Y => ?_)
      refine lv_icmp_ge (tgt := 61) hx hb dX1_borneClaims_16 (by decide) (fun c16 => ?_) (fun c16 => ?_)
      · have c16 : (sM S) ≤ i := (nI_leI (a := (sM S)) (b := i) (by omega) (by omega)).mp c16
        have hk9 : i = (sM S) := by omega
        subst hk9
        refine lv_iload_n hx hb dX1_borneClaims_61 rfl (lv_at hl 3 rfl) ?_
        exact h_iret X Y ⟨rfl, rfl⟩ (Nat.le_refl _) (Nat.le_refl _) dX1_borneClaims_62
      · have c16 : ¬ (sM S) ≤ i := fun z9 => c16 ((nI_leI (a := (sM S)) (b := i) (by omega) (by omega)).mpr z9)
        have hcy := hCY i (by omega)
        have hrc := rCount_le S be k y i
        refine lv_aload_n hx hb dX1_borneClaims_19 rfl (lv_at hl 0 rfl) ?_
        refine h_get X Y (k := 5) (v := .ref (sA S 15)) ho rfl hin_X1 (by decide) kfl_X1_30 rfl dX1_borneClaims_20 ?_
        refine lv_iload hx hb dX1_borneClaims_23 (lv_at hl 4 rfl) ?_
        refine h_callFr (rest := []) X Y (c_get l G M (sA S 15) 15 (sA S 16) 16 (sM S) i (fun i => sA S (1000 + 10 * i)) hl15 (he16 (by omega)) (by omega)) rfl rfl (hFw_Jx4a65c_get_915e3 X) gw_X1_43 dsi_Jx4a65c_get_915e3 hlo15 rfl rfl rfl rfl hl.1 (Nat.le_of_ble_eq_true rfl) ⟨Nat.le_of_ble_eq_true rfl, Nat.le_of_ble_eq_true rfl⟩ ⟨Nat.le_of_ble_eq_true rfl, Nat.le_of_ble_eq_true rfl⟩ dX1_borneClaims_25 (fun H locs Y => ?_)
        refine h_cast X Y (hCl i (by omega)).1 rfl rfl kcl_X1_47 dX1_borneClaims_30 ?_
        refine h_get X Y (k := 0) (v := .int (nI (clY (sC S i)))) (hCl i (by omega)).1 rfl hin_X3 (by decide) kfl_X1_49 rfl dX1_borneClaims_33 ?_
        refine lv_iload_n hx hb dX1_borneClaims_36 rfl (lv_at hl 2 rfl) ?_
        refine lv_icmp_ne (tgt := 55) hx hb dX1_borneClaims_37 (by decide) (fun c37 => ?_) (fun c37 => ?_)
        · have c37 : ¬ (clY (sC S i)) = y := fun z9 => c37 ((nI_eq (a := (clY (sC S i))) (b := y) (by omega) (by omega)).mpr z9)
          have e1 : rCount S be k y (i + 1) = rCount S be k y i := if_neg (fun z9 => c37 z9.1)
          rw [← e1] at hl
          refine lv_iinc (v := nI (i + 1)) (lv' := [(4, .int (nI (i + 1))), (0, .ref (sA S (100 * (cx + 1)))), (1, .int (nI k)), (2, .int (nI y)), (3, .int (nI (rCount S be k y (i + 1))))]) hx hb dX1_borneClaims_55 hl (k := 4) rfl (nI_1 i) (by decide) rfl (fun ls hl => ?_)
          refine lv_goto (tgt := 5) hx hb dX1_borneClaims_58 (by decide) ?_
          exact ih (i + 1) (by omega) (by omega) _ _ _ Y (lv_sub hl [1, 2, 3, 4, 0] rfl)
        · have c37 : (clY (sC S i)) = y := (nI_eq (a := (clY (sC S i))) (b := y) (by omega) (by omega)).mp c37
          refine lv_aload_n hx hb dX1_borneClaims_40 rfl (lv_at hl 0 rfl) ?_
          refine h_get X Y (k := 1) (v := .ref (sA S (100 * (cx + 1) + 2))) ho rfl hin_X1 (by decide) kfl_X1_17 rfl dX1_borneClaims_41 ?_
          refine lv_iload hx hb dX1_borneClaims_44 (lv_at hl 4 rfl) ?_
          refine h_aaldI X Y (i := i) hbo (by omega) (by decide) dX1_borneClaims_46 ?_
          refine h_rf (hfb i (by omega)) ?_
          refine lv_iload_n hx hb dX1_borneClaims_47 rfl (lv_at hl 1 rfl) ?_
          refine h_iald X Y (i := k) (hbr i (by omega)) (by omega) (by decide) dX1_borneClaims_48 ?_
          refine lv_if_le (tgt := 55) hx hb dX1_borneClaims_49 (by decide) (fun c49 => ?_) (fun c49 => ?_)
          · have c49 : ¬ (0 : Int32) < be i k := fb_le c49
            have e1 : rCount S be k y (i + 1) = rCount S be k y i := if_neg (fun z9 => c49 z9.2)
            rw [← e1] at hl
            refine lv_iinc (v := nI (i + 1)) (lv' := [(4, .int (nI (i + 1))), (0, .ref (sA S (100 * (cx + 1)))), (1, .int (nI k)), (2, .int (nI y)), (3, .int (nI (rCount S be k y (i + 1))))]) hx hb dX1_borneClaims_55 hl (k := 4) rfl (nI_1 i) (by decide) rfl (fun ls hl => ?_)
            refine lv_goto (tgt := 5) hx hb dX1_borneClaims_58 (by decide) ?_
            exact ih (i + 1) (by omega) (by omega) _ _ _ Y (lv_sub hl [1, 2, 3, 4, 0] rfl)
          · have c49 : (0 : Int32) < be i k := fb_nle c49
            refine lv_iinc (v := nI ((rCount S be k y i) + 1)) (lv' := [(3, .int (nI ((rCount S be k y i) + 1))), (0, .ref (sA S (100 * (cx + 1)))), (1, .int (nI k)), (2, .int (nI y)), (4, .int (nI i))]) hx hb dX1_borneClaims_52 hl (k := 3) rfl (nI_1 (rCount S be k y i)) (by decide) rfl (fun ls hl => ?_)
            have e1 : rCount S be k y (i + 1) = rCount S be k y i + 1 := if_pos ⟨c37, c49⟩
            rw [← e1] at hl
            refine lv_iinc (v := nI (i + 1)) (lv' := [(4, .int (nI (i + 1))), (3, .int (nI (rCount S be k y (i + 1)))), (0, .ref (sA S (100 * (cx + 1)))), (1, .int (nI k)), (2, .int (nI y))]) hx hb dX1_borneClaims_55 hl (k := 4) rfl (nI_1 i) (by decide) rfl (fun ls hl => ?_)
            refine lv_goto (tgt := 5) hx hb dX1_borneClaims_58 (by decide) ?_
            exact ih (i + 1) (by omega) (by omega) _ _ _ Y (lv_sub hl [2, 3, 4, 1, 0] rfl)
  exact loop ((sM S) + 1) 0 (by omega) (by omega) _ _ _ Y (lv_sub hl [2, 3, 4, 1, 0] rfl)
end
section
-- WHAT STAYS WHEN SCRATCH ROWS ARE WRITTEN
def hS0 (u : Nat) : Prop := 2000 ≤ u ∧ u < 3000 ∧ u % 10 = 9
def hScr (u : Nat) : Prop := hS0 u ∨ (100 ≤ u ∧ u < 600)
def hS1 (cx u : Nat) : Prop := hS0 u ∨ (100 * (cx + 1) ≤ u ∧ u < 100 * (cx + 1) + 100)
theorem hSim.obj {G : hG} {S : Nat → Prop} {M M' : hM} (h : hSim G S M M') {a t ci : Nat} {fs : List Value} (he : M a = some (t, .inr (ci, fs))) (hne : ci ≠ 11 := by decide) : M' a = some (t, .inr (ci, fs)) := by
  rcases h a with h1 | ⟨t', n, f, f', h1, h2, -⟩ | ⟨t', x, v, v', h1, h2, -⟩
  · rw [h1]; exact he
  · rw [he] at h2; cases h2
  · rw [he] at h2; cases h2; exact absurd rfl hne
theorem hSim.oth {G : hG} {S : Nat → Prop} {M M' : hM} (h : hSim G S M M') {a t n : Nat} {cA : ClassId} {z : (Nat → Int64) ⊕ (Nat → UInt32) ⊕ (Nat → UInt64) ⊕ (Nat → Option Nat)} (he : M a = some (t, .inl (cA, n, .inr z))) : M' a = some (t, .inl (cA, n, .inr z)) := by
  rcases h a with h1 | ⟨t', n', f, f', h1, h2, -⟩ | ⟨t', x, v, v', h1, h2, -⟩
  · rw [h1]; exact he
  · rw [he] at h2; cases h2
  · rw [he] at h2; cases h2
theorem LsO.sim {G : hG} {S : Nat → Prop} {M M' : hM} {a t e n : Nat} (h : hSim G S M M') (hO : LsO M a t e n) : LsO M' a t e n := by
  obtain ⟨mc, ho⟩ := hO
  exact ⟨mc, h.obj ho⟩
theorem LsE.sim {G : hG} {S : Nat → Prop} {M M' : hM} {e t n : Nat} {g : Nat → Nat} (h : hSim G S M M') (hE : LsE G M e t n g) : LsE G M' e t n g := by
  obtain ⟨cap, f, h1, h2, h3, h4⟩ := hE
  exact ⟨cap, f, h1, h2, h3, h.oth h4⟩
theorem FoV.sim {G : hG} {S : Nat → Prop} {M M' : hM} {a t : Nat} {F : hFo} (h : hSim G S M M') (hs : ¬ S (t + 2)) (hF : FoV G M a t F) : FoV G M' a t F := by
  obtain ⟨h1, ⟨f, h2, h3⟩, h4, s0, h5⟩ := hF
  obtain ⟨s1, h6⟩ := h.row h5
  exact ⟨h.obj h1, ⟨f, h2, h.oth h3⟩, h.keep h4 hs, s1, h6⟩
theorem LyV.sim {G : hG} {S : Nat → Prop} {M M' : hM} {a t : Nat} {L : hLy} (h : hSim G S M M') (hs : ¬ S (t + 1) ∧ ¬ S (t + 2) ∧ ¬ S (t + 3) ∧ ¬ S (t + 4)) (hL : LyV G M a t L) : LyV G M' a t L :=
  ⟨h.obj hL.1, h.keep hL.2.1 hs.1, h.keep hL.2.2.1 hs.2.1, h.keep hL.2.2.2.1 hs.2.2.1, h.keep hL.2.2.2.2.1 hs.2.2.2, h.oth hL.2.2.2.2.2⟩
theorem ClV.sim {G : hG} {S : Nat → Prop} {M M' : hM} {a t : Nat} {C : hCl} (h : hSim G S M M') (hs : ¬ S (t + 1) ∧ ¬ S (t + 2)) (hC : ClV G M a t C) : ClV G M' a t C :=
  ⟨h.obj hC.1, h.keep hC.2.1 hs.1, h.keep hC.2.2 hs.2⟩
theorem LaV.sim {G : hG} {S : Nat → Prop} {M M' : hM} {a k : Nat} {L : hLy} {F : Nat → hFo} (h : hSim G S M M') (hs : ∀ u, S u → hScr u) (hL : LaV G M a (2000 + 100 * k) L F) : LaV G M' a (2000 + 100 * k) L F := by
  have n : ∀ j, j % 10 ≠ 9 → ¬ S (2000 + 100 * k + j) := fun j hj q => by
    have := hs _ q
    unfold hScr hS0 at this
    omega
  exact ⟨hL.1.sim h ⟨n 1 (by decide), n 2 (by decide), n 3 (by decide), n 4 (by decide)⟩, hL.2.1.sim h (n 12 (by decide)), hL.2.2.1.sim h (n 22 (by decide)), fun q hq => (hL.2.2.2 q hq).sim h (n 52 (by decide))⟩
theorem SyV.sim {G : hG} {S : Nat → Prop} {M M' : hM} {Sy : hSy} (h : hSim G S M M') (hs : ∀ u, S u → hScr u) (hV : SyV G M Sy) : SyV G M' Sy := by
  refine ⟨hV.1.sim h, fun q => (hV.2.1 q).sim h, hV.2.2.1.sim h, fun q => (hV.2.2.2.1 q).sim h, fun k hk => (hV.2.2.2.2.1 k hk).sim h hs, fun i hi => (hV.2.2.2.2.2 i hi).sim h ⟨fun q => ?_, fun q => ?_⟩⟩ <;>
  · have := hs _ q
    unfold hScr hS0 at this
    omega
theorem CesV.sim {G : hG} {S : Nat → Prop} {M M' : hM} {Sy : hSy} {cx : Nat} {am : Nat → Int32} {be yl : Nat → Nat → Int32} {lo : Nat → Int32} (h : hSim G S M M') (hs : ∀ u, S u → ¬ (100 * (cx + 1) ≤ u ∧ u < 100 * (cx + 1) + 100)) (hV : CesV G M Sy cx am be yl lo) : CesV G M' Sy cx am be yl lo := by
  obtain ⟨ho, ham, ⟨fb, hfb, hbo⟩, hbr, ⟨fy, hfy, hyo⟩, hyr, hlo⟩ := hV
  refine ⟨h.obj ho, h.keep ham (fun q => hs _ q (by omega)), ⟨fb, hfb, h.oth hbo⟩, fun i hi => h.keep (hbr i hi) (fun q => hs _ q (by omega)), ⟨fy, hfy, h.oth hyo⟩, fun k hk => h.keep (hyr k hk) (fun q => hs _ q (by omega)), h.keep hlo (fun q => hs _ q (by omega))⟩
theorem hS0_scr : ∀ u, hS0 u → hScr u := fun u h => Or.inl h
theorem hS1_scr {cx : Nat} (hc : cx < 3) : ∀ u, hS1 cx u → hScr u := fun u h => by
  rcases h with h | h
  · exact Or.inl h
  · exact Or.inr (by omega)
theorem hS0_ces {cx : Nat} (hc : cx < 3) : ∀ u, hS0 u → ¬ (100 * (cx + 1) ≤ u ∧ u < 100 * (cx + 1) + 100) := fun u h => by unfold hS0 at h; omega
theorem hS1_ces {cx cy : Nat} (hc : cy < 3) (hne : cx ≠ cy) : ∀ u, hS1 cx u → ¬ (100 * (cy + 1) ≤ u ∧ u < 100 * (cy + 1) + 100) := fun u h => by
  unfold hS1 hS0 at h
  omega
theorem hS0_1 {cx : Nat} : ∀ u, hS0 u → hS1 cx u := fun u h => Or.inl h
section CESPUT
variable {G : hG} {M : hM} {Sy : hSy} {cx : Nat} {am : Nat → Int32} {be yl : Nat → Nat → Int32} {lo : Nat → Int32}
theorem CesV.putLo (hc : cx < 3) (lo' : Nat → Int32) (hV : CesV G M Sy cx am be yl lo) (hS : SyV G M Sy) : CesV G (hup M (sA Sy (100 * (cx + 1) + 4)) (100 * (cx + 1) + 4, .inl (hT G 0, 8, .inl lo'))) Sy cx am be yl lo' ∧ SyV G (hup M (sA Sy (100 * (cx + 1) + 4)) (100 * (cx + 1) + 4, .inl (hT G 0, 8, .inl lo'))) Sy ∧ hSim G (hS1 cx) M (hup M (sA Sy (100 * (cx + 1) + 4)) (100 * (cx + 1) + 4, .inl (hT G 0, 8, .inl lo'))) := by
  obtain ⟨ho, ham, ⟨fb, hfb, hbo⟩, hbr, ⟨fy, hfy, hyo⟩, hyr, hlo⟩ := hV
  have hq : hSim G (hS1 cx) M (hup M (sA Sy (100 * (cx + 1) + 4)) (100 * (cx + 1) + 4, .inl (hT G 0, 8, .inl lo'))) := hSim.put hlo (Or.inr (by omega))
  exact ⟨⟨hup_tag ho hlo (by omega), hup_tag ham hlo (by omega), ⟨fb, hfb, hup_tag hbo hlo (by omega)⟩, fun i hi => hup_tag (hbr i hi) hlo (by omega), ⟨fy, hfy, hup_tag hyo hlo (by omega)⟩, fun k hk => hup_tag (hyr k hk) hlo (by omega), hup_eq⟩, hS.sim hq (hS1_scr hc), hq⟩
theorem CesV.putAm (hc : cx < 3) (am' : Nat → Int32) (hV : CesV G M Sy cx am be yl lo) (hS : SyV G M Sy) : CesV G (hup M (sA Sy (100 * (cx + 1) + 1)) (100 * (cx + 1) + 1, .inl (hT G 0, 40, .inl am'))) Sy cx am' be yl lo ∧ SyV G (hup M (sA Sy (100 * (cx + 1) + 1)) (100 * (cx + 1) + 1, .inl (hT G 0, 40, .inl am'))) Sy ∧ hSim G (hS1 cx) M (hup M (sA Sy (100 * (cx + 1) + 1)) (100 * (cx + 1) + 1, .inl (hT G 0, 40, .inl am'))) := by
  obtain ⟨ho, ham, ⟨fb, hfb, hbo⟩, hbr, ⟨fy, hfy, hyo⟩, hyr, hlo⟩ := hV
  have hq : hSim G (hS1 cx) M (hup M (sA Sy (100 * (cx + 1) + 1)) (100 * (cx + 1) + 1, .inl (hT G 0, 40, .inl am'))) := hSim.put ham (Or.inr (by omega))
  exact ⟨⟨hup_tag ho ham (by omega), hup_eq, ⟨fb, hfb, hup_tag hbo ham (by omega)⟩, fun i hi => hup_tag (hbr i hi) ham (by omega), ⟨fy, hfy, hup_tag hyo ham (by omega)⟩, fun k hk => hup_tag (hyr k hk) ham (by omega), hup_tag hlo ham (by omega)⟩, hS.sim hq (hS1_scr hc), hq⟩
theorem CesV.putBe (hc : cx < 3) (i : Nat) (hi : i < 40) (b : Nat → Int32) (hV : CesV G M Sy cx am be yl lo) (hS : SyV G M Sy) : CesV G (hup M (sA Sy (100 * (cx + 1) + 10 + i)) (100 * (cx + 1) + 10 + i, .inl (hT G 0, 8, .inl b))) Sy cx am (va_up be i b) yl lo ∧ SyV G (hup M (sA Sy (100 * (cx + 1) + 10 + i)) (100 * (cx + 1) + 10 + i, .inl (hT G 0, 8, .inl b))) Sy ∧ hSim G (hS1 cx) M (hup M (sA Sy (100 * (cx + 1) + 10 + i)) (100 * (cx + 1) + 10 + i, .inl (hT G 0, 8, .inl b))) := by
  obtain ⟨ho, ham, ⟨fb, hfb, hbo⟩, hbr, ⟨fy, hfy, hyo⟩, hyr, hlo⟩ := hV
  have hq : hSim G (hS1 cx) M (hup M (sA Sy (100 * (cx + 1) + 10 + i)) (100 * (cx + 1) + 10 + i, .inl (hT G 0, 8, .inl b))) := hSim.put (hbr i hi) (Or.inr (by omega))
  refine ⟨⟨hup_tag ho (hbr i hi) (by omega), hup_tag ham (hbr i hi) (by omega), ⟨fb, hfb, hup_tag hbo (hbr i hi) (by omega)⟩, fun j hj => ?_, ⟨fy, hfy, hup_tag hyo (hbr i hi) (by omega)⟩, fun k hk => hup_tag (hyr k hk) (hbr i hi) (by omega), hup_tag hlo (hbr i hi) (by omega)⟩, hS.sim hq (hS1_scr hc), hq⟩
  by_cases e : j = i
  · subst e; rw [va_up_self]; exact hup_eq
  · rw [va_up_ne _ _ e]; exact hup_tag (hbr j hj) (hbr i hi) (by omega)
theorem CesV.putYl (hc : cx < 3) (k : Nat) (hk : k < 8) (b : Nat → Int32) (hV : CesV G M Sy cx am be yl lo) (hS : SyV G M Sy) : CesV G (hup M (sA Sy (100 * (cx + 1) + 60 + k)) (100 * (cx + 1) + 60 + k, .inl (hT G 0, 10, .inl b))) Sy cx am be (va_up yl k b) lo ∧ SyV G (hup M (sA Sy (100 * (cx + 1) + 60 + k)) (100 * (cx + 1) + 60 + k, .inl (hT G 0, 10, .inl b))) Sy ∧ hSim G (hS1 cx) M (hup M (sA Sy (100 * (cx + 1) + 60 + k)) (100 * (cx + 1) + 60 + k, .inl (hT G 0, 10, .inl b))) := by
  obtain ⟨ho, ham, ⟨fb, hfb, hbo⟩, hbr, ⟨fy, hfy, hyo⟩, hyr, hlo⟩ := hV
  have hq : hSim G (hS1 cx) M (hup M (sA Sy (100 * (cx + 1) + 60 + k)) (100 * (cx + 1) + 60 + k, .inl (hT G 0, 10, .inl b))) := hSim.put (hyr k hk) (Or.inr (by omega))
  refine ⟨⟨hup_tag ho (hyr k hk) (by omega), hup_tag ham (hyr k hk) (by omega), ⟨fb, hfb, hup_tag hbo (hyr k hk) (by omega)⟩, fun j hj => hup_tag (hbr j hj) (hyr k hk) (by omega), ⟨fy, hfy, hup_tag hyo (hyr k hk) (by omega)⟩, fun j hj => ?_, hup_tag hlo (hyr k hk) (by omega)⟩, hS.sim hq (hS1_scr hc), hq⟩
  by_cases e : j = k
  · subst e; rw [va_up_self]; exact hup_eq
  · rw [va_up_ne _ _ e]; exact hup_tag (hyr j hj) (hyr k hk) (by omega)
end CESPUT
/-- what of the subject is the loss of a layer -/
def hLoss (L : hLy) (F : Nat → hFo) (line amount subject : Int32) : Int32 := if lyR L 2 ≠ none ∧ fv (F 4) line amount = 0 then 0 else sMin (sMax (subject - sMax (fv (F 1) line amount) 0) 0) (sMax (fv (F 0) line amount) 0)

/-- the subject of the layer k, of the layers ahead of e -/
def pSubj (S : hSy) (k : Nat) (a : Int32) (b : Nat → Int32) : Nat → Int32
  | 0 => a
  | j + 1 => if lyNet (sL S k) j then pSubj S k a b j - lyShare (sL S j) (b j) else pSubj S k a b j
theorem pSubj_congr (S : hSy) (k : Nat) (a : Int32) {b b' : Nat → Int32} : ∀ e, (∀ j, j < e → b j = b' j) → pSubj S k a b e = pSubj S k a b' e
  | 0, _ => rfl
  | e + 1, h => by
    unfold pSubj
    rw [pSubj_congr S k a e (fun j hj => h j (by omega)), h e (by omega)]
def pLoss (S : hSy) (mu : Int32) (k : Nat) (line a : Int32) (b : Nat → Int32) : Int32 := if nI k = mu then 0 else hLoss (sL S k) (sF S k) line a (sMax (pSubj S k a b k) 0)
/-- what the first layers bear of a claim: of the year y, over the losses yl of its year -/
def pB (S : hSy) (mu : Int32) (y : Nat) (line a : Int32) (yl : Nat → Int32) : Nat → (Nat → Int32)
  | 0 => fun _ => 0
  | k + 1 => va_up (pB S mu y line a yl k) k (lyBorne (sL S k) y (yl k + pLoss S mu k line a (pB S mu y line a yl k)) - lyBorne (sL S k) y (yl k))
/-- the losses of the years, of the claims ahead of i -/
def pYl (S : hSy) (mu : Int32) (am : Nat → Int32) : Nat → Nat → Nat → Int32
  | 0, _, _ => 0
  | i + 1, k, y => if y = clY (sC S i) then pYl S mu am i k y + pLoss S mu k (clI (sC S i) 0) (am i) (pB S mu (clY (sC S i)) (clI (sC S i) 0) (am i) (fun k => pYl S mu am i k (clY (sC S i))) k) else pYl S mu am i k y
/-- what the layers bear of the claim i -/
def pBe (S : hSy) (mu : Int32) (am : Nat → Int32) (i : Nat) : Nat → Int32 := pB S mu (clY (sC S i)) (clI (sC S i) 0) (am i) (fun k => pYl S mu am i k (clY (sC S i))) (sN S)
theorem gw_X5_85 : GoodIn hGW (wsV RX5 85 RX4 yX4_value (Cond.code yX4_value cX4_value 7 (Option.some FieldType.int) :: hGW)) := hgi4 kml_X5_85 kin_X4_value kse_X4_X4_value_X4_value kini_X4 kco_X4_value
theorem dsc_X4_value : yX4_value.cls = RX4 ∧ yX4_value.cls ≠ "java/lang/invoke/MethodHandle" ∧ yX4_value.cls ≠ "java/lang/invoke/VarHandle" ∧ (parseMethodDescriptor yX4_value.desc).map (fun d => d.parameters.length) = some 3 := ⟨rfl, by decide +kernel, by decide +kernel, by decide +kernel⟩
theorem dX5_lossOf_0 : decode cX5_lossOf 0 = .ok (.aload_n 0, 1) := by decide +kernel
theorem dX5_lossOf_1 : decode cX5_lossOf 1 = .ok (.getfield 18, 3) := by decide +kernel
theorem dX5_lossOf_4 : decode cX5_lossOf 4 = .ok (.ifnull 24, 3) := by decide +kernel
theorem dX5_lossOf_7 : decode cX5_lossOf 7 = .ok (.aload_n 0, 1) := by decide +kernel
theorem dX5_lossOf_8 : decode cX5_lossOf 8 = .ok (.getfield 18, 3) := by decide +kernel
theorem dX5_lossOf_11 : decode cX5_lossOf 11 = .ok (.aload_n 1, 1) := by decide +kernel
theorem dX5_lossOf_12 : decode cX5_lossOf 12 = .ok (.getfield 77, 3) := by decide +kernel
theorem dX5_lossOf_15 : decode cX5_lossOf 15 = .ok (.aload_n 1, 1) := by decide +kernel
theorem dX5_lossOf_16 : decode cX5_lossOf 16 = .ok (.getfield 82, 3) := by decide +kernel
theorem dX5_lossOf_19 : decode cX5_lossOf 19 = .ok (.iload_n 2, 1) := by decide +kernel
theorem dX5_lossOf_20 : decode cX5_lossOf 20 = .ok (.invokevirtual 85, 3) := by decide +kernel
theorem dX5_lossOf_23 : decode cX5_lossOf 23 = .ok (.ifCond .ne 5, 3) := by decide +kernel
theorem dX5_lossOf_26 : decode cX5_lossOf 26 = .ok (.iconst 0, 1) := by decide +kernel
theorem dX5_lossOf_27 : decode cX5_lossOf 27 = .ok (.ireturn, 1) := by decide +kernel
theorem dX5_lossOf_28 : decode cX5_lossOf 28 = .ok (.iload_n 3, 1) := by decide +kernel
theorem dX5_lossOf_29 : decode cX5_lossOf 29 = .ok (.aload_n 0, 1) := by decide +kernel
theorem dX5_lossOf_30 : decode cX5_lossOf 30 = .ok (.getfield 54, 3) := by decide +kernel
theorem dX5_lossOf_33 : decode cX5_lossOf 33 = .ok (.aload_n 1, 1) := by decide +kernel
theorem dX5_lossOf_34 : decode cX5_lossOf 34 = .ok (.getfield 77, 3) := by decide +kernel
theorem dX5_lossOf_37 : decode cX5_lossOf 37 = .ok (.aload_n 1, 1) := by decide +kernel
theorem dX5_lossOf_38 : decode cX5_lossOf 38 = .ok (.getfield 82, 3) := by decide +kernel
theorem dX5_lossOf_41 : decode cX5_lossOf 41 = .ok (.iload_n 2, 1) := by decide +kernel
theorem dX5_lossOf_42 : decode cX5_lossOf 42 = .ok (.invokevirtual 85, 3) := by decide +kernel
theorem dX5_lossOf_45 : decode cX5_lossOf 45 = .ok (.iconst 0, 1) := by decide +kernel
theorem dX5_lossOf_46 : decode cX5_lossOf 46 = .ok (.invokestatic 89, 3) := by decide +kernel
theorem dX5_lossOf_49 : decode cX5_lossOf 49 = .ok (.isub, 1) := by decide +kernel
theorem dX5_lossOf_50 : decode cX5_lossOf 50 = .ok (.istore 4, 2) := by decide +kernel
theorem dX5_lossOf_52 : decode cX5_lossOf 52 = .ok (.aload_n 0, 1) := by decide +kernel
theorem dX5_lossOf_53 : decode cX5_lossOf 53 = .ok (.getfield 51, 3) := by decide +kernel
theorem dX5_lossOf_56 : decode cX5_lossOf 56 = .ok (.aload_n 1, 1) := by decide +kernel
theorem dX5_lossOf_57 : decode cX5_lossOf 57 = .ok (.getfield 77, 3) := by decide +kernel
theorem dX5_lossOf_60 : decode cX5_lossOf 60 = .ok (.aload_n 1, 1) := by decide +kernel
theorem dX5_lossOf_61 : decode cX5_lossOf 61 = .ok (.getfield 82, 3) := by decide +kernel
theorem dX5_lossOf_64 : decode cX5_lossOf 64 = .ok (.iload_n 2, 1) := by decide +kernel
theorem dX5_lossOf_65 : decode cX5_lossOf 65 = .ok (.invokevirtual 85, 3) := by decide +kernel
theorem dX5_lossOf_68 : decode cX5_lossOf 68 = .ok (.iconst 0, 1) := by decide +kernel
theorem dX5_lossOf_69 : decode cX5_lossOf 69 = .ok (.invokestatic 89, 3) := by decide +kernel
theorem dX5_lossOf_72 : decode cX5_lossOf 72 = .ok (.istore 5, 2) := by decide +kernel
theorem dX5_lossOf_74 : decode cX5_lossOf 74 = .ok (.iload 4, 2) := by decide +kernel
theorem dX5_lossOf_76 : decode cX5_lossOf 76 = .ok (.iconst 0, 1) := by decide +kernel
theorem dX5_lossOf_77 : decode cX5_lossOf 77 = .ok (.invokestatic 89, 3) := by decide +kernel
theorem dX5_lossOf_80 : decode cX5_lossOf 80 = .ok (.iload 5, 2) := by decide +kernel
theorem dX5_lossOf_82 : decode cX5_lossOf 82 = .ok (.invokestatic 93, 3) := by decide +kernel
theorem dX5_lossOf_85 : decode cX5_lossOf 85 = .ok (.ireturn, 1) := by decide +kernel
set_option maxHeartbeats 400000 in
set_option maxRecDepth 100000 in
theorem c_lossOf (l : Launch) (G : hG) (M : hM) (S : hSy) (hS : SyV G M S) (hG1 : SyG S) (k i : Nat) (hk : k < sN S) (hi : i < sM S) (amount subject : Int32) : hCT l G yX5_lossOf cX5_lossOf 6 (Option.some FieldType.int) (hRm 4 0 0) M [.ref (sA S (2000 + 100 * k)), .ref (sA S (1000 + 10 * i)), .int amount, .int subject] (fun v M' => v = some (.int (hLoss (sL S k) (sF S k) (clI (sC S i) 0) amount subject)) ∧ hSim G hS0 M M') := by
  refine hCT.of (own := RX5) (nm := "lossOf") (by decide) rfl rfl (Nat.le_of_ble_eq_true rfl) ?_
  intro p e s m args below meth c ls X Y hl
  have hx := X.1
  have hb := X.2.1
  have hl : lv_has ls 6 [(0, .ref (sA S (2000 + 100 * k))), (1, .ref (sA S (1000 + 10 * i))), (2, .int amount), (3, .int subject)] := hl
  obtain ⟨hN8, hM40, hLG, hCY⟩ := id hG1
  obtain ⟨hl13, he14, hl15, he16, hLa, hCl⟩ := id hS
  obtain ⟨mc13, hlo13⟩ := id hl13
  obtain ⟨mc15, hlo15⟩ := id hl15
  have hs0 : hSim G hS0 M M := hSim.rf
  obtain ⟨g0, g1, g4, -⟩ := hLG k hk
  have hk8 : k < 8 := by omega
  refine lv_aload_n hx hb dX5_lossOf_0 rfl (lv_at hl 0 rfl) ?_
  refine h_get X Y (k := 4) (v := va_rf (lyR (sL S k) 2)) (hLa k hk).1.1 rfl hin_X5 (by decide) kfl_X5_18 rfl dX5_lossOf_1 ?_
  cases hq0 : lyR (sL S k) 2 with
  | none =>
    refine lv_ifnullN (tgt := 28) hx hb dX5_lossOf_4 (by decide) ?_
    refine lv_iload_n hx hb dX5_lossOf_28 rfl (lv_at hl 3 rfl) ?_
    refine lv_aload_n hx hb dX5_lossOf_29 rfl (lv_at hl 0 rfl) ?_
    refine h_get X Y (k := 1) (v := .ref (lyA (sL S k) 1)) (hLa k hk).1.1 rfl hin_X5 (by decide) kfl_X5_54 rfl dX5_lossOf_30 ?_
    refine lv_aload_n hx hb dX5_lossOf_33 rfl (lv_at hl 1 rfl) ?_
    refine h_get X Y (k := 1) (v := .int (clI (sC S i) 0)) (hCl i hi).1 rfl hin_X3 (by decide) kfl_X5_77 rfl dX5_lossOf_34 ?_
    refine lv_aload_n hx hb dX5_lossOf_37 rfl (lv_at hl 1 rfl) ?_
    refine h_get X Y (k := 0) (v := .int (nI (clY (sC S i)))) (hCl i hi).1 rfl hin_X3 (by decide) kfl_X5_82 rfl dX5_lossOf_38 ?_
    refine lv_iload_n hx hb dX5_lossOf_41 rfl (lv_at hl 2 rfl) ?_
    refine h_callV (rest := [.int subject]) X Y (c_value l G M (lyA (sL S k) 1) (2000 + 100 * k + 20) (sF S k 1) (hLa k hk).2.2.1 g1.1 (clI (sC S i) 0) (nI (clY (sC S i))) amount (fv (sF S k 1) (clI (sC S i) 0) amount) (g1.2 _ _)) gw_X5_85 dsc_X4_value (hLa k hk).2.2.1.1 rfl rfl rfl hl.1 rfl (Nat.le_of_ble_eq_true rfl) ⟨Nat.le_of_ble_eq_true rfl, Nat.le_of_ble_eq_true rfl⟩ ⟨Nat.le_of_ble_eq_true rfl, Nat.le_of_ble_eq_true rfl⟩ dX5_lossOf_42 ?_
    rintro _ M1 H locs ⟨rfl, hq⟩ Y
    have hq : hSim G hS0 _ _ := hq.mono (fun u hu => by unfold hS0; omega)
    have hs0 := hs0.tr hq
    have hS := hS.sim hq hS0_scr
    obtain ⟨hl13, he14, hl15, he16, hLa, hCl⟩ := id hS
    obtain ⟨mc13, hlo13⟩ := id hl13
    obtain ⟨mc15, hlo15⟩ := id hl15
    try dsimp only [Option.toList, List.cons_append, List.nil_append]
    refine lv_iconst (v := 0) hx hb dX5_lossOf_45 (by decide) ?_
    refine h_mmax X kml_X5_89 hl.1 (Nat.le_of_ble_eq_true rfl) (Nat.le_of_ble_eq_true rfl) ⟨Nat.le_of_ble_eq_true rfl, Nat.le_of_ble_eq_true rfl⟩ dX5_lossOf_46 ?_
    refine lv_isub hx hb dX5_lossOf_49 ?_
    refine lv_istore (lv' := [(4, .int (subject - (sMax (fv (sF S k 1) (clI (sC S i) 0) amount) 0))), (0, .ref (sA S (2000 + 100 * k))), (1, .ref (sA S (1000 + 10 * i))), (2, .int amount), (3, .int subject)]) hx hb dX5_lossOf_50 hl (by decide) rfl (fun ls hl => ?_)
    refine lv_aload_n hx hb dX5_lossOf_52 rfl (lv_at hl 1 rfl) ?_
    refine h_get X Y (k := 0) (v := .ref (lyA (sL S k) 0)) (hLa k hk).1.1 rfl hin_X5 (by decide) kfl_X5_51 rfl dX5_lossOf_53 ?_
    refine lv_aload_n hx hb dX5_lossOf_56 rfl (lv_at hl 2 rfl) ?_
    refine h_get X Y (k := 1) (v := .int (clI (sC S i) 0)) (hCl i hi).1 rfl hin_X3 (by decide) kfl_X5_77 rfl dX5_lossOf_57 ?_
    refine lv_aload_n hx hb dX5_lossOf_60 rfl (lv_at hl 2 rfl) ?_
    refine h_get X Y (k := 0) (v := .int (nI (clY (sC S i)))) (hCl i hi).1 rfl hin_X3 (by decide) kfl_X5_82 rfl dX5_lossOf_61 ?_
    refine lv_iload_n hx hb dX5_lossOf_64 rfl (lv_at hl 3 rfl) ?_
    refine h_callV (rest := []) X Y (c_value l G M1 (lyA (sL S k) 0) (2000 + 100 * k + 10) (sF S k 0) (hLa k hk).2.1 g0.1 (clI (sC S i) 0) (nI (clY (sC S i))) amount (fv (sF S k 0) (clI (sC S i) 0) amount) (g0.2 _ _)) gw_X5_85 dsc_X4_value (hLa k hk).2.1.1 rfl rfl rfl hl.1 rfl (Nat.le_of_ble_eq_true rfl) ⟨Nat.le_of_ble_eq_true rfl, Nat.le_of_ble_eq_true rfl⟩ ⟨Nat.le_of_ble_eq_true rfl, Nat.le_of_ble_eq_true rfl⟩ dX5_lossOf_65 ?_
    rintro _ M2 H locs ⟨rfl, hq⟩ Y
    have hq : hSim G hS0 _ _ := hq.mono (fun u hu => by unfold hS0; omega)
    have hs0 := hs0.tr hq
    have hS := hS.sim hq hS0_scr
    obtain ⟨hl13, he14, hl15, he16, hLa, hCl⟩ := id hS
    obtain ⟨mc13, hlo13⟩ := id hl13
    obtain ⟨mc15, hlo15⟩ := id hl15
    try dsimp only [Option.toList, List.cons_append, List.nil_append]
    refine lv_iconst (v := 0) hx hb dX5_lossOf_68 (by decide) ?_
    refine h_mmax X kml_X5_89 hl.1 (Nat.le_of_ble_eq_true rfl) (Nat.le_of_ble_eq_true rfl) ⟨Nat.le_of_ble_eq_true rfl, Nat.le_of_ble_eq_true rfl⟩ dX5_lossOf_69 ?_
    refine lv_istore (lv' := [(5, .int (sMax (fv (sF S k 0) (clI (sC S i) 0) amount) 0)), (4, .int (subject - (sMax (fv (sF S k 1) (clI (sC S i) 0) amount) 0))), (0, .ref (sA S (2000 + 100 * k))), (1, .ref (sA S (1000 + 10 * i))), (2, .int amount), (3, .int subject)]) hx hb dX5_lossOf_72 hl (by decide) rfl (fun ls hl => ?_)
    refine lv_iload hx hb dX5_lossOf_74 (lv_at hl 1 rfl) ?_
    refine lv_iconst (v := 0) hx hb dX5_lossOf_76 (by decide) ?_
    refine h_mmax X kml_X5_89 hl.1 (Nat.le_of_ble_eq_true rfl) (Nat.le_of_ble_eq_true rfl) ⟨Nat.le_of_ble_eq_true rfl, Nat.le_of_ble_eq_true rfl⟩ dX5_lossOf_77 ?_
    refine lv_iload hx hb dX5_lossOf_80 (lv_at hl 0 rfl) ?_
    refine h_mmin X kml_X5_93 hl.1 (Nat.le_of_ble_eq_true rfl) (Nat.le_of_ble_eq_true rfl) ⟨Nat.le_of_ble_eq_true rfl, Nat.le_of_ble_eq_true rfl⟩ dX5_lossOf_82 ?_
    exact h_iret X Y ⟨congrArg (fun z => some (Value.int z)) (if_neg (fun z9 => z9.1 hq0)).symm, hs0⟩ (Nat.le_refl _) (Nat.le_refl _) dX5_lossOf_85
  | some q =>
    refine lv_ifnull hx hb dX5_lossOf_4 ?_
    refine lv_aload_n hx hb dX5_lossOf_7 rfl (lv_at hl 0 rfl) ?_
    refine h_get X Y (k := 4) (v := va_rf (lyR (sL S k) 2)) (hLa k hk).1.1 rfl hin_X5 (by decide) kfl_X5_18 rfl dX5_lossOf_8 ?_
    refine h_rf hq0 ?_
    refine lv_aload_n hx hb dX5_lossOf_11 rfl (lv_at hl 1 rfl) ?_
    refine h_get X Y (k := 1) (v := .int (clI (sC S i) 0)) (hCl i hi).1 rfl hin_X3 (by decide) kfl_X5_77 rfl dX5_lossOf_12 ?_
    refine lv_aload_n hx hb dX5_lossOf_15 rfl (lv_at hl 1 rfl) ?_
    refine h_get X Y (k := 0) (v := .int (nI (clY (sC S i)))) (hCl i hi).1 rfl hin_X3 (by decide) kfl_X5_82 rfl dX5_lossOf_16 ?_
    refine lv_iload_n hx hb dX5_lossOf_19 rfl (lv_at hl 2 rfl) ?_
    refine h_callV (rest := []) X Y (c_value l G M q (2000 + 100 * k + 50) (sF S k 4) ((hLa k hk).2.2.2 q hq0) g4.1 (clI (sC S i) 0) (nI (clY (sC S i))) amount (fv (sF S k 4) (clI (sC S i) 0) amount) (g4.2 _ _)) gw_X5_85 dsc_X4_value ((hLa k hk).2.2.2 q hq0).1 rfl rfl rfl hl.1 rfl (Nat.le_of_ble_eq_true rfl) ⟨Nat.le_of_ble_eq_true rfl, Nat.le_of_ble_eq_true rfl⟩ ⟨Nat.le_of_ble_eq_true rfl, Nat.le_of_ble_eq_true rfl⟩ dX5_lossOf_20 ?_
    rintro _ M1 H locs ⟨rfl, hq⟩ Y
    have hq : hSim G hS0 _ _ := hq.mono (fun u hu => by unfold hS0; omega)
    have hs0 := hs0.tr hq
    have hS := hS.sim hq hS0_scr
    obtain ⟨hl13, he14, hl15, he16, hLa, hCl⟩ := id hS
    obtain ⟨mc13, hlo13⟩ := id hl13
    obtain ⟨mc15, hlo15⟩ := id hl15
    try dsimp only [Option.toList, List.cons_append, List.nil_append]
    refine lv_if_ne (tgt := 28) hx hb dX5_lossOf_23 (by decide) (fun c23 => ?_) (fun c23 => ?_)
    · refine lv_iload_n hx hb dX5_lossOf_28 rfl (lv_at hl 3 rfl) ?_
      refine lv_aload_n hx hb dX5_lossOf_29 rfl (lv_at hl 0 rfl) ?_
      refine h_get X Y (k := 1) (v := .ref (lyA (sL S k) 1)) (hLa k hk).1.1 rfl hin_X5 (by decide) kfl_X5_54 rfl dX5_lossOf_30 ?_
      refine lv_aload_n hx hb dX5_lossOf_33 rfl (lv_at hl 1 rfl) ?_
      refine h_get X Y (k := 1) (v := .int (clI (sC S i) 0)) (hCl i hi).1 rfl hin_X3 (by decide) kfl_X5_77 rfl dX5_lossOf_34 ?_
      refine lv_aload_n hx hb dX5_lossOf_37 rfl (lv_at hl 1 rfl) ?_
      refine h_get X Y (k := 0) (v := .int (nI (clY (sC S i)))) (hCl i hi).1 rfl hin_X3 (by decide) kfl_X5_82 rfl dX5_lossOf_38 ?_
      refine lv_iload_n hx hb dX5_lossOf_41 rfl (lv_at hl 2 rfl) ?_
      refine h_callV (rest := [.int subject]) X Y (c_value l G M1 (lyA (sL S k) 1) (2000 + 100 * k + 20) (sF S k 1) (hLa k hk).2.2.1 g1.1 (clI (sC S i) 0) (nI (clY (sC S i))) amount (fv (sF S k 1) (clI (sC S i) 0) amount) (g1.2 _ _)) gw_X5_85 dsc_X4_value (hLa k hk).2.2.1.1 rfl rfl rfl hl.1 rfl (Nat.le_of_ble_eq_true rfl) ⟨Nat.le_of_ble_eq_true rfl, Nat.le_of_ble_eq_true rfl⟩ ⟨Nat.le_of_ble_eq_true rfl, Nat.le_of_ble_eq_true rfl⟩ dX5_lossOf_42 ?_
      rintro _ M2 H locs ⟨rfl, hq⟩ Y
      have hq : hSim G hS0 _ _ := hq.mono (fun u hu => by unfold hS0; omega)
      have hs0 := hs0.tr hq
      have hS := hS.sim hq hS0_scr
      obtain ⟨hl13, he14, hl15, he16, hLa, hCl⟩ := id hS
      obtain ⟨mc13, hlo13⟩ := id hl13
      obtain ⟨mc15, hlo15⟩ := id hl15
      try dsimp only [Option.toList, List.cons_append, List.nil_append]
      refine lv_iconst (v := 0) hx hb dX5_lossOf_45 (by decide) ?_
      refine h_mmax X kml_X5_89 hl.1 (Nat.le_of_ble_eq_true rfl) (Nat.le_of_ble_eq_true rfl) ⟨Nat.le_of_ble_eq_true rfl, Nat.le_of_ble_eq_true rfl⟩ dX5_lossOf_46 ?_
      refine lv_isub hx hb dX5_lossOf_49 ?_
      refine lv_istore (lv' := [(4, .int (subject - (sMax (fv (sF S k 1) (clI (sC S i) 0) amount) 0))), (0, .ref (sA S (2000 + 100 * k))), (1, .ref (sA S (1000 + 10 * i))), (2, .int amount), (3, .int subject)]) hx hb dX5_lossOf_50 hl (by decide) rfl (fun ls hl => ?_)
      refine lv_aload_n hx hb dX5_lossOf_52 rfl (lv_at hl 1 rfl) ?_
      refine h_get X Y (k := 0) (v := .ref (lyA (sL S k) 0)) (hLa k hk).1.1 rfl hin_X5 (by decide) kfl_X5_51 rfl dX5_lossOf_53 ?_
      refine lv_aload_n hx hb dX5_lossOf_56 rfl (lv_at hl 2 rfl) ?_
      refine h_get X Y (k := 1) (v := .int (clI (sC S i) 0)) (hCl i hi).1 rfl hin_X3 (by decide) kfl_X5_77 rfl dX5_lossOf_57 ?_
      refine lv_aload_n hx hb dX5_lossOf_60 rfl (lv_at hl 2 rfl) ?_
      refine h_get X Y (k := 0) (v := .int (nI (clY (sC S i)))) (hCl i hi).1 rfl hin_X3 (by decide) kfl_X5_82 rfl dX5_lossOf_61 ?_
      refine lv_iload_n hx hb dX5_lossOf_64 rfl (lv_at hl 3 rfl) ?_
      refine h_callV (rest := []) X Y (c_value l G M2 (lyA (sL S k) 0) (2000 + 100 * k + 10) (sF S k 0) (hLa k hk).2.1 g0.1 (clI (sC S i) 0) (nI (clY (sC S i))) amount (fv (sF S k 0) (clI (sC S i) 0) amount) (g0.2 _ _)) gw_X5_85 dsc_X4_value (hLa k hk).2.1.1 rfl rfl rfl hl.1 rfl (Nat.le_of_ble_eq_true rfl) ⟨Nat.le_of_ble_eq_true rfl, Nat.le_of_ble_eq_true rfl⟩ ⟨Nat.le_of_ble_eq_true rfl, Nat.le_of_ble_eq_true rfl⟩ dX5_lossOf_65 ?_
      rintro _ M3 H locs ⟨rfl, hq⟩ Y
      have hq : hSim G hS0 _ _ := hq.mono (fun u hu => by unfold hS0; omega)
      have hs0 := hs0.tr hq
      have hS := hS.sim hq hS0_scr
      obtain ⟨hl13, he14, hl15, he16, hLa, hCl⟩ := id hS
      obtain ⟨mc13, hlo13⟩ := id hl13
      obtain ⟨mc15, hlo15⟩ := id hl15
      try dsimp only [Option.toList, List.cons_append, List.nil_append]
      refine lv_iconst (v := 0) hx hb dX5_lossOf_68 (by decide) ?_
      refine h_mmax X kml_X5_89 hl.1 (Nat.le_of_ble_eq_true rfl) (Nat.le_of_ble_eq_true rfl) ⟨Nat.le_of_ble_eq_true rfl, Nat.le_of_ble_eq_true rfl⟩ dX5_lossOf_69 ?_
      refine lv_istore (lv' := [(5, .int (sMax (fv (sF S k 0) (clI (sC S i) 0) amount) 0)), (4, .int (subject - (sMax (fv (sF S k 1) (clI (sC S i) 0) amount) 0))), (0, .ref (sA S (2000 + 100 * k))), (1, .ref (sA S (1000 + 10 * i))), (2, .int amount), (3, .int subject)]) hx hb dX5_lossOf_72 hl (by decide) rfl (fun ls hl => ?_)
      refine lv_iload hx hb dX5_lossOf_74 (lv_at hl 1 rfl) ?_
      refine lv_iconst (v := 0) hx hb dX5_lossOf_76 (by decide) ?_
      refine h_mmax X kml_X5_89 hl.1 (Nat.le_of_ble_eq_true rfl) (Nat.le_of_ble_eq_true rfl) ⟨Nat.le_of_ble_eq_true rfl, Nat.le_of_ble_eq_true rfl⟩ dX5_lossOf_77 ?_
      refine lv_iload hx hb dX5_lossOf_80 (lv_at hl 0 rfl) ?_
      refine h_mmin X kml_X5_93 hl.1 (Nat.le_of_ble_eq_true rfl) (Nat.le_of_ble_eq_true rfl) ⟨Nat.le_of_ble_eq_true rfl, Nat.le_of_ble_eq_true rfl⟩ dX5_lossOf_82 ?_
      exact h_iret X Y ⟨congrArg (fun z => some (Value.int z)) (if_neg (fun z9 => c23 z9.2)).symm, hs0⟩ (Nat.le_refl _) (Nat.le_refl _) dX5_lossOf_85
    · refine lv_iconst (v := 0) hx hb dX5_lossOf_26 (by decide) ?_
      exact h_iret X Y ⟨congrArg (fun z => some (Value.int z)) (if_pos ⟨(by rw [hq0]; exact fun z9 => nomatch z9), c23⟩).symm, hs0⟩ (Nat.le_refl _) (Nat.le_refl _) dX5_lossOf_27
theorem gw_X1_67 : GoodIn hGW (wsV RX1 67 RX5 yX5_isNetOf (Cond.code yX5_isNetOf cX5_isNetOf 2 (Option.some FieldType.boolean) :: hGW)) := hgi4 kml_X1_67 kin_X5_isNetOf kse_X5_X5_isNetOf_X5_isNetOf kini_X5 kco_X5_isNetOf
theorem dsc_X5_isNetOf : yX5_isNetOf.cls = RX5 ∧ yX5_isNetOf.cls ≠ "java/lang/invoke/MethodHandle" ∧ yX5_isNetOf.cls ≠ "java/lang/invoke/VarHandle" ∧ (parseMethodDescriptor yX5_isNetOf.desc).map (fun d => d.parameters.length) = some 1 := ⟨rfl, by decide +kernel, by decide +kernel, by decide +kernel⟩
theorem dX1_subject_0 : decode cX1_subject 0 = .ok (.aload_n 0, 1) := by decide +kernel
theorem dX1_subject_1 : decode cX1_subject 1 = .ok (.getfield 9, 3) := by decide +kernel
theorem dX1_subject_4 : decode cX1_subject 4 = .ok (.iload_n 2, 1) := by decide +kernel
theorem dX1_subject_5 : decode cX1_subject 5 = .ok (.iaload, 1) := by decide +kernel
theorem dX1_subject_6 : decode cX1_subject 6 = .ok (.istore 4, 2) := by decide +kernel
theorem dX1_subject_8 : decode cX1_subject 8 = .ok (.iconst 0, 1) := by decide +kernel
theorem dX1_subject_9 : decode cX1_subject 9 = .ok (.istore 5, 2) := by decide +kernel
theorem dX1_subject_11 : decode cX1_subject 11 = .ok (.iload 5, 2) := by decide +kernel
theorem dX1_subject_13 : decode cX1_subject 13 = .ok (.iload_n 3, 1) := by decide +kernel
theorem dX1_subject_14 : decode cX1_subject 14 = .ok (.if_icmp .ge 30, 3) := by decide +kernel
theorem dX1_subject_17 : decode cX1_subject 17 = .ok (.aload_n 1, 1) := by decide +kernel
theorem dX1_subject_18 : decode cX1_subject 18 = .ok (.iload 5, 2) := by decide +kernel
theorem dX1_subject_20 : decode cX1_subject 20 = .ok (.invokevirtual 67, 3) := by decide +kernel
theorem dX1_subject_23 : decode cX1_subject 23 = .ok (.ifCond .eq 15, 3) := by decide +kernel
theorem dX1_subject_26 : decode cX1_subject 26 = .ok (.iload 4, 2) := by decide +kernel
theorem dX1_subject_28 : decode cX1_subject 28 = .ok (.aload_n 0, 1) := by decide +kernel
theorem dX1_subject_29 : decode cX1_subject 29 = .ok (.iload 5, 2) := by decide +kernel
theorem dX1_subject_31 : decode cX1_subject 31 = .ok (.iload_n 2, 1) := by decide +kernel
theorem dX1_subject_32 : decode cX1_subject 32 = .ok (.invokevirtual 71, 3) := by decide +kernel
theorem dX1_subject_35 : decode cX1_subject 35 = .ok (.isub, 1) := by decide +kernel
theorem dX1_subject_36 : decode cX1_subject 36 = .ok (.istore 4, 2) := by decide +kernel
theorem dX1_subject_38 : decode cX1_subject 38 = .ok (.iinc 5 1, 3) := by decide +kernel
theorem dX1_subject_41 : decode cX1_subject 41 = .ok (.goto (-30), 3) := by decide +kernel
theorem dX1_subject_44 : decode cX1_subject 44 = .ok (.iload 4, 2) := by decide +kernel
theorem dX1_subject_46 : decode cX1_subject 46 = .ok (.iconst 0, 1) := by decide +kernel
theorem dX1_subject_47 : decode cX1_subject 47 = .ok (.invokestatic 74, 3) := by decide +kernel
theorem dX1_subject_50 : decode cX1_subject 50 = .ok (.ireturn, 1) := by decide +kernel
set_option maxHeartbeats 400000 in
set_option maxRecDepth 100000 in
theorem c_subject (l : Launch) (G : hG) (M : hM) (S : hSy) (hS : SyV G M S) (hG1 : SyG S) (cx : Nat) (am : Nat → Int32) (be yl : Nat → Nat → Int32) (lo : Nat → Int32) (hV : CesV G M S cx am be yl lo) (k i f : Nat) (hk : k < sN S) (hi : i < 40) (hf : f ≤ sN S) : hCT l G yX1_subject cX1_subject 6 (Option.some FieldType.int) (hRm 5 0 0) M [.ref (sA S (100 * (cx + 1))), .ref (sA S (2000 + 100 * k)), .int (nI i), .int (nI f)] (hRd M (.int (sMax (pSubj S k (am i) (be i) f) 0))) := by
  refine hCT.of (own := RX1) (nm := "subject") (by decide) rfl rfl (Nat.le_of_ble_eq_true rfl) ?_
  intro p e s m args below meth c ls X Y hl
  have hx := X.1
  have hb := X.2.1
  have hl : lv_has ls 6 [(0, .ref (sA S (100 * (cx + 1)))), (1, .ref (sA S (2000 + 100 * k))), (2, .int (nI i)), (3, .int (nI f))] := hl
  obtain ⟨hN8, hM40, hLG, hCY⟩ := id hG1
  obtain ⟨hl13, he14, hl15, he16, hLa, hCl⟩ := id hS
  obtain ⟨mc13, hlo13⟩ := id hl13
  obtain ⟨mc15, hlo15⟩ := id hl15
  obtain ⟨ho, ham, ⟨fb, hfb, hbo⟩, hbr, ⟨fy, hfy, hyo⟩, hyr, hlo⟩ := id hV
  refine lv_aload_n hx hb dX1_subject_0 rfl (lv_at hl 0 rfl) ?_
  refine h_get X Y (k := 0) (v := .ref (sA S (100 * (cx + 1) + 1))) ho rfl hin_X1 (by decide) kfl_X1_9 rfl dX1_subject_1 ?_
  refine lv_iload_n hx hb dX1_subject_4 rfl (lv_at hl 2 rfl) ?_
  refine h_iald X Y (i := i) ham (by omega) (by decide) dX1_subject_5 ?_
  refine lv_istore (lv' := [(4, .int (am i)), (0, .ref (sA S (100 * (cx + 1)))), (1, .ref (sA S (2000 + 100 * k))), (2, .int (nI i)), (3, .int (nI f))]) hx hb dX1_subject_6 hl (by decide) rfl (fun ls hl => ?_)
  refine lv_iconst (v := 0) hx hb dX1_subject_8 (by decide) ?_
  refine lv_istore (lv' := [(5, .int 0), (4, .int (am i)), (0, .ref (sA S (100 * (cx + 1)))), (1, .ref (sA S (2000 + 100 * k))), (2, .int (nI i)), (3, .int (nI f))]) hx hb dX1_subject_9 hl (by decide) rfl (fun ls hl => ?_)
  have loop : ∀ (d j : Nat), j + d = f + 1 → j ≤ f → ∀ (H : Heap) (locs : List Loc) (ls : Array Slot), hHS G M s H locs → lv_has ls 6 [(0, .ref (sA S (100 * (cx + 1)))), (1, .ref (sA S (2000 + 100 * k))), (2, .int (nI i)), (3, .int (nI f)), (4, .int (pSubj S k (am i) (be i) j)), (5, .int (nI j))] → W p l e (hRm 5 0 0) s m args below meth c H locs 0 0 (MQ below (hQ G (hRd M (.int (sMax (pSubj S k (am i) (be i) f) 0)))) args s 0 0 (hA G)) (F0 m 11 ls []) := by
    intro d
    induction d with
    | zero => intro j h1 h2; exact absurd h1 (by omega)
    | succ d ih =>
      intro j h1 h2 H locs ls Y hl
      refine lv_iload hx hb dX1_subject_11 (lv_at hl 5 rfl) ?_
      refine lv_iload_n hx hb dX1_subject_13 rfl (lv_at hl 3 rfl) ?_
      refine lv_icmp_ge (tgt := 44) hx hb dX1_subject_14 (by decide) (fun c14 => ?_) (fun c14 => ?_)
      · have c14 : f ≤ j := (nI_leI (a := f) (b := j) (by omega) (by omega)).mp c14
        have hk9 : f = j := by omega
        subst hk9
        refine lv_iload hx hb dX1_subject_44 (lv_at hl 4 rfl) ?_
        refine lv_iconst (v := 0) hx hb dX1_subject_46 (by decide) ?_
        refine h_mmax X kml_X1_74 hl.1 (Nat.le_of_ble_eq_true rfl) (Nat.le_of_ble_eq_true rfl) ⟨Nat.le_of_ble_eq_true rfl, Nat.le_of_ble_eq_true rfl⟩ dX1_subject_47 ?_
        exact h_iret X Y ⟨rfl, rfl⟩ (Nat.le_refl _) (Nat.le_refl _) dX1_subject_50
      · have c14 : ¬ f ≤ j := fun z9 => c14 ((nI_leI (a := f) (b := j) (by omega) (by omega)).mpr z9)
        refine lv_aload_n hx hb dX1_subject_17 rfl (lv_at hl 1 rfl) ?_
        refine lv_iload hx hb dX1_subject_18 (lv_at hl 5 rfl) ?_
        refine h_callVr (rest := []) X Y (c_isNetOf l G M (sA S (2000 + 100 * k)) (2000 + 100 * k) (sL S k) (hLa k hk).1 j) rfl rfl gw_X1_67 dsc_X5_isNetOf (hLa k hk).1.1 rfl rfl rfl rfl hl.1 (Nat.le_of_ble_eq_true rfl) ⟨Nat.le_of_ble_eq_true rfl, Nat.le_of_ble_eq_true rfl⟩ ⟨Nat.le_of_ble_eq_true rfl, Nat.le_of_ble_eq_true rfl⟩ dX1_subject_20 (fun H locs Y => ?_)
        by_cases hnt : lyNet (sL S k) j
        · refine h_ev (y := nI 1) (if_pos hnt) ?_
          refine lv_if_eq (tgt := 38) hx hb dX1_subject_23 (by decide) (fun c23 => absurd c23 (by decide)) (fun c23 => ?_)
          refine lv_iload hx hb dX1_subject_26 (lv_at hl 4 rfl) ?_
          refine lv_aload_n hx hb dX1_subject_28 rfl (lv_at hl 0 rfl) ?_
          refine lv_iload hx hb dX1_subject_29 (lv_at hl 5 rfl) ?_
          refine lv_iload_n hx hb dX1_subject_31 rfl (lv_at hl 2 rfl) ?_
          refine h_callVr (rest := [.int (pSubj S k (am i) (be i) j)]) X Y (c_given l G M S hS hG1 cx am be yl lo hV j i (by omega) hi) rfl rfl gw_X1_71 dsc_X1_given ho rfl rfl rfl rfl hl.1 (Nat.le_of_ble_eq_true rfl) ⟨Nat.le_of_ble_eq_true rfl, Nat.le_of_ble_eq_true rfl⟩ ⟨Nat.le_of_ble_eq_true rfl, Nat.le_of_ble_eq_true rfl⟩ dX1_subject_32 (fun H locs Y => ?_)
          refine lv_isub hx hb dX1_subject_35 ?_
          refine lv_istore (lv' := [(4, .int ((pSubj S k (am i) (be i) j) - (lyShare (sL S j) (be i j)))), (0, .ref (sA S (100 * (cx + 1)))), (1, .ref (sA S (2000 + 100 * k))), (2, .int (nI i)), (3, .int (nI f)), (5, .int (nI j))]) hx hb dX1_subject_36 hl (by decide) rfl (fun ls hl => ?_)
          have e1 : pSubj S k (am i) (be i) (j + 1) = (pSubj S k (am i) (be i) j) - (lyShare (sL S j) (be i j)) := if_pos hnt
          rw [← e1] at hl
          refine lv_iinc (v := nI (j + 1)) (lv' := [(5, .int (nI (j + 1))), (4, .int (pSubj S k (am i) (be i) (j + 1))), (0, .ref (sA S (100 * (cx + 1)))), (1, .ref (sA S (2000 + 100 * k))), (2, .int (nI i)), (3, .int (nI f))]) hx hb dX1_subject_38 hl (k := 5) rfl (nI_1 j) (by decide) rfl (fun ls hl => ?_)
          refine lv_goto (tgt := 11) hx hb dX1_subject_41 (by decide) ?_
          exact ih (j + 1) (by omega) (by omega) _ _ _ Y (lv_sub hl [2, 3, 4, 5, 1, 0] rfl)
        · refine h_ev (y := nI 0) (if_neg hnt) ?_
          refine lv_if_eq (tgt := 38) hx hb dX1_subject_23 (by decide) (fun c23 => ?_) (fun c23 => absurd (by decide) c23)
          have e1 : pSubj S k (am i) (be i) (j + 1) = pSubj S k (am i) (be i) j := if_neg hnt
          rw [← e1] at hl
          refine lv_iinc (v := nI (j + 1)) (lv' := [(5, .int (nI (j + 1))), (0, .ref (sA S (100 * (cx + 1)))), (1, .ref (sA S (2000 + 100 * k))), (2, .int (nI i)), (3, .int (nI f)), (4, .int (pSubj S k (am i) (be i) (j + 1)))]) hx hb dX1_subject_38 hl (k := 5) rfl (nI_1 j) (by decide) rfl (fun ls hl => ?_)
          refine lv_goto (tgt := 11) hx hb dX1_subject_41 (by decide) ?_
          exact ih (j + 1) (by omega) (by omega) _ _ _ Y (lv_sub hl [1, 2, 3, 4, 5, 0] rfl)
  exact loop (f + 1) 0 (by omega) (by omega) _ _ _ Y (lv_sub hl [2, 3, 4, 5, 1, 0] rfl)
theorem gw_X1_55 : GoodIn hGW (wsV RX1 55 RX1 yX1_subject (Cond.code yX1_subject cX1_subject 6 (Option.some FieldType.int) :: hGW)) := hgi4 kml_X1_55 kin_X1_subject kse_X1_X1_subject_X1_subject kini_X1 kco_X1_subject
theorem dsc_X1_subject : yX1_subject.cls = RX1 ∧ yX1_subject.cls ≠ "java/lang/invoke/MethodHandle" ∧ yX1_subject.cls ≠ "java/lang/invoke/VarHandle" ∧ (parseMethodDescriptor yX1_subject.desc).map (fun d => d.parameters.length) = some 3 := ⟨rfl, by decide +kernel, by decide +kernel, by decide +kernel⟩
theorem gw_X1_59 : GoodIn hGW (wsV RX1 59 RX5 yX5_lossOf (Cond.code yX5_lossOf cX5_lossOf 6 (Option.some FieldType.int) :: hGW)) := hgi4 kml_X1_59 kin_X5_lossOf kse_X5_X5_lossOf_X5_lossOf kini_X5 kco_X5_lossOf
theorem dsc_X5_lossOf : yX5_lossOf.cls = RX5 ∧ yX5_lossOf.cls ≠ "java/lang/invoke/MethodHandle" ∧ yX5_lossOf.cls ≠ "java/lang/invoke/VarHandle" ∧ (parseMethodDescriptor yX5_lossOf.desc).map (fun d => d.parameters.length) = some 3 := ⟨rfl, by decide +kernel, by decide +kernel, by decide +kernel⟩
theorem dX1_cede_0 : decode cX1_cede 0 = .ok (.aload_n 0, 1) := by decide +kernel
theorem dX1_cede_1 : decode cX1_cede 1 = .ok (.getfield 30, 3) := by decide +kernel
theorem dX1_cede_4 : decode cX1_cede 4 = .ok (.iload_n 1, 1) := by decide +kernel
theorem dX1_cede_5 : decode cX1_cede 5 = .ok (.invokeinterface 43 2, 5) := by decide +kernel
theorem dX1_cede_10 : decode cX1_cede 10 = .ok (.checkcast 47, 3) := by decide +kernel
theorem dX1_cede_13 : decode cX1_cede 13 = .ok (.astore_n 3, 1) := by decide +kernel
theorem dX1_cede_14 : decode cX1_cede 14 = .ok (.iconst 0, 1) := by decide +kernel
theorem dX1_cede_15 : decode cX1_cede 15 = .ok (.istore 4, 2) := by decide +kernel
theorem dX1_cede_17 : decode cX1_cede 17 = .ok (.iload 4, 2) := by decide +kernel
theorem dX1_cede_19 : decode cX1_cede 19 = .ok (.aload_n 0, 1) := by decide +kernel
theorem dX1_cede_20 : decode cX1_cede 20 = .ok (.getfield 26, 3) := by decide +kernel
theorem dX1_cede_23 : decode cX1_cede 23 = .ok (.invokeinterface 33 1, 5) := by decide +kernel
theorem dX1_cede_28 : decode cX1_cede 28 = .ok (.if_icmp .ge 116, 3) := by decide +kernel
theorem dX1_cede_31 : decode cX1_cede 31 = .ok (.aload_n 0, 1) := by decide +kernel
theorem dX1_cede_32 : decode cX1_cede 32 = .ok (.getfield 26, 3) := by decide +kernel
theorem dX1_cede_35 : decode cX1_cede 35 = .ok (.iload 4, 2) := by decide +kernel
theorem dX1_cede_37 : decode cX1_cede 37 = .ok (.invokeinterface 43 2, 5) := by decide +kernel
theorem dX1_cede_42 : decode cX1_cede 42 = .ok (.checkcast 53, 3) := by decide +kernel
theorem dX1_cede_45 : decode cX1_cede 45 = .ok (.astore 5, 2) := by decide +kernel
theorem dX1_cede_47 : decode cX1_cede 47 = .ok (.iload 4, 2) := by decide +kernel
theorem dX1_cede_49 : decode cX1_cede 49 = .ok (.iload_n 2, 1) := by decide +kernel
theorem dX1_cede_50 : decode cX1_cede 50 = .ok (.if_icmp .ne 7, 3) := by decide +kernel
theorem dX1_cede_53 : decode cX1_cede 53 = .ok (.iconst 0, 1) := by decide +kernel
theorem dX1_cede_54 : decode cX1_cede 54 = .ok (.goto 24, 3) := by decide +kernel
theorem dX1_cede_57 : decode cX1_cede 57 = .ok (.aload 5, 2) := by decide +kernel
theorem dX1_cede_59 : decode cX1_cede 59 = .ok (.aload_n 3, 1) := by decide +kernel
theorem dX1_cede_60 : decode cX1_cede 60 = .ok (.aload_n 0, 1) := by decide +kernel
theorem dX1_cede_61 : decode cX1_cede 61 = .ok (.getfield 9, 3) := by decide +kernel
theorem dX1_cede_64 : decode cX1_cede 64 = .ok (.iload_n 1, 1) := by decide +kernel
theorem dX1_cede_65 : decode cX1_cede 65 = .ok (.iaload, 1) := by decide +kernel
theorem dX1_cede_66 : decode cX1_cede 66 = .ok (.aload_n 0, 1) := by decide +kernel
theorem dX1_cede_67 : decode cX1_cede 67 = .ok (.aload 5, 2) := by decide +kernel
theorem dX1_cede_69 : decode cX1_cede 69 = .ok (.iload_n 1, 1) := by decide +kernel
theorem dX1_cede_70 : decode cX1_cede 70 = .ok (.iload 4, 2) := by decide +kernel
theorem dX1_cede_72 : decode cX1_cede 72 = .ok (.invokevirtual 55, 3) := by decide +kernel
theorem dX1_cede_75 : decode cX1_cede 75 = .ok (.invokevirtual 59, 3) := by decide +kernel
theorem dX1_cede_78 : decode cX1_cede 78 = .ok (.istore 6, 2) := by decide +kernel
theorem dX1_cede_80 : decode cX1_cede 80 = .ok (.aload_n 0, 1) := by decide +kernel
theorem dX1_cede_81 : decode cX1_cede 81 = .ok (.getfield 20, 3) := by decide +kernel
theorem dX1_cede_84 : decode cX1_cede 84 = .ok (.iload 4, 2) := by decide +kernel
theorem dX1_cede_86 : decode cX1_cede 86 = .ok (.aaload, 1) := by decide +kernel
theorem dX1_cede_87 : decode cX1_cede 87 = .ok (.aload_n 3, 1) := by decide +kernel
theorem dX1_cede_88 : decode cX1_cede 88 = .ok (.getfield 49, 3) := by decide +kernel
theorem dX1_cede_91 : decode cX1_cede 91 = .ok (.iaload, 1) := by decide +kernel
theorem dX1_cede_92 : decode cX1_cede 92 = .ok (.istore 7, 2) := by decide +kernel
theorem dX1_cede_94 : decode cX1_cede 94 = .ok (.aload_n 0, 1) := by decide +kernel
theorem dX1_cede_95 : decode cX1_cede 95 = .ok (.getfield 23, 3) := by decide +kernel
theorem dX1_cede_98 : decode cX1_cede 98 = .ok (.iload 4, 2) := by decide +kernel
theorem dX1_cede_100 : decode cX1_cede 100 = .ok (.iload 6, 2) := by decide +kernel
theorem dX1_cede_102 : decode cX1_cede 102 = .ok (.iastore, 1) := by decide +kernel
theorem dX1_cede_103 : decode cX1_cede 103 = .ok (.aload_n 0, 1) := by decide +kernel
theorem dX1_cede_104 : decode cX1_cede 104 = .ok (.getfield 17, 3) := by decide +kernel
theorem dX1_cede_107 : decode cX1_cede 107 = .ok (.iload_n 1, 1) := by decide +kernel
theorem dX1_cede_108 : decode cX1_cede 108 = .ok (.aaload, 1) := by decide +kernel
theorem dX1_cede_109 : decode cX1_cede 109 = .ok (.iload 4, 2) := by decide +kernel
theorem dX1_cede_111 : decode cX1_cede 111 = .ok (.aload 5, 2) := by decide +kernel
theorem dX1_cede_113 : decode cX1_cede 113 = .ok (.aload_n 3, 1) := by decide +kernel
theorem dX1_cede_114 : decode cX1_cede 114 = .ok (.getfield 49, 3) := by decide +kernel
theorem dX1_cede_117 : decode cX1_cede 117 = .ok (.iload 7, 2) := by decide +kernel
theorem dX1_cede_119 : decode cX1_cede 119 = .ok (.iload 6, 2) := by decide +kernel
theorem dX1_cede_121 : decode cX1_cede 121 = .ok (.iadd, 1) := by decide +kernel
theorem dX1_cede_122 : decode cX1_cede 122 = .ok (.invokevirtual 63, 3) := by decide +kernel
theorem dX1_cede_125 : decode cX1_cede 125 = .ok (.aload 5, 2) := by decide +kernel
theorem dX1_cede_127 : decode cX1_cede 127 = .ok (.aload_n 3, 1) := by decide +kernel
theorem dX1_cede_128 : decode cX1_cede 128 = .ok (.getfield 49, 3) := by decide +kernel
theorem dX1_cede_131 : decode cX1_cede 131 = .ok (.iload 7, 2) := by decide +kernel
theorem dX1_cede_133 : decode cX1_cede 133 = .ok (.invokevirtual 63, 3) := by decide +kernel
theorem dX1_cede_136 : decode cX1_cede 136 = .ok (.isub, 1) := by decide +kernel
theorem dX1_cede_137 : decode cX1_cede 137 = .ok (.iastore, 1) := by decide +kernel
theorem dX1_cede_138 : decode cX1_cede 138 = .ok (.iinc 4 1, 3) := by decide +kernel
theorem dX1_cede_141 : decode cX1_cede 141 = .ok (.goto (-124), 3) := by decide +kernel
theorem dX1_cede_144 : decode cX1_cede 144 = .ok (.return_, 1) := by decide +kernel
set_option maxHeartbeats 400000 in
set_option maxRecDepth 100000 in
theorem c_cede (l : Launch) (G : hG) (M : hM) (S : hSy) (hS : SyV G M S) (hG1 : SyG S) (cx : Nat) (am : Nat → Int32) (be yl : Nat → Nat → Int32) (lo : Nat → Int32) (hV : CesV G M S cx am be yl lo) (hc3 : cx < 3) (i : Nat) (mu : Int32) (hi : i < sM S) : hCT l G yX1_cede cX1_cede 8 (Option.none) (hRm 6 0 0) M [.ref (sA S (100 * (cx + 1))), .int (nI i), .int mu] (fun v M' => v = none ∧ ∃ be' lo', CesV G M' S cx am be' yl lo' ∧ (∀ j, j ≠ i → be' j = be j) ∧ (∀ j, j < sN S → be' i j = pB S mu (clY (sC S i)) (clI (sC S i) 0) (am i) (fun k => yl k (clY (sC S i))) (sN S) j) ∧ (∀ j, j < sN S → lo' j = pLoss S mu j (clI (sC S i) 0) (am i) (pB S mu (clY (sC S i)) (clI (sC S i) 0) (am i) (fun k => yl k (clY (sC S i))) j)) ∧ hSim G (hS1 cx) M M') := by
  refine hCT.of (own := RX1) (nm := "cede") (by decide) rfl rfl (Nat.le_of_ble_eq_true rfl) ?_
  intro p e s m args below meth c ls X Y hl
  have hx := X.1
  have hb := X.2.1
  have hl : lv_has ls 8 [(0, .ref (sA S (100 * (cx + 1)))), (1, .int (nI i)), (2, .int mu)] := hl
  obtain ⟨hN8, hM40, hLG, hCY⟩ := id hG1
  obtain ⟨hl13, he14, hl15, he16, hLa, hCl⟩ := id hS
  obtain ⟨mc13, hlo13⟩ := id hl13
  obtain ⟨mc15, hlo15⟩ := id hl15
  obtain ⟨ho, ham, ⟨fb, hfb, hbo⟩, hbr, ⟨fy, hfy, hyo⟩, hyr, hlo⟩ := id hV
  have hy := hCY i hi
  refine lv_aload_n hx hb dX1_cede_0 rfl (lv_at hl 0 rfl) ?_
  refine h_get X Y (k := 5) (v := .ref (sA S 15)) ho rfl hin_X1 (by decide) kfl_X1_30 rfl dX1_cede_1 ?_
  refine lv_iload_n hx hb dX1_cede_4 rfl (lv_at hl 1 rfl) ?_
  refine h_callFr (rest := []) X Y (c_get l G M (sA S 15) 15 (sA S 16) 16 (sM S) i (fun i => sA S (1000 + 10 * i)) hl15 (he16 (by omega)) (by omega)) rfl rfl (hFw_Jx4a65c_get_915e3 X) gw_X1_43 dsi_Jx4a65c_get_915e3 hlo15 rfl rfl rfl rfl hl.1 (Nat.le_of_ble_eq_true rfl) ⟨Nat.le_of_ble_eq_true rfl, Nat.le_of_ble_eq_true rfl⟩ ⟨Nat.le_of_ble_eq_true rfl, Nat.le_of_ble_eq_true rfl⟩ dX1_cede_5 (fun H locs Y => ?_)
  refine h_cast X Y (hCl i (by omega)).1 rfl rfl kcl_X1_47 dX1_cede_10 ?_
  refine lv_astore_n (lv' := [(3, .ref (sA S (1000 + 10 * i))), (0, .ref (sA S (100 * (cx + 1)))), (1, .int (nI i)), (2, .int mu)]) hx hb dX1_cede_13 rfl hl (by decide) rfl (fun ls hl => ?_)
  refine lv_iconst (v := 0) hx hb dX1_cede_14 (by decide) ?_
  refine lv_istore (lv' := [(4, .int 0), (3, .ref (sA S (1000 + 10 * i))), (0, .ref (sA S (100 * (cx + 1)))), (1, .int (nI i)), (2, .int mu)]) hx hb dX1_cede_15 hl (by decide) rfl (fun ls hl => ?_)
  have loop : ∀ (d k : Nat), k + d = sN S + 1 → k ≤ sN S → ∀ (M1 : hM) (be1 : Nat → Nat → Int32) (lo1 : Nat → Int32), SyV G M1 S → CesV G M1 S cx am be1 yl lo1 → hSim G (hS1 cx) M M1 → (∀ j, j ≠ i → be1 j = be j) → (∀ j, j < k → be1 i j = (pB S mu (clY (sC S i)) (clI (sC S i) 0) (am i) (fun k => yl k (clY (sC S i))) k) j) → (∀ j, j < k → lo1 j = pLoss S mu j (clI (sC S i) 0) (am i) (pB S mu (clY (sC S i)) (clI (sC S i) 0) (am i) (fun k => yl k (clY (sC S i))) j)) → ∀ (H : Heap) (locs : List Loc) (ls : Array Slot), hHS G M1 s H locs → lv_has ls 8 [(0, .ref (sA S (100 * (cx + 1)))), (1, .int (nI i)), (2, .int mu), (3, .ref (sA S (1000 + 10 * i))), (4, .int (nI k))] → W p l e (hRm 6 0 0) s m args below meth c H locs 0 0 (MQ below (hQ G (fun v M' => v = none ∧ ∃ be' lo', CesV G M' S cx am be' yl lo' ∧ (∀ j, j ≠ i → be' j = be j) ∧ (∀ j, j < sN S → be' i j = pB S mu (clY (sC S i)) (clI (sC S i) 0) (am i) (fun k => yl k (clY (sC S i))) (sN S) j) ∧ (∀ j, j < sN S → lo' j = pLoss S mu j (clI (sC S i) 0) (am i) (pB S mu (clY (sC S i)) (clI (sC S i) 0) (am i) (fun k => yl k (clY (sC S i))) j)) ∧ hSim G (hS1 cx) M M')) args s 0 0 (hA G)) (F0 m 17 ls []) := by
    intro d
    induction d with
    | zero => intro k h1; intros; exact absurd h1 (by omega)
    | succ d ih =>
      intro k h1 h2 M1 be1 lo1 hS hV hs0 hbo1 hb1 hl1 H locs ls Y hl
      obtain ⟨hl13, he14, hl15, he16, hLa, hCl⟩ := id hS
      obtain ⟨mc13, hlo13⟩ := id hl13
      obtain ⟨mc15, hlo15⟩ := id hl15
      obtain ⟨ho, ham, ⟨fb, hfb, hbo⟩, hbr, ⟨fy, hfy, hyo⟩, hyr, hlo⟩ := id hV
      refine lv_iload hx hb dX1_cede_17 (lv_at hl 4 rfl) ?_
      refine lv_aload_n hx hb dX1_cede_19 rfl (lv_at hl 0 rfl) ?_
      refine h_get X Y (k := 4) (v := .ref (sA S 13)) ho rfl hin_X1 (by decide) kfl_X1_26 rfl dX1_cede_20 ?_
      refine h_callFr (rest := [.int (nI k)]) X Y (c_size l G M1 (sA S 13) 13 (sA S 14) (sN S) hl13) rfl rfl (hFw_Jx4a65c_size_8abf5 X) gw_X1_33 dsi_Jx4a65c_size_8abf5 hlo13 rfl rfl rfl rfl hl.1 (Nat.le_of_ble_eq_true rfl) ⟨Nat.le_of_ble_eq_true rfl, Nat.le_of_ble_eq_true rfl⟩ ⟨Nat.le_of_ble_eq_true rfl, Nat.le_of_ble_eq_true rfl⟩ dX1_cede_23 (fun H locs Y => ?_)
      refine lv_icmp_ge (tgt := 144) hx hb dX1_cede_28 (by decide) (fun c28 => ?_) (fun c28 => ?_)
      · have c28 : (sN S) ≤ k := (nI_leI (a := (sN S)) (b := k) (by omega) (by omega)).mp c28
        have hk9 : k = (sN S) := by omega
        subst hk9
        exact h_vret X Y ⟨rfl, be1, lo1, hV, hbo1, hb1, hl1, hs0⟩ (Nat.le_refl _) (Nat.le_refl _) dX1_cede_144
      · have c28 : ¬ (sN S) ≤ k := fun z9 => c28 ((nI_leI (a := (sN S)) (b := k) (by omega) (by omega)).mpr z9)
        refine lv_aload_n hx hb dX1_cede_31 rfl (lv_at hl 0 rfl) ?_
        refine h_get X Y (k := 4) (v := .ref (sA S 13)) ho rfl hin_X1 (by decide) kfl_X1_26 rfl dX1_cede_32 ?_
        refine lv_iload hx hb dX1_cede_35 (lv_at hl 4 rfl) ?_
        refine h_callFr (rest := []) X Y (c_get l G M1 (sA S 13) 13 (sA S 14) 14 (sN S) k (fun k => sA S (2000 + 100 * k)) hl13 (he14 (by omega)) (by omega)) rfl rfl (hFw_Jx4a65c_get_915e3 X) gw_X1_43 dsi_Jx4a65c_get_915e3 hlo13 rfl rfl rfl rfl hl.1 (Nat.le_of_ble_eq_true rfl) ⟨Nat.le_of_ble_eq_true rfl, Nat.le_of_ble_eq_true rfl⟩ ⟨Nat.le_of_ble_eq_true rfl, Nat.le_of_ble_eq_true rfl⟩ dX1_cede_37 (fun H locs Y => ?_)
        refine h_cast X Y (hLa k (by omega)).1.1 rfl rfl kcl_X1_53 dX1_cede_42 ?_
        refine lv_astore (lv' := [(5, .ref (sA S (2000 + 100 * k))), (0, .ref (sA S (100 * (cx + 1)))), (1, .int (nI i)), (2, .int mu), (3, .ref (sA S (1000 + 10 * i))), (4, .int (nI k))]) hx hb dX1_cede_45 hl (by decide) rfl (fun ls hl => ?_)
        refine lv_iload hx hb dX1_cede_47 (lv_at hl 5 rfl) ?_
        refine lv_iload_n hx hb dX1_cede_49 rfl (lv_at hl 3 rfl) ?_
        refine lv_icmp_ne (tgt := 57) hx hb dX1_cede_50 (by decide) (fun c50 => ?_) (fun c50 => ?_)
        · refine lv_aload hx hb dX1_cede_57 (lv_at hl 0 rfl) ?_
          refine lv_aload_n hx hb dX1_cede_59 rfl (lv_at hl 4 rfl) ?_
          refine lv_aload_n hx hb dX1_cede_60 rfl (lv_at hl 1 rfl) ?_
          refine h_get X Y (k := 0) (v := .ref (sA S (100 * (cx + 1) + 1))) ho rfl hin_X1 (by decide) kfl_X1_9 rfl dX1_cede_61 ?_
          refine lv_iload_n hx hb dX1_cede_64 rfl (lv_at hl 2 rfl) ?_
          refine h_iald X Y (i := i) ham (by omega) (by decide) dX1_cede_65 ?_
          refine lv_aload_n hx hb dX1_cede_66 rfl (lv_at hl 1 rfl) ?_
          refine lv_aload hx hb dX1_cede_67 (lv_at hl 0 rfl) ?_
          refine lv_iload_n hx hb dX1_cede_69 rfl (lv_at hl 2 rfl) ?_
          refine lv_iload hx hb dX1_cede_70 (lv_at hl 5 rfl) ?_
          refine h_callVr (rest := [.int (am i), .ref (sA S (1000 + 10 * i)), .ref (sA S (2000 + 100 * k))]) X Y (c_subject l G M1 S hS hG1 cx am be1 yl lo1 hV k i k (by omega) (by omega) (by omega)) rfl rfl gw_X1_55 dsc_X1_subject ho rfl rfl rfl rfl hl.1 (Nat.le_of_ble_eq_true rfl) ⟨Nat.le_of_ble_eq_true rfl, Nat.le_of_ble_eq_true rfl⟩ ⟨Nat.le_of_ble_eq_true rfl, Nat.le_of_ble_eq_true rfl⟩ dX1_cede_72 (fun H locs Y => ?_)
          refine h_callV (rest := []) X Y (c_lossOf l G M1 S hS hG1 k i (by omega) hi (am i) (sMax (pSubj S k (am i) (be1 i) k) 0)) gw_X1_59 dsc_X5_lossOf (hLa k (by omega)).1.1 rfl rfl rfl hl.1 rfl (Nat.le_of_ble_eq_true rfl) ⟨Nat.le_of_ble_eq_true rfl, Nat.le_of_ble_eq_true rfl⟩ ⟨Nat.le_of_ble_eq_true rfl, Nat.le_of_ble_eq_true rfl⟩ dX1_cede_75 ?_
          rintro _ M1 H locs ⟨rfl, hq⟩ Y
          have hs0 := hs0.tr (hq.mono hS0_1)
          have hS := hS.sim hq hS0_scr
          have hV := hV.sim hq (hS0_ces hc3)
          obtain ⟨hl13, he14, hl15, he16, hLa, hCl⟩ := id hS
          obtain ⟨mc13, hlo13⟩ := id hl13
          obtain ⟨mc15, hlo15⟩ := id hl15
          obtain ⟨ho, ham, ⟨fb, hfb, hbo⟩, hbr, ⟨fy, hfy, hyo⟩, hyr, hlo⟩ := id hV
          try dsimp only [Option.toList, List.cons_append, List.nil_append]
          have hloss : hLoss (sL S k) (sF S k) (clI (sC S i) 0) (am i) (sMax (pSubj S k (am i) (be1 i) k) 0) = pLoss S mu k (clI (sC S i) 0) (am i) (pB S mu (clY (sC S i)) (clI (sC S i) 0) (am i) (fun k => yl k (clY (sC S i))) k) := by
            rw [pSubj_congr S k (am i) k hb1]; exact (if_neg c50).symm
          refine lv_topi (fun x0 ex0 => ?_)
          rw [← ex0] at hloss
          refine lv_istore (lv' := [(6, .int x0), (5, .ref (sA S (2000 + 100 * k))), (0, .ref (sA S (100 * (cx + 1)))), (1, .int (nI i)), (2, .int mu), (3, .ref (sA S (1000 + 10 * i))), (4, .int (nI k))]) hx hb dX1_cede_78 hl (by decide) rfl (fun ls hl => ?_)
          refine lv_aload_n hx hb dX1_cede_80 rfl (lv_at hl 2 rfl) ?_
          refine h_get X Y (k := 2) (v := .ref (sA S (100 * (cx + 1) + 3))) ho rfl hin_X1 (by decide) kfl_X1_20 rfl dX1_cede_81 ?_
          refine lv_iload hx hb dX1_cede_84 (lv_at hl 6 rfl) ?_
          refine h_aaldI X Y (i := k) hyo (by omega) (by decide) dX1_cede_86 ?_
          refine h_rf (hfy k (by omega)) ?_
          refine lv_aload_n hx hb dX1_cede_87 rfl (lv_at hl 5 rfl) ?_
          refine h_get X Y (k := 0) (v := .int (nI (clY (sC S i)))) (hCl i hi).1 rfl hin_X3 (by decide) kfl_X1_49 rfl dX1_cede_88 ?_
          refine h_iald X Y (i := (clY (sC S i))) (hyr k (by omega)) (by omega) (by decide) dX1_cede_91 ?_
          refine lv_istore (lv' := [(7, .int ((yl k) (clY (sC S i)))), (6, .int x0), (5, .ref (sA S (2000 + 100 * k))), (0, .ref (sA S (100 * (cx + 1)))), (1, .int (nI i)), (2, .int mu), (3, .ref (sA S (1000 + 10 * i))), (4, .int (nI k))]) hx hb dX1_cede_92 hl (by decide) rfl (fun ls hl => ?_)
          refine lv_aload_n hx hb dX1_cede_94 rfl (lv_at hl 3 rfl) ?_
          refine h_get X Y (k := 3) (v := .ref (sA S (100 * (cx + 1) + 4))) ho rfl hin_X1 (by decide) kfl_X1_23 rfl dX1_cede_95 ?_
          refine lv_iload hx hb dX1_cede_98 (lv_at hl 7 rfl) ?_
          refine lv_iload hx hb dX1_cede_100 (lv_at hl 1 rfl) ?_
          refine h_iast X Y (i := k) hlo (by omega) (by decide) dX1_cede_102 (fun H locs Y => ?_)
          obtain ⟨hV, hS, hq⟩ := CesV.putLo hc3 (upd lo1 k x0) hV hS
          have hs0 := hs0.tr hq
          generalize hup M1 _ _ = M2 at Y hV hS hq hs0
          obtain ⟨hl13, he14, hl15, he16, hLa, hCl⟩ := id hS
          obtain ⟨mc13, hlo13⟩ := id hl13
          obtain ⟨mc15, hlo15⟩ := id hl15
          obtain ⟨ho, ham, ⟨fb, hfb, hbo⟩, hbr, ⟨fy, hfy, hyo⟩, hyr, hlo⟩ := id hV
          refine lv_aload_n hx hb dX1_cede_103 rfl (lv_at hl 3 rfl) ?_
          refine h_get X Y (k := 1) (v := .ref (sA S (100 * (cx + 1) + 2))) ho rfl hin_X1 (by decide) kfl_X1_17 rfl dX1_cede_104 ?_
          refine lv_iload_n hx hb dX1_cede_107 rfl (lv_at hl 4 rfl) ?_
          refine h_aaldI X Y (i := i) hbo (by omega) (by decide) dX1_cede_108 ?_
          refine h_rf (hfb i (by omega)) ?_
          refine lv_iload hx hb dX1_cede_109 (lv_at hl 7 rfl) ?_
          refine lv_aload hx hb dX1_cede_111 (lv_at hl 2 rfl) ?_
          refine lv_aload_n hx hb dX1_cede_113 rfl (lv_at hl 6 rfl) ?_
          refine h_get X Y (k := 0) (v := .int (nI (clY (sC S i)))) (hCl i hi).1 rfl hin_X3 (by decide) kfl_X1_49 rfl dX1_cede_114 ?_
          refine lv_iload hx hb dX1_cede_117 (lv_at hl 0 rfl) ?_
          refine lv_iload hx hb dX1_cede_119 (lv_at hl 1 rfl) ?_
          refine lv_iadd hx hb dX1_cede_121 ?_
          refine h_callVr (rest := [.int (nI k), .ref (sA S (100 * (cx + 1) + 10 + i))]) X Y (c_borneOf l G M2 (sA S (2000 + 100 * k)) (2000 + 100 * k) (sL S k) (hLa k (by omega)).1 (clY (sC S i)) hy (((yl k) (clY (sC S i))) + x0)) rfl rfl gw_X1_63 dsc_X5_borneOf (hLa k (by omega)).1.1 rfl rfl rfl rfl hl.1 (Nat.le_of_ble_eq_true rfl) ⟨Nat.le_of_ble_eq_true rfl, Nat.le_of_ble_eq_true rfl⟩ ⟨Nat.le_of_ble_eq_true rfl, Nat.le_of_ble_eq_true rfl⟩ dX1_cede_122 (fun H locs Y => ?_)
          refine lv_aload hx hb dX1_cede_125 (lv_at hl 2 rfl) ?_
          refine lv_aload_n hx hb dX1_cede_127 rfl (lv_at hl 6 rfl) ?_
          refine h_get X Y (k := 0) (v := .int (nI (clY (sC S i)))) (hCl i hi).1 rfl hin_X3 (by decide) kfl_X1_49 rfl dX1_cede_128 ?_
          refine lv_iload hx hb dX1_cede_131 (lv_at hl 0 rfl) ?_
          refine h_callVr (rest := [.int (lyBorne (sL S k) (clY (sC S i)) (((yl k) (clY (sC S i))) + x0)), .int (nI k), .ref (sA S (100 * (cx + 1) + 10 + i))]) X Y (c_borneOf l G M2 (sA S (2000 + 100 * k)) (2000 + 100 * k) (sL S k) (hLa k (by omega)).1 (clY (sC S i)) hy ((yl k) (clY (sC S i)))) rfl rfl gw_X1_63 dsc_X5_borneOf (hLa k (by omega)).1.1 rfl rfl rfl rfl hl.1 (Nat.le_of_ble_eq_true rfl) ⟨Nat.le_of_ble_eq_true rfl, Nat.le_of_ble_eq_true rfl⟩ ⟨Nat.le_of_ble_eq_true rfl, Nat.le_of_ble_eq_true rfl⟩ dX1_cede_133 (fun H locs Y => ?_)
          refine lv_isub hx hb dX1_cede_136 ?_
          refine h_iast X Y (i := k) (hbr i (by omega)) (by omega) (by decide) dX1_cede_137 (fun H locs Y => ?_)
          obtain ⟨hV, hS, hq⟩ := CesV.putBe hc3 i (by omega) (upd (be1 i) k ((lyBorne (sL S k) (clY (sC S i)) (((yl k) (clY (sC S i))) + x0)) - (lyBorne (sL S k) (clY (sC S i)) ((yl k) (clY (sC S i)))))) hV hS
          have hs0 := hs0.tr hq
          generalize hup M2 _ _ = M3 at Y hV hS hq hs0
          refine lv_iinc (v := nI (k + 1)) (lv' := [(4, .int (nI (k + 1))), (7, .int ((yl k) (clY (sC S i)))), (6, .int x0), (5, .ref (sA S (2000 + 100 * k))), (0, .ref (sA S (100 * (cx + 1)))), (1, .int (nI i)), (2, .int mu), (3, .ref (sA S (1000 + 10 * i)))]) hx hb dX1_cede_138 hl (k := 7) rfl (nI_1 k) (by decide) rfl (fun ls hl => ?_)
          refine lv_goto (tgt := 17) hx hb dX1_cede_141 (by decide) ?_
          refine ih (k + 1) (by omega) (by omega) M3 _ _ hS hV hs0 ?_ ?_ ?_ _ _ _ Y (lv_sub hl [4, 5, 6, 7, 0] rfl)
          · intro j hj; rw [va_up_ne _ _ hj]; exact hbo1 j hj
          · intro j hj
            rw [va_up_self]
            show upd _ _ _ j = va_up (pB S mu (clY (sC S i)) (clI (sC S i) 0) (am i) (fun k => yl k (clY (sC S i))) k) k _ j
            by_cases e : j = k
            · subst e; rw [va_up_self]; simp only [upd, if_true]; rw [hloss]
            · rw [va_up_ne _ _ e]; simp only [upd, if_neg e]; exact hb1 j (by omega)
          · intro j hj
            by_cases e : j = k
            · subst e; simp only [upd, if_true]; exact hloss
            · simp only [upd, if_neg e]; exact hl1 j (by omega)
        · refine lv_iconst (v := 0) hx hb dX1_cede_53 (by decide) ?_
          refine lv_goto (tgt := 78) hx hb dX1_cede_54 (by decide) ?_
          have hloss : 0 = pLoss S mu k (clI (sC S i) 0) (am i) (pB S mu (clY (sC S i)) (clI (sC S i) 0) (am i) (fun k => yl k (clY (sC S i))) k) := by
            exact (if_pos c50).symm
          refine lv_topi (fun x0 ex0 => ?_)
          rw [← ex0] at hloss
          refine lv_istore (lv' := [(6, .int x0), (5, .ref (sA S (2000 + 100 * k))), (0, .ref (sA S (100 * (cx + 1)))), (1, .int (nI i)), (2, .int mu), (3, .ref (sA S (1000 + 10 * i))), (4, .int (nI k))]) hx hb dX1_cede_78 hl (by decide) rfl (fun ls hl => ?_)
          refine lv_aload_n hx hb dX1_cede_80 rfl (lv_at hl 2 rfl) ?_
          refine h_get X Y (k := 2) (v := .ref (sA S (100 * (cx + 1) + 3))) ho rfl hin_X1 (by decide) kfl_X1_20 rfl dX1_cede_81 ?_
          refine lv_iload hx hb dX1_cede_84 (lv_at hl 6 rfl) ?_
          refine h_aaldI X Y (i := k) hyo (by omega) (by decide) dX1_cede_86 ?_
          refine h_rf (hfy k (by omega)) ?_
          refine lv_aload_n hx hb dX1_cede_87 rfl (lv_at hl 5 rfl) ?_
          refine h_get X Y (k := 0) (v := .int (nI (clY (sC S i)))) (hCl i hi).1 rfl hin_X3 (by decide) kfl_X1_49 rfl dX1_cede_88 ?_
          refine h_iald X Y (i := (clY (sC S i))) (hyr k (by omega)) (by omega) (by decide) dX1_cede_91 ?_
          refine lv_istore (lv' := [(7, .int ((yl k) (clY (sC S i)))), (6, .int x0), (5, .ref (sA S (2000 + 100 * k))), (0, .ref (sA S (100 * (cx + 1)))), (1, .int (nI i)), (2, .int mu), (3, .ref (sA S (1000 + 10 * i))), (4, .int (nI k))]) hx hb dX1_cede_92 hl (by decide) rfl (fun ls hl => ?_)
          refine lv_aload_n hx hb dX1_cede_94 rfl (lv_at hl 3 rfl) ?_
          refine h_get X Y (k := 3) (v := .ref (sA S (100 * (cx + 1) + 4))) ho rfl hin_X1 (by decide) kfl_X1_23 rfl dX1_cede_95 ?_
          refine lv_iload hx hb dX1_cede_98 (lv_at hl 7 rfl) ?_
          refine lv_iload hx hb dX1_cede_100 (lv_at hl 1 rfl) ?_
          refine h_iast X Y (i := k) hlo (by omega) (by decide) dX1_cede_102 (fun H locs Y => ?_)
          obtain ⟨hV, hS, hq⟩ := CesV.putLo hc3 (upd lo1 k x0) hV hS
          have hs0 := hs0.tr hq
          generalize hup M1 _ _ = M4 at Y hV hS hq hs0
          obtain ⟨hl13, he14, hl15, he16, hLa, hCl⟩ := id hS
          obtain ⟨mc13, hlo13⟩ := id hl13
          obtain ⟨mc15, hlo15⟩ := id hl15
          obtain ⟨ho, ham, ⟨fb, hfb, hbo⟩, hbr, ⟨fy, hfy, hyo⟩, hyr, hlo⟩ := id hV
          refine lv_aload_n hx hb dX1_cede_103 rfl (lv_at hl 3 rfl) ?_
          refine h_get X Y (k := 1) (v := .ref (sA S (100 * (cx + 1) + 2))) ho rfl hin_X1 (by decide) kfl_X1_17 rfl dX1_cede_104 ?_
          refine lv_iload_n hx hb dX1_cede_107 rfl (lv_at hl 4 rfl) ?_
          refine h_aaldI X Y (i := i) hbo (by omega) (by decide) dX1_cede_108 ?_
          refine h_rf (hfb i (by omega)) ?_
          refine lv_iload hx hb dX1_cede_109 (lv_at hl 7 rfl) ?_
          refine lv_aload hx hb dX1_cede_111 (lv_at hl 2 rfl) ?_
          refine lv_aload_n hx hb dX1_cede_113 rfl (lv_at hl 6 rfl) ?_
          refine h_get X Y (k := 0) (v := .int (nI (clY (sC S i)))) (hCl i hi).1 rfl hin_X3 (by decide) kfl_X1_49 rfl dX1_cede_114 ?_
          refine lv_iload hx hb dX1_cede_117 (lv_at hl 0 rfl) ?_
          refine lv_iload hx hb dX1_cede_119 (lv_at hl 1 rfl) ?_
          refine lv_iadd hx hb dX1_cede_121 ?_
          refine h_callVr (rest := [.int (nI k), .ref (sA S (100 * (cx + 1) + 10 + i))]) X Y (c_borneOf l G M4 (sA S (2000 + 100 * k)) (2000 + 100 * k) (sL S k) (hLa k (by omega)).1 (clY (sC S i)) hy (((yl k) (clY (sC S i))) + x0)) rfl rfl gw_X1_63 dsc_X5_borneOf (hLa k (by omega)).1.1 rfl rfl rfl rfl hl.1 (Nat.le_of_ble_eq_true rfl) ⟨Nat.le_of_ble_eq_true rfl, Nat.le_of_ble_eq_true rfl⟩ ⟨Nat.le_of_ble_eq_true rfl, Nat.le_of_ble_eq_true rfl⟩ dX1_cede_122 (fun H locs Y => ?_)
          refine lv_aload hx hb dX1_cede_125 (lv_at hl 2 rfl) ?_
          refine lv_aload_n hx hb dX1_cede_127 rfl (lv_at hl 6 rfl) ?_
          refine h_get X Y (k := 0) (v := .int (nI (clY (sC S i)))) (hCl i hi).1 rfl hin_X3 (by decide) kfl_X1_49 rfl dX1_cede_128 ?_
          refine lv_iload hx hb dX1_cede_131 (lv_at hl 0 rfl) ?_
          refine h_callVr (rest := [.int (lyBorne (sL S k) (clY (sC S i)) (((yl k) (clY (sC S i))) + x0)), .int (nI k), .ref (sA S (100 * (cx + 1) + 10 + i))]) X Y (c_borneOf l G M4 (sA S (2000 + 100 * k)) (2000 + 100 * k) (sL S k) (hLa k (by omega)).1 (clY (sC S i)) hy ((yl k) (clY (sC S i)))) rfl rfl gw_X1_63 dsc_X5_borneOf (hLa k (by omega)).1.1 rfl rfl rfl rfl hl.1 (Nat.le_of_ble_eq_true rfl) ⟨Nat.le_of_ble_eq_true rfl, Nat.le_of_ble_eq_true rfl⟩ ⟨Nat.le_of_ble_eq_true rfl, Nat.le_of_ble_eq_true rfl⟩ dX1_cede_133 (fun H locs Y => ?_)
          refine lv_isub hx hb dX1_cede_136 ?_
          refine h_iast X Y (i := k) (hbr i (by omega)) (by omega) (by decide) dX1_cede_137 (fun H locs Y => ?_)
          obtain ⟨hV, hS, hq⟩ := CesV.putBe hc3 i (by omega) (upd (be1 i) k ((lyBorne (sL S k) (clY (sC S i)) (((yl k) (clY (sC S i))) + x0)) - (lyBorne (sL S k) (clY (sC S i)) ((yl k) (clY (sC S i)))))) hV hS
          have hs0 := hs0.tr hq
          generalize hup M4 _ _ = M5 at Y hV hS hq hs0
          refine lv_iinc (v := nI (k + 1)) (lv' := [(4, .int (nI (k + 1))), (7, .int ((yl k) (clY (sC S i)))), (6, .int x0), (5, .ref (sA S (2000 + 100 * k))), (0, .ref (sA S (100 * (cx + 1)))), (1, .int (nI i)), (2, .int mu), (3, .ref (sA S (1000 + 10 * i)))]) hx hb dX1_cede_138 hl (k := 7) rfl (nI_1 k) (by decide) rfl (fun ls hl => ?_)
          refine lv_goto (tgt := 17) hx hb dX1_cede_141 (by decide) ?_
          refine ih (k + 1) (by omega) (by omega) M5 _ _ hS hV hs0 ?_ ?_ ?_ _ _ _ Y (lv_sub hl [4, 5, 6, 7, 0] rfl)
          · intro j hj; rw [va_up_ne _ _ hj]; exact hbo1 j hj
          · intro j hj
            rw [va_up_self]
            show upd _ _ _ j = va_up (pB S mu (clY (sC S i)) (clI (sC S i) 0) (am i) (fun k => yl k (clY (sC S i))) k) k _ j
            by_cases e : j = k
            · subst e; rw [va_up_self]; simp only [upd, if_true]; rw [hloss]
            · rw [va_up_ne _ _ e]; simp only [upd, if_neg e]; exact hb1 j (by omega)
          · intro j hj
            by_cases e : j = k
            · subst e; simp only [upd, if_true]; exact hloss
            · simp only [upd, if_neg e]; exact hl1 j (by omega)
  exact loop (sN S + 1) 0 (by omega) (by omega) M be lo hS hV hSim.rf (fun _ _ => rfl) (fun _ z9 => absurd z9 (by omega)) (fun _ z9 => absurd z9 (by omega)) _ _ _ Y (lv_sub hl [2, 3, 4, 1, 0] rfl)
end
section
theorem pB_congr (S : hSy) (mu : Int32) (y : Nat) (line a : Int32) {yl yl' : Nat → Int32} : ∀ k, (∀ j, j < k → yl j = yl' j) → pB S mu y line a yl k = pB S mu y line a yl' k
  | 0, _ => rfl
  | k + 1, h => by
    unfold pB
    rw [pB_congr S mu y line a k (fun j hj => h j (by omega)), h k (by omega)]
theorem pYl_s (S : hSy) (mu : Int32) (am : Nat → Int32) (i k : Nat) : pYl S mu am (i + 1) k (clY (sC S i)) = pYl S mu am i k (clY (sC S i)) + pLoss S mu k (clI (sC S i) 0) (am i) (pB S mu (clY (sC S i)) (clI (sC S i) 0) (am i) (fun k => pYl S mu am i k (clY (sC S i))) k) := if_pos rfl
theorem pYl_n (S : hSy) (mu : Int32) (am : Nat → Int32) (i k y : Nat) (h : y ≠ clY (sC S i)) : pYl S mu am (i + 1) k y = pYl S mu am i k y := if_neg h
theorem gw_X1_39 : GoodIn hGW (wsV RX1 39 RX1 yX1_cede (Cond.code yX1_cede cX1_cede 8 (Option.none) :: hGW)) := hgi4 kml_X1_39 kin_X1_cede kse_X1_X1_cede_X1_cede kini_X1 kco_X1_cede
theorem dsc_X1_cede : yX1_cede.cls = RX1 ∧ yX1_cede.cls ≠ "java/lang/invoke/MethodHandle" ∧ yX1_cede.cls ≠ "java/lang/invoke/VarHandle" ∧ (parseMethodDescriptor yX1_cede.desc).map (fun d => d.parameters.length) = some 2 := ⟨rfl, by decide +kernel, by decide +kernel, by decide +kernel⟩
theorem dX1_cedeAhead_0 : decode cX1_cedeAhead 0 = .ok (.iconst 0, 1) := by decide +kernel
theorem dX1_cedeAhead_1 : decode cX1_cedeAhead 1 = .ok (.istore_n 3, 1) := by decide +kernel
theorem dX1_cedeAhead_2 : decode cX1_cedeAhead 2 = .ok (.iload_n 3, 1) := by decide +kernel
theorem dX1_cedeAhead_3 : decode cX1_cedeAhead 3 = .ok (.bipush 8, 2) := by decide +kernel
theorem dX1_cedeAhead_5 : decode cX1_cedeAhead 5 = .ok (.if_icmp .ge 35, 3) := by decide +kernel
theorem dX1_cedeAhead_8 : decode cX1_cedeAhead 8 = .ok (.iconst 0, 1) := by decide +kernel
theorem dX1_cedeAhead_9 : decode cX1_cedeAhead 9 = .ok (.istore 4, 2) := by decide +kernel
theorem dX1_cedeAhead_11 : decode cX1_cedeAhead 11 = .ok (.iload 4, 2) := by decide +kernel
theorem dX1_cedeAhead_13 : decode cX1_cedeAhead 13 = .ok (.bipush 10, 2) := by decide +kernel
theorem dX1_cedeAhead_15 : decode cX1_cedeAhead 15 = .ok (.if_icmp .ge 19, 3) := by decide +kernel
theorem dX1_cedeAhead_18 : decode cX1_cedeAhead 18 = .ok (.aload_n 0, 1) := by decide +kernel
theorem dX1_cedeAhead_19 : decode cX1_cedeAhead 19 = .ok (.getfield 20, 3) := by decide +kernel
theorem dX1_cedeAhead_22 : decode cX1_cedeAhead 22 = .ok (.iload_n 3, 1) := by decide +kernel
theorem dX1_cedeAhead_23 : decode cX1_cedeAhead 23 = .ok (.aaload, 1) := by decide +kernel
theorem dX1_cedeAhead_24 : decode cX1_cedeAhead 24 = .ok (.iload 4, 2) := by decide +kernel
theorem dX1_cedeAhead_26 : decode cX1_cedeAhead 26 = .ok (.iconst 0, 1) := by decide +kernel
theorem dX1_cedeAhead_27 : decode cX1_cedeAhead 27 = .ok (.iastore, 1) := by decide +kernel
theorem dX1_cedeAhead_28 : decode cX1_cedeAhead 28 = .ok (.iinc 4 1, 3) := by decide +kernel
theorem dX1_cedeAhead_31 : decode cX1_cedeAhead 31 = .ok (.goto (-20), 3) := by decide +kernel
theorem dX1_cedeAhead_34 : decode cX1_cedeAhead 34 = .ok (.iinc 3 1, 3) := by decide +kernel
theorem dX1_cedeAhead_37 : decode cX1_cedeAhead 37 = .ok (.goto (-35), 3) := by decide +kernel
theorem dX1_cedeAhead_40 : decode cX1_cedeAhead 40 = .ok (.iconst 0, 1) := by decide +kernel
theorem dX1_cedeAhead_41 : decode cX1_cedeAhead 41 = .ok (.istore_n 3, 1) := by decide +kernel
theorem dX1_cedeAhead_42 : decode cX1_cedeAhead 42 = .ok (.iload_n 3, 1) := by decide +kernel
theorem dX1_cedeAhead_43 : decode cX1_cedeAhead 43 = .ok (.iload_n 1, 1) := by decide +kernel
theorem dX1_cedeAhead_44 : decode cX1_cedeAhead 44 = .ok (.if_icmp .ge 89, 3) := by decide +kernel
theorem dX1_cedeAhead_47 : decode cX1_cedeAhead 47 = .ok (.iload_n 3, 1) := by decide +kernel
theorem dX1_cedeAhead_48 : decode cX1_cedeAhead 48 = .ok (.aload_n 0, 1) := by decide +kernel
theorem dX1_cedeAhead_49 : decode cX1_cedeAhead 49 = .ok (.getfield 30, 3) := by decide +kernel
theorem dX1_cedeAhead_52 : decode cX1_cedeAhead 52 = .ok (.invokeinterface 33 1, 5) := by decide +kernel
theorem dX1_cedeAhead_57 : decode cX1_cedeAhead 57 = .ok (.if_icmp .ge 76, 3) := by decide +kernel
theorem dX1_cedeAhead_60 : decode cX1_cedeAhead 60 = .ok (.aload_n 0, 1) := by decide +kernel
theorem dX1_cedeAhead_61 : decode cX1_cedeAhead 61 = .ok (.iload_n 3, 1) := by decide +kernel
theorem dX1_cedeAhead_62 : decode cX1_cedeAhead 62 = .ok (.iload_n 2, 1) := by decide +kernel
theorem dX1_cedeAhead_63 : decode cX1_cedeAhead 63 = .ok (.invokevirtual 39, 3) := by decide +kernel
theorem dX1_cedeAhead_66 : decode cX1_cedeAhead 66 = .ok (.aload_n 0, 1) := by decide +kernel
theorem dX1_cedeAhead_67 : decode cX1_cedeAhead 67 = .ok (.getfield 30, 3) := by decide +kernel
theorem dX1_cedeAhead_70 : decode cX1_cedeAhead 70 = .ok (.iload_n 3, 1) := by decide +kernel
theorem dX1_cedeAhead_71 : decode cX1_cedeAhead 71 = .ok (.invokeinterface 43 2, 5) := by decide +kernel
theorem dX1_cedeAhead_76 : decode cX1_cedeAhead 76 = .ok (.checkcast 47, 3) := by decide +kernel
theorem dX1_cedeAhead_79 : decode cX1_cedeAhead 79 = .ok (.getfield 49, 3) := by decide +kernel
theorem dX1_cedeAhead_82 : decode cX1_cedeAhead 82 = .ok (.istore 4, 2) := by decide +kernel
theorem dX1_cedeAhead_84 : decode cX1_cedeAhead 84 = .ok (.iconst 0, 1) := by decide +kernel
theorem dX1_cedeAhead_85 : decode cX1_cedeAhead 85 = .ok (.istore 5, 2) := by decide +kernel
theorem dX1_cedeAhead_87 : decode cX1_cedeAhead 87 = .ok (.iload 5, 2) := by decide +kernel
theorem dX1_cedeAhead_89 : decode cX1_cedeAhead 89 = .ok (.aload_n 0, 1) := by decide +kernel
theorem dX1_cedeAhead_90 : decode cX1_cedeAhead 90 = .ok (.getfield 26, 3) := by decide +kernel
theorem dX1_cedeAhead_93 : decode cX1_cedeAhead 93 = .ok (.invokeinterface 33 1, 5) := by decide +kernel
theorem dX1_cedeAhead_98 : decode cX1_cedeAhead 98 = .ok (.if_icmp .ge 29, 3) := by decide +kernel
theorem dX1_cedeAhead_101 : decode cX1_cedeAhead 101 = .ok (.aload_n 0, 1) := by decide +kernel
theorem dX1_cedeAhead_102 : decode cX1_cedeAhead 102 = .ok (.getfield 20, 3) := by decide +kernel
theorem dX1_cedeAhead_105 : decode cX1_cedeAhead 105 = .ok (.iload 5, 2) := by decide +kernel
theorem dX1_cedeAhead_107 : decode cX1_cedeAhead 107 = .ok (.aaload, 1) := by decide +kernel
theorem dX1_cedeAhead_108 : decode cX1_cedeAhead 108 = .ok (.iload 4, 2) := by decide +kernel
theorem dX1_cedeAhead_110 : decode cX1_cedeAhead 110 = .ok (.dup2, 1) := by decide +kernel
theorem dX1_cedeAhead_111 : decode cX1_cedeAhead 111 = .ok (.iaload, 1) := by decide +kernel
theorem dX1_cedeAhead_112 : decode cX1_cedeAhead 112 = .ok (.aload_n 0, 1) := by decide +kernel
theorem dX1_cedeAhead_113 : decode cX1_cedeAhead 113 = .ok (.getfield 23, 3) := by decide +kernel
theorem dX1_cedeAhead_116 : decode cX1_cedeAhead 116 = .ok (.iload 5, 2) := by decide +kernel
theorem dX1_cedeAhead_118 : decode cX1_cedeAhead 118 = .ok (.iaload, 1) := by decide +kernel
theorem dX1_cedeAhead_119 : decode cX1_cedeAhead 119 = .ok (.iadd, 1) := by decide +kernel
theorem dX1_cedeAhead_120 : decode cX1_cedeAhead 120 = .ok (.iastore, 1) := by decide +kernel
theorem dX1_cedeAhead_121 : decode cX1_cedeAhead 121 = .ok (.iinc 5 1, 3) := by decide +kernel
theorem dX1_cedeAhead_124 : decode cX1_cedeAhead 124 = .ok (.goto (-37), 3) := by decide +kernel
theorem dX1_cedeAhead_127 : decode cX1_cedeAhead 127 = .ok (.iinc 3 1, 3) := by decide +kernel
theorem dX1_cedeAhead_130 : decode cX1_cedeAhead 130 = .ok (.goto (-88), 3) := by decide +kernel
theorem dX1_cedeAhead_133 : decode cX1_cedeAhead 133 = .ok (.return_, 1) := by decide +kernel
set_option maxHeartbeats 400000 in
set_option maxRecDepth 100000 in
theorem c_cedeAhead (l : Launch) (G : hG) (M : hM) (S : hSy) (hS : SyV G M S) (hG1 : SyG S) (cx : Nat) (am : Nat → Int32) (be yl : Nat → Nat → Int32) (lo : Nat → Int32) (hV : CesV G M S cx am be yl lo) (hc3 : cx < 3) (fin : Nat) (mu : Int32) (hf : fin ≤ sM S) : hCT l G yX1_cedeAhead cX1_cedeAhead 6 (Option.none) (hRm 7 0 0) M [.ref (sA S (100 * (cx + 1))), .int (nI fin), .int mu] (fun v M' => v = none ∧ ∃ be' yl' lo', CesV G M' S cx am be' yl' lo' ∧ (∀ i, i < fin → ∀ k, k < sN S → be' i k = pBe S mu am i k) ∧ (∀ k, k < sN S → ∀ y, y < 10 → yl' k y = pYl S mu am fin k y) ∧ hSim G (hS1 cx) M M') := by
  refine hCT.of (own := RX1) (nm := "cedeAhead") (by decide) rfl rfl (Nat.le_of_ble_eq_true rfl) ?_
  intro p e s m args below meth c ls X Y hl
  have hx := X.1
  have hb := X.2.1
  have hl : lv_has ls 6 [(0, .ref (sA S (100 * (cx + 1)))), (1, .int (nI fin)), (2, .int mu)] := hl
  obtain ⟨hN8, hM40, hLG, hCY⟩ := id hG1
  obtain ⟨hl13, he14, hl15, he16, hLa, hCl⟩ := id hS
  obtain ⟨mc13, hlo13⟩ := id hl13
  obtain ⟨mc15, hlo15⟩ := id hl15
  obtain ⟨ho, ham, ⟨fb, hfb, hbo⟩, hbr, ⟨fy, hfy, hyo⟩, hyr, hlo⟩ := id hV
  refine lv_iconst (v := 0) hx hb dX1_cedeAhead_0 (by decide) ?_
  refine lv_istore_n (lv' := [(3, .int 0), (0, .ref (sA S (100 * (cx + 1)))), (1, .int (nI fin)), (2, .int mu)]) hx hb dX1_cedeAhead_1 rfl hl (by decide) rfl (fun ls hl => ?_)
  have loop : ∀ (d k : Nat), k + d = 9 → k ≤ 8 → ∀ (M1 : hM) (yl1 : Nat → Nat → Int32), SyV G M1 S → CesV G M1 S cx am be yl1 lo → hSim G (hS1 cx) M M1 → (∀ j, j < k → ∀ y, y < 10 → yl1 j y = 0) → ∀ (H : Heap) (locs : List Loc) (ls : Array Slot), hHS G M1 s H locs → lv_has ls 6 [(0, .ref (sA S (100 * (cx + 1)))), (1, .int (nI fin)), (2, .int mu), (3, .int (nI k))] → W p l e (hRm 7 0 0) s m args below meth c H locs 0 0 (MQ below (hQ G (fun v M' => v = none ∧ ∃ be' yl' lo', CesV G M' S cx am be' yl' lo' ∧ (∀ i, i < fin → ∀ k, k < sN S → be' i k = pBe S mu am i k) ∧ (∀ k, k < sN S → ∀ y, y < 10 → yl' k y = pYl S mu am fin k y) ∧ hSim G (hS1 cx) M M')) args s 0 0 (hA G)) (F0 m 2 ls []) := by
    intro d
    induction d with
    | zero => intro k h1; intros; exact absurd h1 (by omega)
    | succ d ih =>
      intro k h1 h2 M1 yl1 hS hV hs0 hz1 H locs ls Y hl
      obtain ⟨hl13, he14, hl15, he16, hLa, hCl⟩ := id hS
      obtain ⟨mc13, hlo13⟩ := id hl13
      obtain ⟨mc15, hlo15⟩ := id hl15
      obtain ⟨ho, ham, ⟨fb, hfb, hbo⟩, hbr, ⟨fy, hfy, hyo⟩, hyr, hlo⟩ := id hV
      refine lv_iload_n hx hb dX1_cedeAhead_2 rfl (lv_at hl 3 rfl) ?_
      refine lv_bipush (v := 8) hx hb dX1_cedeAhead_3 (by decide) ?_
      refine lv_icmp_ge (tgt := 40) hx hb dX1_cedeAhead_5 (by decide) (fun c5 => ?_) (fun c5 => ?_)
      · have c5 : 8 ≤ k := (nI_leI (a := 8) (b := k) (by omega) (by omega)).mp c5
        have hk9 : k = 8 := by omega
        subst hk9
        refine lv_iconst (v := 0) hx hb dX1_cedeAhead_40 (by decide) ?_
        refine lv_istore_n (lv' := [(3, .int 0), (0, .ref (sA S (100 * (cx + 1)))), (1, .int (nI fin)), (2, .int mu)]) hx hb dX1_cedeAhead_41 rfl hl (by decide) rfl (fun ls hl => ?_)
        have loop3 : ∀ (d i : Nat), i + d = fin + 1 → i ≤ fin → ∀ (M3 : hM) (be3 yl3 : Nat → Nat → Int32) (lo3 : Nat → Int32), SyV G M3 S → CesV G M3 S cx am be3 yl3 lo3 → hSim G (hS1 cx) M M3 → (∀ j, j < i → ∀ k, k < sN S → be3 j k = pBe S mu am j k) → (∀ k, k < sN S → ∀ y, y < 10 → yl3 k y = pYl S mu am i k y) → ∀ (H : Heap) (locs : List Loc) (ls : Array Slot), hHS G M3 s H locs → lv_has ls 6 [(0, .ref (sA S (100 * (cx + 1)))), (1, .int (nI fin)), (2, .int mu), (3, .int (nI i))] → W p l e (hRm 7 0 0) s m args below meth c H locs 0 0 (MQ below (hQ G (fun v M' => v = none ∧ ∃ be' yl' lo', CesV G M' S cx am be' yl' lo' ∧ (∀ i, i < fin → ∀ k, k < sN S → be' i k = pBe S mu am i k) ∧ (∀ k, k < sN S → ∀ y, y < 10 → yl' k y = pYl S mu am fin k y) ∧ hSim G (hS1 cx) M M')) args s 0 0 (hA G)) (F0 m 42 ls []) := by
          intro d
          induction d with
          | zero => intro i h1; intros; exact absurd h1 (by omega)
          | succ d ih3 =>
            intro i i1 i2 M3 be3 yl3 lo3 hS hV hs0 hb3 hy3 H locs ls Y hl
            obtain ⟨hl13, he14, hl15, he16, hLa, hCl⟩ := id hS
            obtain ⟨mc13, hlo13⟩ := id hl13
            obtain ⟨mc15, hlo15⟩ := id hl15
            obtain ⟨ho, ham, ⟨fb, hfb, hbo⟩, hbr, ⟨fy, hfy, hyo⟩, hyr, hlo⟩ := id hV
            refine lv_iload_n hx hb dX1_cedeAhead_42 rfl (lv_at hl 3 rfl) ?_
            refine lv_iload_n hx hb dX1_cedeAhead_43 rfl (lv_at hl 1 rfl) ?_
            refine lv_icmp_ge (tgt := 133) hx hb dX1_cedeAhead_44 (by decide) (fun c44 => ?_) (fun c44 => ?_)
            · have c44 : fin ≤ i := (nI_leI (a := fin) (b := i) (by omega) (by omega)).mp c44
              have hk9 : fin = i := by omega
              subst hk9
              exact h_vret X Y ⟨rfl, be3, yl3, lo3, hV, hb3, hy3, hs0⟩ (Nat.le_refl _) (Nat.le_refl _) dX1_cedeAhead_133
            · have c44 : ¬ fin ≤ i := fun z9 => c44 ((nI_leI (a := fin) (b := i) (by omega) (by omega)).mpr z9)
              refine lv_iload_n hx hb dX1_cedeAhead_47 rfl (lv_at hl 3 rfl) ?_
              refine lv_aload_n hx hb dX1_cedeAhead_48 rfl (lv_at hl 0 rfl) ?_
              refine h_get X Y (k := 5) (v := .ref (sA S 15)) ho rfl hin_X1 (by decide) kfl_X1_30 rfl dX1_cedeAhead_49 ?_
              refine h_callFr (rest := [.int (nI i)]) X Y (c_size l G M3 (sA S 15) 15 (sA S 16) (sM S) hl15) rfl rfl (hFw_Jx4a65c_size_8abf5 X) gw_X1_33 dsi_Jx4a65c_size_8abf5 hlo15 rfl rfl rfl rfl hl.1 (Nat.le_of_ble_eq_true rfl) ⟨Nat.le_of_ble_eq_true rfl, Nat.le_of_ble_eq_true rfl⟩ ⟨Nat.le_of_ble_eq_true rfl, Nat.le_of_ble_eq_true rfl⟩ dX1_cedeAhead_52 (fun H locs Y => ?_)
              refine lv_icmp_ge (tgt := 133) hx hb dX1_cedeAhead_57 (by decide) (fun c57 => absurd (show (sM S) ≤ i from (nI_leI (a := (sM S)) (b := i) (by omega) (by omega)).mp c57) (by omega)) (fun c57 => ?_)
              have c57 : ¬ (sM S) ≤ i := fun z9 => c57 ((nI_leI (a := (sM S)) (b := i) (by omega) (by omega)).mpr z9)
              refine lv_aload_n hx hb dX1_cedeAhead_60 rfl (lv_at hl 0 rfl) ?_
              refine lv_iload_n hx hb dX1_cedeAhead_61 rfl (lv_at hl 3 rfl) ?_
              refine lv_iload_n hx hb dX1_cedeAhead_62 rfl (lv_at hl 2 rfl) ?_
              refine h_callV (rest := []) X Y (c_cede l G M3 S hS hG1 cx am be3 yl3 lo3 hV hc3 i mu (by omega)) gw_X1_39 dsc_X1_cede ho rfl rfl rfl hl.1 rfl (Nat.le_of_ble_eq_true rfl) ⟨Nat.le_of_ble_eq_true rfl, Nat.le_of_ble_eq_true rfl⟩ ⟨Nat.le_of_ble_eq_true rfl, Nat.le_of_ble_eq_true rfl⟩ dX1_cedeAhead_63 ?_
              rintro _ M1 H locs ⟨rfl, hpost⟩ Y
              try dsimp only [Option.toList, List.nil_append]
              obtain ⟨be4, lo4, hV, hbx, hbi, hli, hq⟩ := hpost
              have hs0 := hs0.tr hq
              have hS := hS.sim hq (hS1_scr hc3)
              obtain ⟨hl13, he14, hl15, he16, hLa, hCl⟩ := id hS
              obtain ⟨mc13, hlo13⟩ := id hl13
              obtain ⟨mc15, hlo15⟩ := id hl15
              obtain ⟨ho, ham, ⟨fb, hfb, hbo⟩, hbr, ⟨fy, hfy, hyo⟩, hyr, hlo⟩ := id hV
              have hcy := hCY i (by omega)
              have hyq : ∀ j, j < sN S → (fun k => yl3 k (clY (sC S i))) j = (fun k => pYl S mu am i k (clY (sC S i))) j := fun j hj => hy3 j hj _ hcy
              have hb4 : ∀ j, j < i + 1 → ∀ k, k < sN S → be4 j k = pBe S mu am j k := by
                intro j hj k hk
                by_cases e : j = i
                · subst e; rw [hbi k hk]; exact congrFun (pB_congr S mu _ _ _ (sN S) hyq) k
                · rw [hbx j e]; exact hb3 j (by omega) k hk
              have hl4 : ∀ j, j < sN S → lo4 j = pLoss S mu j (clI (sC S i) 0) (am i) (pB S mu (clY (sC S i)) (clI (sC S i) 0) (am i) (fun k => pYl S mu am i k (clY (sC S i))) j) := by
                intro j hj
                rw [hli j hj, pB_congr S mu _ _ _ j (fun z hz => hyq z (by omega))]
              refine lv_aload_n hx hb dX1_cedeAhead_66 rfl (lv_at hl 0 rfl) ?_
              refine h_get X Y (k := 5) (v := .ref (sA S 15)) ho rfl hin_X1 (by decide) kfl_X1_30 rfl dX1_cedeAhead_67 ?_
              refine lv_iload_n hx hb dX1_cedeAhead_70 rfl (lv_at hl 3 rfl) ?_
              refine h_callFr (rest := []) X Y (c_get l G M1 (sA S 15) 15 (sA S 16) 16 (sM S) i (fun i => sA S (1000 + 10 * i)) hl15 (he16 (by omega)) (by omega)) rfl rfl (hFw_Jx4a65c_get_915e3 X) gw_X1_43 dsi_Jx4a65c_get_915e3 hlo15 rfl rfl rfl rfl hl.1 (Nat.le_of_ble_eq_true rfl) ⟨Nat.le_of_ble_eq_true rfl, Nat.le_of_ble_eq_true rfl⟩ ⟨Nat.le_of_ble_eq_true rfl, Nat.le_of_ble_eq_true rfl⟩ dX1_cedeAhead_71 (fun H locs Y => ?_)
              refine h_cast X Y (hCl i (by omega)).1 rfl rfl kcl_X1_47 dX1_cedeAhead_76 ?_
              refine h_get X Y (k := 0) (v := .int (nI (clY (sC S i)))) (hCl i (by omega)).1 rfl hin_X3 (by decide) kfl_X1_49 rfl dX1_cedeAhead_79 ?_
              refine lv_istore (lv' := [(4, .int (nI (clY (sC S i)))), (0, .ref (sA S (100 * (cx + 1)))), (1, .int (nI fin)), (2, .int mu), (3, .int (nI i))]) hx hb dX1_cedeAhead_82 hl (by decide) rfl (fun ls hl => ?_)
              refine lv_iconst (v := 0) hx hb dX1_cedeAhead_84 (by decide) ?_
              refine lv_istore (lv' := [(5, .int 0), (4, .int (nI (clY (sC S i)))), (0, .ref (sA S (100 * (cx + 1)))), (1, .int (nI fin)), (2, .int mu), (3, .int (nI i))]) hx hb dX1_cedeAhead_85 hl (by decide) rfl (fun ls hl => ?_)
              have loop4 : ∀ (d k : Nat), k + d = sN S + 1 → k ≤ sN S → ∀ (M5 : hM) (yl5 : Nat → Nat → Int32), SyV G M5 S → CesV G M5 S cx am be4 yl5 lo4 → hSim G (hS1 cx) M M5 → (∀ j, j < sN S → ∀ y, y < 10 → yl5 j y = (if y = clY (sC S i) ∧ j < k then pYl S mu am (i + 1) j y else pYl S mu am i j y)) → ∀ (H : Heap) (locs : List Loc) (ls : Array Slot), hHS G M5 s H locs → lv_has ls 6 [(0, .ref (sA S (100 * (cx + 1)))), (1, .int (nI fin)), (2, .int mu), (3, .int (nI i)), (4, .int (nI (clY (sC S i)))), (5, .int (nI k))] → W p l e (hRm 7 0 0) s m args below meth c H locs 0 0 (MQ below (hQ G (fun v M' => v = none ∧ ∃ be' yl' lo', CesV G M' S cx am be' yl' lo' ∧ (∀ i, i < fin → ∀ k, k < sN S → be' i k = pBe S mu am i k) ∧ (∀ k, k < sN S → ∀ y, y < 10 → yl' k y = pYl S mu am fin k y) ∧ hSim G (hS1 cx) M M')) args s 0 0 (hA G)) (F0 m 87 ls []) := by
                intro d
                induction d with
                | zero => intro k h1; intros; exact absurd h1 (by omega)
                | succ d ih4 =>
                  intro k k1 k2 M5 yl5 hS hV hs0 hy5 H locs ls Y hl
                  obtain ⟨hl13, he14, hl15, he16, hLa, hCl⟩ := id hS
                  obtain ⟨mc13, hlo13⟩ := id hl13
                  obtain ⟨mc15, hlo15⟩ := id hl15
                  obtain ⟨ho, ham, ⟨fb, hfb, hbo⟩, hbr, ⟨fy, hfy, hyo⟩, hyr, hlo⟩ := id hV
                  refine lv_iload hx hb dX1_cedeAhead_87 (lv_at hl 5 rfl) ?_
                  refine lv_aload_n hx hb dX1_cedeAhead_89 rfl (lv_at hl 0 rfl) ?_
                  refine h_get X Y (k := 4) (v := .ref (sA S 13)) ho rfl hin_X1 (by decide) kfl_X1_26 rfl dX1_cedeAhead_90 ?_
                  refine h_callFr (rest := [.int (nI k)]) X Y (c_size l G M5 (sA S 13) 13 (sA S 14) (sN S) hl13) rfl rfl (hFw_Jx4a65c_size_8abf5 X) gw_X1_33 dsi_Jx4a65c_size_8abf5 hlo13 rfl rfl rfl rfl hl.1 (Nat.le_of_ble_eq_true rfl) ⟨Nat.le_of_ble_eq_true rfl, Nat.le_of_ble_eq_true rfl⟩ ⟨Nat.le_of_ble_eq_true rfl, Nat.le_of_ble_eq_true rfl⟩ dX1_cedeAhead_93 (fun H locs Y => ?_)
                  refine lv_icmp_ge (tgt := 127) hx hb dX1_cedeAhead_98 (by decide) (fun c98 => ?_) (fun c98 => ?_)
                  · have c98 : (sN S) ≤ k := (nI_leI (a := (sN S)) (b := k) (by omega) (by omega)).mp c98
                    have hk9 : k = (sN S) := by omega
                    subst hk9
                    have hy5 : ∀ k, k < sN S → ∀ y, y < 10 → yl5 k y = pYl S mu am (i + 1) k y := by
                      intro j hj y hy
                      rw [hy5 j hj y hy]
                      by_cases ey : y = clY (sC S i)
                      · rw [if_pos ⟨ey, hj⟩]
                      · rw [if_neg (fun z9 => ey z9.1), pYl_n S mu am i j y ey]
                    refine lv_iinc (v := nI (i + 1)) (lv' := [(3, .int (nI (i + 1))), (0, .ref (sA S (100 * (cx + 1)))), (1, .int (nI fin)), (2, .int mu), (4, .int (nI (clY (sC S i)))), (5, .int (nI (sN S)))]) hx hb dX1_cedeAhead_127 hl (k := 3) rfl (nI_1 i) (by decide) rfl (fun ls hl => ?_)
                    refine lv_goto (tgt := 42) hx hb dX1_cedeAhead_130 (by decide) ?_
                    exact ih3 (i + 1) (by omega) (by omega) M5 _ _ _ hS hV hs0 hb4 hy5 _ _ _ Y (lv_sub hl [1, 2, 3, 0] rfl)
                  · have c98 : ¬ (sN S) ≤ k := fun z9 => c98 ((nI_leI (a := (sN S)) (b := k) (by omega) (by omega)).mpr z9)
                    refine lv_aload_n hx hb dX1_cedeAhead_101 rfl (lv_at hl 0 rfl) ?_
                    refine h_get X Y (k := 2) (v := .ref (sA S (100 * (cx + 1) + 3))) ho rfl hin_X1 (by decide) kfl_X1_20 rfl dX1_cedeAhead_102 ?_
                    refine lv_iload hx hb dX1_cedeAhead_105 (lv_at hl 5 rfl) ?_
                    refine h_aaldI X Y (i := k) hyo (by omega) (by decide) dX1_cedeAhead_107 ?_
                    refine h_rf (hfy k (by omega)) ?_
                    refine lv_iload hx hb dX1_cedeAhead_108 (lv_at hl 4 rfl) ?_
                    refine lv_dup2_11 hx hb dX1_cedeAhead_110 rfl rfl ?_
                    refine h_iald X Y (i := (clY (sC S i))) (hyr k (by omega)) (by omega) (by decide) dX1_cedeAhead_111 ?_
                    refine lv_aload_n hx hb dX1_cedeAhead_112 rfl (lv_at hl 0 rfl) ?_
                    refine h_get X Y (k := 3) (v := .ref (sA S (100 * (cx + 1) + 4))) ho rfl hin_X1 (by decide) kfl_X1_23 rfl dX1_cedeAhead_113 ?_
                    refine lv_iload hx hb dX1_cedeAhead_116 (lv_at hl 5 rfl) ?_
                    refine h_iald X Y (i := k) hlo (by omega) (by decide) dX1_cedeAhead_118 ?_
                    refine lv_iadd hx hb dX1_cedeAhead_119 ?_
                    refine h_iast X Y (i := (clY (sC S i))) (hyr k (by omega)) (by omega) (by decide) dX1_cedeAhead_120 (fun H locs Y => ?_)
                    obtain ⟨hV, hS, hq⟩ := CesV.putYl hc3 k (by omega) (upd (yl5 k) (clY (sC S i)) (((yl5 k) (clY (sC S i))) + (lo4 k))) hV hS
                    have hs0 := hs0.tr hq
                    generalize hup M5 _ _ = M2 at Y hV hS hq hs0
                    refine lv_iinc (v := nI (k + 1)) (lv' := [(5, .int (nI (k + 1))), (0, .ref (sA S (100 * (cx + 1)))), (1, .int (nI fin)), (2, .int mu), (3, .int (nI i)), (4, .int (nI (clY (sC S i))))]) hx hb dX1_cedeAhead_121 hl (k := 5) rfl (nI_1 k) (by decide) rfl (fun ls hl => ?_)
                    refine lv_goto (tgt := 87) hx hb dX1_cedeAhead_124 (by decide) ?_
                    refine ih4 (k + 1) (by omega) (by omega) M2 _ hS hV hs0 ?_ _ _ _ Y (lv_sub hl [1, 2, 3, 4, 5, 0] rfl)
                    intro j hj y hy
                    by_cases e : j = k
                    · subst e
                      rw [va_up_self]
                      by_cases ey : y = clY (sC S i)
                      · subst ey
                        rw [pk_us, if_pos ⟨rfl, by omega⟩, pYl_s, hy5 j hj _ hy, if_neg (fun z9 => absurd z9.2 (by omega)), hl4 j hj]
                      · rw [pk_un ey, hy5 j hj y hy, if_neg (fun z9 => ey z9.1), if_neg (fun z9 => ey z9.1)]
                    · rw [va_up_ne _ _ e, hy5 j hj y hy]
                      by_cases ey : y = clY (sC S i)
                      · by_cases ek : j < k
                        · rw [if_pos ⟨ey, ek⟩, if_pos ⟨ey, by omega⟩]
                        · rw [if_neg (fun z9 => ek z9.2), if_neg (fun z9 => absurd z9.2 (by omega))]
                      · rw [if_neg (fun z9 => ey z9.1), if_neg (fun z9 => ey z9.1)]
              exact loop4 (sN S + 1) 0 (by omega) (by omega) _ yl3 hS hV hs0 (fun j hj y hy => (hy3 j hj y hy).trans (if_neg (fun z9 => absurd z9.2 (by omega))).symm) _ _ _ Y (lv_sub hl [2, 3, 4, 5, 1, 0] rfl)
        exact loop3 (fin + 1) 0 (by omega) (by omega) M1 be yl1 lo hS hV hs0 (fun _ z9 => absurd z9 (by omega)) (fun k hk y hy => hz1 k (by omega) y hy) _ _ _ Y (lv_sub hl [1, 2, 3, 0] rfl)
      · have c5 : ¬ 8 ≤ k := fun z9 => c5 ((nI_leI (a := 8) (b := k) (by omega) (by omega)).mpr z9)
        refine lv_iconst (v := 0) hx hb dX1_cedeAhead_8 (by decide) ?_
        refine lv_istore (lv' := [(4, .int 0), (0, .ref (sA S (100 * (cx + 1)))), (1, .int (nI fin)), (2, .int mu), (3, .int (nI k))]) hx hb dX1_cedeAhead_9 hl (by decide) rfl (fun ls hl => ?_)
        have loop2 : ∀ (d y : Nat), y + d = 11 → y ≤ 10 → ∀ (M2 : hM) (yl2 : Nat → Nat → Int32), SyV G M2 S → CesV G M2 S cx am be yl2 lo → hSim G (hS1 cx) M M2 → (∀ z, z < y → yl2 k z = 0) → (∀ j, j ≠ k → yl2 j = yl1 j) → ∀ (H : Heap) (locs : List Loc) (ls : Array Slot), hHS G M2 s H locs → lv_has ls 6 [(0, .ref (sA S (100 * (cx + 1)))), (1, .int (nI fin)), (2, .int mu), (3, .int (nI k)), (4, .int (nI y))] → W p l e (hRm 7 0 0) s m args below meth c H locs 0 0 (MQ below (hQ G (fun v M' => v = none ∧ ∃ be' yl' lo', CesV G M' S cx am be' yl' lo' ∧ (∀ i, i < fin → ∀ k, k < sN S → be' i k = pBe S mu am i k) ∧ (∀ k, k < sN S → ∀ y, y < 10 → yl' k y = pYl S mu am fin k y) ∧ hSim G (hS1 cx) M M')) args s 0 0 (hA G)) (F0 m 11 ls []) := by
          intro d
          induction d with
          | zero => intro y h1; intros; exact absurd h1 (by omega)
          | succ d ih2 =>
            intro y g1 g2 M2 yl2 hS hV hs0 hz2 hz3 H locs ls Y hl
            obtain ⟨hl13, he14, hl15, he16, hLa, hCl⟩ := id hS
            obtain ⟨mc13, hlo13⟩ := id hl13
            obtain ⟨mc15, hlo15⟩ := id hl15
            obtain ⟨ho, ham, ⟨fb, hfb, hbo⟩, hbr, ⟨fy, hfy, hyo⟩, hyr, hlo⟩ := id hV
            refine lv_iload hx hb dX1_cedeAhead_11 (lv_at hl 4 rfl) ?_
            refine lv_bipush (v := 10) hx hb dX1_cedeAhead_13 (by decide) ?_
            refine lv_icmp_ge (tgt := 34) hx hb dX1_cedeAhead_15 (by decide) (fun c15 => ?_) (fun c15 => ?_)
            · have c15 : 10 ≤ y := (nI_leI (a := 10) (b := y) (by omega) (by omega)).mp c15
              have hk9 : y = 10 := by omega
              subst hk9
              refine lv_iinc (v := nI (k + 1)) (lv' := [(3, .int (nI (k + 1))), (0, .ref (sA S (100 * (cx + 1)))), (1, .int (nI fin)), (2, .int mu), (4, .int (nI 10))]) hx hb dX1_cedeAhead_34 hl (k := 3) rfl (nI_1 k) (by decide) rfl (fun ls hl => ?_)
              refine lv_goto (tgt := 2) hx hb dX1_cedeAhead_37 (by decide) ?_
              refine ih (k + 1) (by omega) (by omega) M2 _ hS hV hs0 ?_ _ _ _ Y (lv_sub hl [1, 2, 3, 0] rfl)
              intro j hj z hz
              by_cases e : j = k
              · subst e; exact hz2 z hz
              · rw [hz3 j e]; exact hz1 j (by omega) z hz
            · have c15 : ¬ 10 ≤ y := fun z9 => c15 ((nI_leI (a := 10) (b := y) (by omega) (by omega)).mpr z9)
              refine lv_aload_n hx hb dX1_cedeAhead_18 rfl (lv_at hl 0 rfl) ?_
              refine h_get X Y (k := 2) (v := .ref (sA S (100 * (cx + 1) + 3))) ho rfl hin_X1 (by decide) kfl_X1_20 rfl dX1_cedeAhead_19 ?_
              refine lv_iload_n hx hb dX1_cedeAhead_22 rfl (lv_at hl 3 rfl) ?_
              refine h_aaldI X Y (i := k) hyo (by omega) (by decide) dX1_cedeAhead_23 ?_
              refine h_rf (hfy k (by omega)) ?_
              refine lv_iload hx hb dX1_cedeAhead_24 (lv_at hl 4 rfl) ?_
              refine lv_iconst (v := 0) hx hb dX1_cedeAhead_26 (by decide) ?_
              refine h_iast X Y (i := y) (hyr k (by omega)) (by omega) (by decide) dX1_cedeAhead_27 (fun H locs Y => ?_)
              obtain ⟨hV, hS, hq⟩ := CesV.putYl hc3 k (by omega) (upd (yl2 k) y 0) hV hS
              have hs0 := hs0.tr hq
              generalize hup M2 _ _ = M3 at Y hV hS hq hs0
              refine lv_iinc (v := nI (y + 1)) (lv' := [(4, .int (nI (y + 1))), (0, .ref (sA S (100 * (cx + 1)))), (1, .int (nI fin)), (2, .int mu), (3, .int (nI k))]) hx hb dX1_cedeAhead_28 hl (k := 4) rfl (nI_1 y) (by decide) rfl (fun ls hl => ?_)
              refine lv_goto (tgt := 11) hx hb dX1_cedeAhead_31 (by decide) ?_
              refine ih2 (y + 1) (by omega) (by omega) M3 _ hS hV hs0 ?_ ?_ _ _ _ Y (lv_sub hl [1, 2, 3, 4, 0] rfl)
              · intro z hz
                rw [va_up_self]
                by_cases e : z = y
                · subst e; exact pk_us
                · simp only [upd, if_neg e]; exact hz2 z (by omega)
              · intro j hj; rw [va_up_ne _ _ hj]; exact hz3 j hj
        exact loop2 11 0 (by omega) (by omega) M1 yl1 hS hV hs0 (fun _ z9 => absurd z9 (by omega)) (fun _ _ => rfl) _ _ _ Y (lv_sub hl [1, 2, 3, 4, 0] rfl)
  exact loop 9 0 (by omega) (by omega) M yl hS hV hSim.rf (fun _ z9 => absurd z9 (by omega)) _ _ _ Y (lv_sub hl [1, 2, 3, 0] rfl)
end
section
-- TRIANGLES
def hS2 (j u : Nat) : Prop := 400 + 20 * j ≤ u ∧ u < 400 + 20 * j + 20
def TrV (G : hG) (M : hM) (S : hSy) (j : Nat) (ce : Nat → Nat → Int32) (nw : Int32) : Prop := M (sA S (400 + 20 * j)) = some (400 + 20 * j, .inr (11, [.ref (sA S (400 + 20 * j + 1)), .int nw]))
  ∧ (∃ f : Nat → Option Nat, (∀ i, i < 10 → f i = some (sA S (400 + 20 * j + 2 + i))) ∧ M (sA S (400 + 20 * j + 1)) = some (400 + 20 * j + 1, .inl (hT G 5, 10, .inr (.inr (.inr (.inr f))))))
  ∧ ∀ i, i < 10 → M (sA S (400 + 20 * j + 2 + i)) = some (400 + 20 * j + 2 + i, .inl (hT G 0, 10, .inl (ce i)))
theorem hS2_scr {j : Nat} (hj : j < 4) : ∀ u, hS2 j u → hScr u := fun u h => by unfold hS2 at h; exact Or.inr (by omega)
theorem hS2_ces {j cx : Nat} (hc : cx < 3) : ∀ u, hS2 j u → ¬ (100 * (cx + 1) ≤ u ∧ u < 100 * (cx + 1) + 100) := fun u h => by unfold hS2 at h; omega
theorem hS2_tri {i j : Nat} (hne : i ≠ j) : ∀ u, hS2 i u → ¬ hS2 j u := fun u h => by unfold hS2 at h ⊢; omega
theorem hS1_tri {cx j : Nat} (hc : cx < 3) : ∀ u, hS1 cx u → ¬ hS2 j u ∨ 2000 ≤ u := fun u h => by unfold hS1 hS0 at h; unfold hS2; omega
theorem TrV.sim {G : hG} {Z : Nat → Prop} {M M' : hM} {S : hSy} {j : Nat} {ce : Nat → Nat → Int32} {nw : Int32} (h : hSim G Z M M') (hs : ∀ u, hS2 j u → ¬ Z u) (hV : TrV G M S j ce nw) : TrV G M' S j ce nw := by
  obtain ⟨h1, ⟨f, h2, h3⟩, h4⟩ := hV
  exact ⟨h.keep h1 (hs _ (by unfold hS2; omega)), ⟨f, h2, h.oth h3⟩, fun i hi => h.keep (h4 i hi) (hs _ (by unfold hS2; omega))⟩
theorem TrV.putRow {G : hG} {M : hM} {S : hSy} {j : Nat} {ce : Nat → Nat → Int32} {nw : Int32} (hj : j < 4) (i : Nat) (hi : i < 10) (b : Nat → Int32) (hV : TrV G M S j ce nw) (hS : SyV G M S) : TrV G (hup M (sA S (400 + 20 * j + 2 + i)) (400 + 20 * j + 2 + i, .inl (hT G 0, 10, .inl b))) S j (va_up ce i b) nw ∧ SyV G (hup M (sA S (400 + 20 * j + 2 + i)) (400 + 20 * j + 2 + i, .inl (hT G 0, 10, .inl b))) S ∧ hSim G (hS2 j) M (hup M (sA S (400 + 20 * j + 2 + i)) (400 + 20 * j + 2 + i, .inl (hT G 0, 10, .inl b))) := by
  obtain ⟨h1, ⟨f, h2, h3⟩, h4⟩ := hV
  have hq : hSim G (hS2 j) M (hup M (sA S (400 + 20 * j + 2 + i)) (400 + 20 * j + 2 + i, .inl (hT G 0, 10, .inl b))) := hSim.put (h4 i hi) (by unfold hS2; omega)
  refine ⟨⟨hup_tag h1 (h4 i hi) (by omega), ⟨f, h2, hup_tag h3 (h4 i hi) (by omega)⟩, fun k hk => ?_⟩, hS.sim hq (hS2_scr hj), hq⟩
  by_cases e : k = i
  · subst e; rw [va_up_self]; exact hup_eq
  · rw [va_up_ne _ _ e]; exact hup_tag (h4 k hk) (h4 i hi) (by omega)
theorem TrV.putNow {G : hG} {M : hM} {S : hSy} {j : Nat} {ce : Nat → Nat → Int32} {nw : Int32} (hj : j < 4) (v : Int32) (hV : TrV G M S j ce nw) (hS : SyV G M S) : TrV G (hup M (sA S (400 + 20 * j)) (400 + 20 * j, .inr (11, [.ref (sA S (400 + 20 * j + 1)), .int v]))) S j ce v ∧ SyV G (hup M (sA S (400 + 20 * j)) (400 + 20 * j, .inr (11, [.ref (sA S (400 + 20 * j + 1)), .int v]))) S ∧ hSim G (hS2 j) M (hup M (sA S (400 + 20 * j)) (400 + 20 * j, .inr (11, [.ref (sA S (400 + 20 * j + 1)), .int v]))) := by
  obtain ⟨h1, ⟨f, h2, h3⟩, h4⟩ := hV
  have hq : hSim G (hS2 j) M (hup M (sA S (400 + 20 * j)) (400 + 20 * j, .inr (11, [.ref (sA S (400 + 20 * j + 1)), .int v]))) := hSim.putT h1 (by unfold hS2; omega)
  exact ⟨⟨hup_eq, ⟨f, h2, hup_tag h3 h1 (by omega)⟩, fun k hk => hup_tag (h4 k hk) h1 (by omega)⟩, hS.sim hq (hS2_scr hj), hq⟩
def rSumL (f : Nat → Int32) : Nat → Int64
  | 0 => 0
  | n + 1 => rSumL f n + (f n).toInt64
def trFac (ce : Nat → Nat → Int32) (nw age : Nat) : Int32 := if rSumL (fun y => ce y age) (nw - age) = 0 then 1000 else (sMinL (rSumL (fun y => ce y (age + 1)) (nw - age) * 1000 / rSumL (fun y => ce y age) (nw - age)) 1000000).toInt32
def trG (ce : Nat → Nat → Int32) (nw a0 : Nat) (z : Int64) : Nat → Int64
  | 0 => z
  | j + 1 => sMinL (trG ce nw a0 z j * (trFac ce nw (a0 + j)).toInt64 / 1000) 2000000000
def trGrown (ce : Nat → Nat → Int32) (nw : Nat) (z : Int64) (y : Nat) (tail : Int32) : Int32 := (sMinL (trG ce nw (nw - y) z (9 - (nw - y)) * tail.toInt64 / 1000) 2000000000).toInt32
theorem dX10_nowOf_0 : decode cX10_nowOf 0 = .ok (.aload_n 0, 1) := by decide +kernel
theorem dX10_nowOf_1 : decode cX10_nowOf 1 = .ok (.getfield 11, 3) := by decide +kernel
theorem dX10_nowOf_4 : decode cX10_nowOf 4 = .ok (.iload_n 1, 1) := by decide +kernel
theorem dX10_nowOf_5 : decode cX10_nowOf 5 = .ok (.aaload, 1) := by decide +kernel
theorem dX10_nowOf_6 : decode cX10_nowOf 6 = .ok (.aload_n 0, 1) := by decide +kernel
theorem dX10_nowOf_7 : decode cX10_nowOf 7 = .ok (.getfield 16, 3) := by decide +kernel
theorem dX10_nowOf_10 : decode cX10_nowOf 10 = .ok (.iload_n 1, 1) := by decide +kernel
theorem dX10_nowOf_11 : decode cX10_nowOf 11 = .ok (.isub, 1) := by decide +kernel
theorem dX10_nowOf_12 : decode cX10_nowOf 12 = .ok (.iaload, 1) := by decide +kernel
theorem dX10_nowOf_13 : decode cX10_nowOf 13 = .ok (.ireturn, 1) := by decide +kernel
set_option maxHeartbeats 400000 in
set_option maxRecDepth 100000 in
theorem c_nowOf (l : Launch) (G : hG) (M : hM) (S : hSy) (j : Nat) (ce : Nat → Nat → Int32) (nw : Nat) (hV : TrV G M S j ce (nI nw)) (hn : nw < 10) (y : Nat) (hy : y ≤ nw) : hCT l G yX10_nowOf cX10_nowOf 2 (Option.some FieldType.int) (hRm 1 0 0) M [.ref (sA S (400 + 20 * j)), .int (nI y)] (hRd M (.int (ce y (nw - y)))) := by
  refine hCT.of (own := RX10) (nm := "nowOf") (by decide) rfl rfl (Nat.le_of_ble_eq_true rfl) ?_
  intro p e s m args below meth c ls X Y hl
  have hx := X.1
  have hb := X.2.1
  have hl : lv_has ls 2 [(0, .ref (sA S (400 + 20 * j))), (1, .int (nI y))] := hl
  obtain ⟨t1, ⟨ft, hft, t2⟩, t3⟩ := id hV
  refine lv_aload_n hx hb dX10_nowOf_0 rfl (lv_at hl 0 rfl) ?_
  refine h_get X Y (k := 0) (v := .ref (sA S (400 + 20 * j + 1))) t1 rfl hin_X10 (by decide) kfl_X10_11 rfl dX10_nowOf_1 ?_
  refine lv_iload_n hx hb dX10_nowOf_4 rfl (lv_at hl 1 rfl) ?_
  refine h_aaldI X Y (i := y) t2 (by omega) (by decide) dX10_nowOf_5 ?_
  refine h_rf (hft y (by omega)) ?_
  refine lv_aload_n hx hb dX10_nowOf_6 rfl (lv_at hl 0 rfl) ?_
  refine h_get X Y (k := 1) (v := .int (nI nw)) t1 rfl hin_X10 (by decide) kfl_X10_16 rfl dX10_nowOf_7 ?_
  refine lv_iload_n hx hb dX10_nowOf_10 rfl (lv_at hl 1 rfl) ?_
  refine lv_isub hx hb dX10_nowOf_11 ?_
  refine h_ev (y := nI (nw - y)) (pk_sub hy) ?_
  refine h_iald X Y (i := (nw - y)) (t3 y (by omega)) (by omega) (by decide) dX10_nowOf_12 ?_
  exact h_iret X Y ⟨rfl, rfl⟩ (Nat.le_refl _) (Nat.le_refl _) dX10_nowOf_13
theorem dX10_factorAt_0 : decode cX10_factorAt 0 = .ok (.lconst 0, 1) := by decide +kernel
theorem dX10_factorAt_1 : decode cX10_factorAt 1 = .ok (.lstore_n 2, 1) := by decide +kernel
theorem dX10_factorAt_2 : decode cX10_factorAt 2 = .ok (.lconst 0, 1) := by decide +kernel
theorem dX10_factorAt_3 : decode cX10_factorAt 3 = .ok (.lstore 4, 2) := by decide +kernel
theorem dX10_factorAt_5 : decode cX10_factorAt 5 = .ok (.iconst 0, 1) := by decide +kernel
theorem dX10_factorAt_6 : decode cX10_factorAt 6 = .ok (.istore 6, 2) := by decide +kernel
theorem dX10_factorAt_8 : decode cX10_factorAt 8 = .ok (.iload 6, 2) := by decide +kernel
theorem dX10_factorAt_10 : decode cX10_factorAt 10 = .ok (.iload_n 1, 1) := by decide +kernel
theorem dX10_factorAt_11 : decode cX10_factorAt 11 = .ok (.iadd, 1) := by decide +kernel
theorem dX10_factorAt_12 : decode cX10_factorAt 12 = .ok (.iconst 1, 1) := by decide +kernel
theorem dX10_factorAt_13 : decode cX10_factorAt 13 = .ok (.iadd, 1) := by decide +kernel
theorem dX10_factorAt_14 : decode cX10_factorAt 14 = .ok (.aload_n 0, 1) := by decide +kernel
theorem dX10_factorAt_15 : decode cX10_factorAt 15 = .ok (.getfield 16, 3) := by decide +kernel
theorem dX10_factorAt_18 : decode cX10_factorAt 18 = .ok (.if_icmp .gt 39, 3) := by decide +kernel
theorem dX10_factorAt_21 : decode cX10_factorAt 21 = .ok (.lload_n 2, 1) := by decide +kernel
theorem dX10_factorAt_22 : decode cX10_factorAt 22 = .ok (.aload_n 0, 1) := by decide +kernel
theorem dX10_factorAt_23 : decode cX10_factorAt 23 = .ok (.getfield 11, 3) := by decide +kernel
theorem dX10_factorAt_26 : decode cX10_factorAt 26 = .ok (.iload 6, 2) := by decide +kernel
theorem dX10_factorAt_28 : decode cX10_factorAt 28 = .ok (.aaload, 1) := by decide +kernel
theorem dX10_factorAt_29 : decode cX10_factorAt 29 = .ok (.iload_n 1, 1) := by decide +kernel
theorem dX10_factorAt_30 : decode cX10_factorAt 30 = .ok (.iaload, 1) := by decide +kernel
theorem dX10_factorAt_31 : decode cX10_factorAt 31 = .ok (.i2l, 1) := by decide +kernel
theorem dX10_factorAt_32 : decode cX10_factorAt 32 = .ok (.ladd, 1) := by decide +kernel
theorem dX10_factorAt_33 : decode cX10_factorAt 33 = .ok (.lstore_n 2, 1) := by decide +kernel
theorem dX10_factorAt_34 : decode cX10_factorAt 34 = .ok (.lload 4, 2) := by decide +kernel
theorem dX10_factorAt_36 : decode cX10_factorAt 36 = .ok (.aload_n 0, 1) := by decide +kernel
theorem dX10_factorAt_37 : decode cX10_factorAt 37 = .ok (.getfield 11, 3) := by decide +kernel
theorem dX10_factorAt_40 : decode cX10_factorAt 40 = .ok (.iload 6, 2) := by decide +kernel
theorem dX10_factorAt_42 : decode cX10_factorAt 42 = .ok (.aaload, 1) := by decide +kernel
theorem dX10_factorAt_43 : decode cX10_factorAt 43 = .ok (.iload_n 1, 1) := by decide +kernel
theorem dX10_factorAt_44 : decode cX10_factorAt 44 = .ok (.iconst 1, 1) := by decide +kernel
theorem dX10_factorAt_45 : decode cX10_factorAt 45 = .ok (.iadd, 1) := by decide +kernel
theorem dX10_factorAt_46 : decode cX10_factorAt 46 = .ok (.iaload, 1) := by decide +kernel
theorem dX10_factorAt_47 : decode cX10_factorAt 47 = .ok (.i2l, 1) := by decide +kernel
theorem dX10_factorAt_48 : decode cX10_factorAt 48 = .ok (.ladd, 1) := by decide +kernel
theorem dX10_factorAt_49 : decode cX10_factorAt 49 = .ok (.lstore 4, 2) := by decide +kernel
theorem dX10_factorAt_51 : decode cX10_factorAt 51 = .ok (.iinc 6 1, 3) := by decide +kernel
theorem dX10_factorAt_54 : decode cX10_factorAt 54 = .ok (.goto (-46), 3) := by decide +kernel
theorem dX10_factorAt_57 : decode cX10_factorAt 57 = .ok (.lload_n 2, 1) := by decide +kernel
theorem dX10_factorAt_58 : decode cX10_factorAt 58 = .ok (.lconst 0, 1) := by decide +kernel
theorem dX10_factorAt_59 : decode cX10_factorAt 59 = .ok (.lcmp, 1) := by decide +kernel
theorem dX10_factorAt_60 : decode cX10_factorAt 60 = .ok (.ifCond .ne 9, 3) := by decide +kernel
theorem dX10_factorAt_63 : decode cX10_factorAt 63 = .ok (.sipush 1000, 3) := by decide +kernel
theorem dX10_factorAt_66 : decode cX10_factorAt 66 = .ok (.goto 18, 3) := by decide +kernel
theorem dX10_factorAt_69 : decode cX10_factorAt 69 = .ok (.lload 4, 2) := by decide +kernel
theorem dX10_factorAt_71 : decode cX10_factorAt 71 = .ok (.ldc2_w 20, 3) := by decide +kernel
theorem dX10_factorAt_74 : decode cX10_factorAt 74 = .ok (.lmul, 1) := by decide +kernel
theorem dX10_factorAt_75 : decode cX10_factorAt 75 = .ok (.lload_n 2, 1) := by decide +kernel
theorem dX10_factorAt_76 : decode cX10_factorAt 76 = .ok (.ldiv, 1) := by decide +kernel
theorem dX10_factorAt_77 : decode cX10_factorAt 77 = .ok (.ldc2_w 22, 3) := by decide +kernel
theorem dX10_factorAt_80 : decode cX10_factorAt 80 = .ok (.invokestatic 24, 3) := by decide +kernel
theorem dX10_factorAt_83 : decode cX10_factorAt 83 = .ok (.l2i, 1) := by decide +kernel
theorem dX10_factorAt_84 : decode cX10_factorAt 84 = .ok (.ireturn, 1) := by decide +kernel
set_option maxHeartbeats 400000 in
set_option maxRecDepth 100000 in
theorem c_factorAt (l : Launch) (G : hG) (M : hM) (S : hSy) (j : Nat) (ce : Nat → Nat → Int32) (nw : Nat) (hV : TrV G M S j ce (nI nw)) (hn : nw < 10) (age : Nat) (ha : age ≤ 8) : hCT l G yX10_factorAt cX10_factorAt 7 (Option.some FieldType.int) (hRm 1 0 0) M [.ref (sA S (400 + 20 * j)), .int (nI age)] (hRd M (.int (trFac ce nw age))) := by
  refine hCT.of (own := RX10) (nm := "factorAt") (by decide) rfl rfl (Nat.le_of_ble_eq_true rfl) ?_
  intro p e s m args below meth c ls X Y hl
  have hx := X.1
  have hb := X.2.1
  have hl : lv_has ls 7 [(0, .ref (sA S (400 + 20 * j))), (1, .int (nI age))] := hl
  obtain ⟨t1, ⟨ft, hft, t2⟩, t3⟩ := id hV
  refine lv_lconst (v := 0) hx hb dX10_factorAt_0 (by decide) ?_
  refine lv_lstore_n (lv' := [(2, .long 0), (0, .ref (sA S (400 + 20 * j))), (1, .int (nI age))]) hx hb dX10_factorAt_1 rfl hl (by decide) rfl (fun ls hl => ?_)
  refine lv_lconst (v := 0) hx hb dX10_factorAt_2 (by decide) ?_
  refine lv_lstore (lv' := [(4, .long 0), (2, .long 0), (0, .ref (sA S (400 + 20 * j))), (1, .int (nI age))]) hx hb dX10_factorAt_3 hl (by decide) rfl (fun ls hl => ?_)
  refine lv_iconst (v := 0) hx hb dX10_factorAt_5 (by decide) ?_
  refine lv_istore (lv' := [(6, .int 0), (4, .long 0), (2, .long 0), (0, .ref (sA S (400 + 20 * j))), (1, .int (nI age))]) hx hb dX10_factorAt_6 hl (by decide) rfl (fun ls hl => ?_)
  have loop : ∀ (d y : Nat), y + d = (nw - age) + 1 → y ≤ (nw - age) → ∀ (H : Heap) (locs : List Loc) (ls : Array Slot), hHS G M s H locs → lv_has ls 7 [(0, .ref (sA S (400 + 20 * j))), (1, .int (nI age)), (2, .long (rSumL (fun yy => ce yy age) y)), (4, .long (rSumL (fun yy => ce yy (age + 1)) y)), (6, .int (nI y))] → W p l e (hRm 1 0 0) s m args below meth c H locs 0 0 (MQ below (hQ G (hRd M (.int (trFac ce nw age)))) args s 0 0 (hA G)) (F0 m 8 ls []) := by
    intro d
    induction d with
    | zero => intro y h1 h2; exact absurd h1 (by omega)
    | succ d ih =>
      intro y h1 h2 H locs ls Y hl
      refine lv_iload hx hb dX10_factorAt_8 (lv_at hl 4 rfl) ?_
      refine lv_iload_n hx hb dX10_factorAt_10 rfl (lv_at hl 1 rfl) ?_
      refine lv_iadd hx hb dX10_factorAt_11 ?_
      refine h_ev (y := nI (y + age)) (nI_add y age) ?_
      refine lv_iconst (v := 1) hx hb dX10_factorAt_12 (by decide) ?_
      refine lv_iadd hx hb dX10_factorAt_13 ?_
      refine h_ev (y := nI ((y + age) + 1)) (nI_1 (y + age)) ?_
      refine lv_aload_n hx hb dX10_factorAt_14 rfl (lv_at hl 0 rfl) ?_
      refine h_get X Y (k := 1) (v := .int (nI nw)) t1 rfl hin_X10 (by decide) kfl_X10_16 rfl dX10_factorAt_15 ?_
      refine lv_icmp_gt (tgt := 57) hx hb dX10_factorAt_18 (by decide) (fun c18 => ?_) (fun c18 => ?_)
      · have c18 : nw < ((y + age) + 1) := (nI_ltI (a := nw) (b := ((y + age) + 1)) (by omega) (by omega)).mp c18
        have hk9 : y = (nw - age) := by omega
        subst hk9
        refine lv_lload_n hx hb dX10_factorAt_57 rfl (lv_at hl 2 rfl) ?_
        refine lv_lconst (v := 0) hx hb dX10_factorAt_58 (by decide) ?_
        refine W.lcmp hx hb dX10_factorAt_59 ?_
        refine lv_if_ne (tgt := 69) hx hb dX10_factorAt_60 (by decide) (fun c60 => ?_) (fun c60 => ?_)
        · refine lv_lload hx hb dX10_factorAt_69 (lv_at hl 3 rfl) ?_
          refine lv_ldc2 hx hb X.2.2.2.2.1 (X.2.2.2.2.2.1 _ kcJ_X10_20) dX10_factorAt_71 ?_
          refine lv_lmul hx hb dX10_factorAt_74 ?_
          refine lv_lload_n hx hb dX10_factorAt_75 rfl (lv_at hl 2 rfl) ?_
          refine lv_ldiv hx hb dX10_factorAt_76 (lg_cmp_n c60) ?_
          refine lv_ldc2 hx hb X.2.2.2.2.1 (X.2.2.2.2.2.1 _ kcJ_X10_22) dX10_factorAt_77 ?_
          refine h_mminL X kml_X10_24 hl.1 (Nat.le_of_ble_eq_true rfl) (Nat.le_of_ble_eq_true rfl) ⟨Nat.le_of_ble_eq_true rfl, Nat.le_of_ble_eq_true rfl⟩ dX10_factorAt_80 ?_
          refine lv_l2i (v := (sMinL (((rSumL (fun yy => ce yy (age + 1)) (nw - age)) * 1000) / (rSumL (fun yy => ce yy age) (nw - age))) 1000000).toInt32) hx hb dX10_factorAt_83 rfl ?_
          exact h_iret X Y ⟨congrArg (fun z => some (Value.int z)) (if_neg (lg_cmp_n c60)).symm, rfl⟩ (Nat.le_refl _) (Nat.le_refl _) dX10_factorAt_84
        · refine lv_sipush (v := 1000) hx hb dX10_factorAt_63 (by decide) ?_
          refine lv_goto (tgt := 84) hx hb dX10_factorAt_66 (by decide) ?_
          exact h_iret X Y ⟨congrArg (fun z => some (Value.int z)) (if_pos (lg_cmp_0 c60)).symm, rfl⟩ (Nat.le_refl _) (Nat.le_refl _) dX10_factorAt_84
      · have c18 : ¬ nw < ((y + age) + 1) := fun z9 => c18 ((nI_ltI (a := nw) (b := ((y + age) + 1)) (by omega) (by omega)).mpr z9)
        refine lv_lload_n hx hb dX10_factorAt_21 rfl (lv_at hl 2 rfl) ?_
        refine lv_aload_n hx hb dX10_factorAt_22 rfl (lv_at hl 0 rfl) ?_
        refine h_get X Y (k := 0) (v := .ref (sA S (400 + 20 * j + 1))) t1 rfl hin_X10 (by decide) kfl_X10_11 rfl dX10_factorAt_23 ?_
        refine lv_iload hx hb dX10_factorAt_26 (lv_at hl 4 rfl) ?_
        refine h_aaldI X Y (i := y) t2 (by omega) (by decide) dX10_factorAt_28 ?_
        refine h_rf (hft y (by omega)) ?_
        refine lv_iload_n hx hb dX10_factorAt_29 rfl (lv_at hl 1 rfl) ?_
        refine h_iald X Y (i := age) (t3 y (by omega)) (by omega) (by decide) dX10_factorAt_30 ?_
        refine lv_i2l (v := ((ce y) age).toInt64) hx hb dX10_factorAt_31 rfl ?_
        refine lv_ladd hx hb dX10_factorAt_32 ?_
        refine lv_lstore_n (lv' := [(2, .long ((rSumL (fun yy => ce yy age) y) + (((ce y) age).toInt64))), (0, .ref (sA S (400 + 20 * j))), (1, .int (nI age)), (4, .long (rSumL (fun yy => ce yy (age + 1)) y)), (6, .int (nI y))]) hx hb dX10_factorAt_33 rfl hl (by decide) rfl (fun ls hl => ?_)
        refine lv_lload hx hb dX10_factorAt_34 (lv_at hl 3 rfl) ?_
        refine lv_aload_n hx hb dX10_factorAt_36 rfl (lv_at hl 1 rfl) ?_
        refine h_get X Y (k := 0) (v := .ref (sA S (400 + 20 * j + 1))) t1 rfl hin_X10 (by decide) kfl_X10_11 rfl dX10_factorAt_37 ?_
        refine lv_iload hx hb dX10_factorAt_40 (lv_at hl 4 rfl) ?_
        refine h_aaldI X Y (i := y) t2 (by omega) (by decide) dX10_factorAt_42 ?_
        refine h_rf (hft y (by omega)) ?_
        refine lv_iload_n hx hb dX10_factorAt_43 rfl (lv_at hl 2 rfl) ?_
        refine lv_iconst (v := 1) hx hb dX10_factorAt_44 (by decide) ?_
        refine lv_iadd hx hb dX10_factorAt_45 ?_
        refine h_ev (y := nI (age + 1)) (nI_1 age) ?_
        refine h_iald X Y (i := (age + 1)) (t3 y (by omega)) (by omega) (by decide) dX10_factorAt_46 ?_
        refine lv_i2l (v := ((ce y) (age + 1)).toInt64) hx hb dX10_factorAt_47 rfl ?_
        refine lv_ladd hx hb dX10_factorAt_48 ?_
        refine lv_lstore (lv' := [(4, .long ((rSumL (fun yy => ce yy (age + 1)) y) + (((ce y) (age + 1)).toInt64))), (2, .long ((rSumL (fun yy => ce yy age) y) + (((ce y) age).toInt64))), (0, .ref (sA S (400 + 20 * j))), (1, .int (nI age)), (6, .int (nI y))]) hx hb dX10_factorAt_49 hl (by decide) rfl (fun ls hl => ?_)
        refine lv_iinc (v := nI (y + 1)) (lv' := [(6, .int (nI (y + 1))), (4, .long ((rSumL (fun yy => ce yy (age + 1)) y) + (((ce y) (age + 1)).toInt64))), (2, .long ((rSumL (fun yy => ce yy age) y) + (((ce y) age).toInt64))), (0, .ref (sA S (400 + 20 * j))), (1, .int (nI age))]) hx hb dX10_factorAt_51 hl (k := 4) rfl (nI_1 y) (by decide) rfl (fun ls hl => ?_)
        refine lv_goto (tgt := 8) hx hb dX10_factorAt_54 (by decide) ?_
        exact ih (y + 1) (by omega) (by omega) _ _ _ Y (lv_sub hl [3, 4, 2, 1, 0] rfl)
  exact loop ((nw - age) + 1) 0 (by omega) (by omega) _ _ _ Y (lv_sub hl [3, 4, 2, 1, 0] rfl)
theorem gw_X10_38 : GoodIn hGW (wsV RX10 38 RX10 yX10_factorAt (Cond.code yX10_factorAt cX10_factorAt 7 (Option.some FieldType.int) :: hGW)) := hgi4 kml_X10_38 kin_X10_factorAt kse_X10_X10_factorAt_X10_factorAt kini_X10 kco_X10_factorAt
theorem dsc_X10_factorAt : yX10_factorAt.cls = RX10 ∧ yX10_factorAt.cls ≠ "java/lang/invoke/MethodHandle" ∧ yX10_factorAt.cls ≠ "java/lang/invoke/VarHandle" ∧ (parseMethodDescriptor yX10_factorAt.desc).map (fun d => d.parameters.length) = some 1 := ⟨rfl, by decide +kernel, by decide +kernel, by decide +kernel⟩
theorem dX10_grown_0 : decode cX10_grown 0 = .ok (.lload_n 1, 1) := by decide +kernel
theorem dX10_grown_1 : decode cX10_grown 1 = .ok (.lstore 5, 2) := by decide +kernel
theorem dX10_grown_3 : decode cX10_grown 3 = .ok (.aload_n 0, 1) := by decide +kernel
theorem dX10_grown_4 : decode cX10_grown 4 = .ok (.getfield 16, 3) := by decide +kernel
theorem dX10_grown_7 : decode cX10_grown 7 = .ok (.iload_n 3, 1) := by decide +kernel
theorem dX10_grown_8 : decode cX10_grown 8 = .ok (.isub, 1) := by decide +kernel
theorem dX10_grown_9 : decode cX10_grown 9 = .ok (.istore 7, 2) := by decide +kernel
theorem dX10_grown_11 : decode cX10_grown 11 = .ok (.iload 7, 2) := by decide +kernel
theorem dX10_grown_13 : decode cX10_grown 13 = .ok (.bipush 8, 2) := by decide +kernel
theorem dX10_grown_15 : decode cX10_grown 15 = .ok (.if_icmp .gt 31, 3) := by decide +kernel
theorem dX10_grown_18 : decode cX10_grown 18 = .ok (.lload 5, 2) := by decide +kernel
theorem dX10_grown_20 : decode cX10_grown 20 = .ok (.aload_n 0, 1) := by decide +kernel
theorem dX10_grown_21 : decode cX10_grown 21 = .ok (.iload 7, 2) := by decide +kernel
theorem dX10_grown_23 : decode cX10_grown 23 = .ok (.invokevirtual 38, 3) := by decide +kernel
theorem dX10_grown_26 : decode cX10_grown 26 = .ok (.i2l, 1) := by decide +kernel
theorem dX10_grown_27 : decode cX10_grown 27 = .ok (.lmul, 1) := by decide +kernel
theorem dX10_grown_28 : decode cX10_grown 28 = .ok (.ldc2_w 20, 3) := by decide +kernel
theorem dX10_grown_31 : decode cX10_grown 31 = .ok (.ldiv, 1) := by decide +kernel
theorem dX10_grown_32 : decode cX10_grown 32 = .ok (.ldc2_w 41, 3) := by decide +kernel
theorem dX10_grown_35 : decode cX10_grown 35 = .ok (.invokestatic 24, 3) := by decide +kernel
theorem dX10_grown_38 : decode cX10_grown 38 = .ok (.lstore 5, 2) := by decide +kernel
theorem dX10_grown_40 : decode cX10_grown 40 = .ok (.iinc 7 1, 3) := by decide +kernel
theorem dX10_grown_43 : decode cX10_grown 43 = .ok (.goto (-32), 3) := by decide +kernel
theorem dX10_grown_46 : decode cX10_grown 46 = .ok (.lload 5, 2) := by decide +kernel
theorem dX10_grown_48 : decode cX10_grown 48 = .ok (.iload 4, 2) := by decide +kernel
theorem dX10_grown_50 : decode cX10_grown 50 = .ok (.i2l, 1) := by decide +kernel
theorem dX10_grown_51 : decode cX10_grown 51 = .ok (.lmul, 1) := by decide +kernel
theorem dX10_grown_52 : decode cX10_grown 52 = .ok (.ldc2_w 20, 3) := by decide +kernel
theorem dX10_grown_55 : decode cX10_grown 55 = .ok (.ldiv, 1) := by decide +kernel
theorem dX10_grown_56 : decode cX10_grown 56 = .ok (.ldc2_w 41, 3) := by decide +kernel
theorem dX10_grown_59 : decode cX10_grown 59 = .ok (.invokestatic 24, 3) := by decide +kernel
theorem dX10_grown_62 : decode cX10_grown 62 = .ok (.l2i, 1) := by decide +kernel
theorem dX10_grown_63 : decode cX10_grown 63 = .ok (.ireturn, 1) := by decide +kernel
set_option maxHeartbeats 400000 in
set_option maxRecDepth 100000 in
theorem c_grown (l : Launch) (G : hG) (M : hM) (S : hSy) (j : Nat) (ce : Nat → Nat → Int32) (nw : Nat) (hV : TrV G M S j ce (nI nw)) (hn : nw < 10) (z : Int64) (y : Nat) (tail : Int32) (hy : y ≤ nw) : hCT l G yX10_grown cX10_grown 8 (Option.some FieldType.int) (hRm 2 0 0) M [.ref (sA S (400 + 20 * j)), .long z, .int (nI y), .int tail] (hRd M (.int (trGrown ce nw z y tail))) := by
  refine hCT.of (own := RX10) (nm := "grown") (by decide) rfl rfl (Nat.le_of_ble_eq_true rfl) ?_
  intro p e s m args below meth c ls X Y hl
  have hx := X.1
  have hb := X.2.1
  have hl : lv_has ls 8 [(0, .ref (sA S (400 + 20 * j))), (1, .long z), (3, .int (nI y)), (4, .int tail)] := hl
  obtain ⟨t1, ⟨ft, hft, t2⟩, t3⟩ := id hV
  obtain ⟨a0, ha0⟩ : ∃ a0, a0 = nw - y := ⟨_, rfl⟩
  refine lv_lload_n hx hb dX10_grown_0 rfl (lv_at hl 1 rfl) ?_
  refine lv_lstore (lv' := [(5, .long z), (0, .ref (sA S (400 + 20 * j))), (1, .long z), (3, .int (nI y)), (4, .int tail)]) hx hb dX10_grown_1 hl (by decide) rfl (fun ls hl => ?_)
  refine lv_aload_n hx hb dX10_grown_3 rfl (lv_at hl 1 rfl) ?_
  refine h_get X Y (k := 1) (v := .int (nI nw)) t1 rfl hin_X10 (by decide) kfl_X10_16 rfl dX10_grown_4 ?_
  refine lv_iload_n hx hb dX10_grown_7 rfl (lv_at hl 3 rfl) ?_
  refine lv_isub hx hb dX10_grown_8 ?_
  refine h_ev (y := nI (nw - y)) (pk_sub hy) ?_
  refine lv_istore (lv' := [(7, .int (nI (nw - y))), (5, .long z), (0, .ref (sA S (400 + 20 * j))), (1, .long z), (3, .int (nI y)), (4, .int tail)]) hx hb dX10_grown_9 hl (by decide) rfl (fun ls hl => ?_)
  rw [show nw - y = a0 + 0 by omega] at hl
  have loop : ∀ (d i : Nat), i + d = (9 - a0) + 1 → i ≤ (9 - a0) → ∀ (H : Heap) (locs : List Loc) (ls : Array Slot), hHS G M s H locs → lv_has ls 8 [(0, .ref (sA S (400 + 20 * j))), (4, .int tail), (5, .long (trG ce nw a0 z i)), (7, .int (nI (a0 + i)))] → W p l e (hRm 2 0 0) s m args below meth c H locs 0 0 (MQ below (hQ G (hRd M (.int (trGrown ce nw z y tail)))) args s 0 0 (hA G)) (F0 m 11 ls []) := by
    intro d
    induction d with
    | zero => intro i h1 h2; exact absurd h1 (by omega)
    | succ d ih =>
      intro i h1 h2 H locs ls Y hl
      refine lv_iload hx hb dX10_grown_11 (lv_at hl 3 rfl) ?_
      refine lv_bipush (v := 8) hx hb dX10_grown_13 (by decide) ?_
      refine lv_icmp_gt (tgt := 46) hx hb dX10_grown_15 (by decide) (fun c15 => ?_) (fun c15 => ?_)
      · have c15 : 8 < (a0 + i) := (nI_ltI (a := 8) (b := (a0 + i)) (by omega) (by omega)).mp c15
        have hk9 : i = (9 - a0) := by omega
        subst hk9
        refine lv_lload hx hb dX10_grown_46 (lv_at hl 2 rfl) ?_
        refine lv_iload hx hb dX10_grown_48 (lv_at hl 1 rfl) ?_
        refine lv_i2l (v := tail.toInt64) hx hb dX10_grown_50 rfl ?_
        refine lv_lmul hx hb dX10_grown_51 ?_
        refine lv_ldc2 hx hb X.2.2.2.2.1 (X.2.2.2.2.2.1 _ kcJ_X10_20) dX10_grown_52 ?_
        refine lv_ldiv hx hb dX10_grown_55 (by decide) ?_
        refine lv_ldc2 hx hb X.2.2.2.2.1 (X.2.2.2.2.2.1 _ kcJ_X10_41) dX10_grown_56 ?_
        refine h_mminL X kml_X10_24 hl.1 (Nat.le_of_ble_eq_true rfl) (Nat.le_of_ble_eq_true rfl) ⟨Nat.le_of_ble_eq_true rfl, Nat.le_of_ble_eq_true rfl⟩ dX10_grown_59 ?_
        refine lv_l2i (v := (sMinL (((trG ce nw a0 z (9 - a0)) * tail.toInt64) / 1000) 2000000000).toInt32) hx hb dX10_grown_62 rfl ?_
        exact h_iret X Y ⟨by subst ha0; rfl, rfl⟩ (Nat.le_refl _) (Nat.le_refl _) dX10_grown_63
      · have c15 : ¬ 8 < (a0 + i) := fun z9 => c15 ((nI_ltI (a := 8) (b := (a0 + i)) (by omega) (by omega)).mpr z9)
        refine lv_lload hx hb dX10_grown_18 (lv_at hl 2 rfl) ?_
        refine lv_aload_n hx hb dX10_grown_20 rfl (lv_at hl 0 rfl) ?_
        refine lv_iload hx hb dX10_grown_21 (lv_at hl 3 rfl) ?_
        refine h_callVr (rest := [.long (trG ce nw a0 z i)]) X Y (c_factorAt l G M S j ce nw hV hn (a0 + i) (by omega)) rfl rfl gw_X10_38 dsc_X10_factorAt t1 rfl rfl rfl rfl hl.1 (Nat.le_of_ble_eq_true rfl) ⟨Nat.le_of_ble_eq_true rfl, Nat.le_of_ble_eq_true rfl⟩ ⟨Nat.le_of_ble_eq_true rfl, Nat.le_of_ble_eq_true rfl⟩ dX10_grown_23 (fun H locs Y => ?_)
        refine lv_i2l (v := (trFac ce nw (a0 + i)).toInt64) hx hb dX10_grown_26 rfl ?_
        refine lv_lmul hx hb dX10_grown_27 ?_
        refine lv_ldc2 hx hb X.2.2.2.2.1 (X.2.2.2.2.2.1 _ kcJ_X10_20) dX10_grown_28 ?_
        refine lv_ldiv hx hb dX10_grown_31 (by decide) ?_
        refine lv_ldc2 hx hb X.2.2.2.2.1 (X.2.2.2.2.2.1 _ kcJ_X10_41) dX10_grown_32 ?_
        refine h_mminL X kml_X10_24 hl.1 (Nat.le_of_ble_eq_true rfl) (Nat.le_of_ble_eq_true rfl) ⟨Nat.le_of_ble_eq_true rfl, Nat.le_of_ble_eq_true rfl⟩ dX10_grown_35 ?_
        refine lv_lstore (lv' := [(5, .long (sMinL (((trG ce nw a0 z i) * ((trFac ce nw (a0 + i)).toInt64)) / 1000) 2000000000)), (0, .ref (sA S (400 + 20 * j))), (4, .int tail), (7, .int (nI (a0 + i)))]) hx hb dX10_grown_38 hl (by decide) rfl (fun ls hl => ?_)
        refine lv_iinc (v := nI (a0 + (i + 1))) (lv' := [(7, .int (nI (a0 + (i + 1)))), (5, .long (sMinL (((trG ce nw a0 z i) * ((trFac ce nw (a0 + i)).toInt64)) / 1000) 2000000000)), (0, .ref (sA S (400 + 20 * j))), (4, .int tail)]) hx hb dX10_grown_40 hl (k := 3) rfl (nI_1 (a0 + i)) (by decide) rfl (fun ls hl => ?_)
        refine lv_goto (tgt := 11) hx hb dX10_grown_43 (by decide) ?_
        exact ih (i + 1) (by omega) (by omega) _ _ _ Y (lv_sub hl [2, 3, 1, 0] rfl)
  exact loop ((9 - a0) + 1) 0 (by omega) (by omega) _ _ _ Y (lv_sub hl [2, 5, 1, 0] rfl)
theorem gw_X10_30 : GoodIn hGW (wsV RX10 30 RX10 yX10_nowOf (Cond.code yX10_nowOf cX10_nowOf 2 (Option.some FieldType.int) :: hGW)) := hgi4 kml_X10_30 kin_X10_nowOf kse_X10_X10_nowOf_X10_nowOf kini_X10 kco_X10_nowOf
theorem dsc_X10_nowOf : yX10_nowOf.cls = RX10 ∧ yX10_nowOf.cls ≠ "java/lang/invoke/MethodHandle" ∧ yX10_nowOf.cls ≠ "java/lang/invoke/VarHandle" ∧ (parseMethodDescriptor yX10_nowOf.desc).map (fun d => d.parameters.length) = some 1 := ⟨rfl, by decide +kernel, by decide +kernel, by decide +kernel⟩
theorem gw_X10_34 : GoodIn hGW (wsV RX10 34 RX10 yX10_grown (Cond.code yX10_grown cX10_grown 8 (Option.some FieldType.int) :: hGW)) := hgi4 kml_X10_34 kin_X10_grown kse_X10_X10_grown_X10_grown kini_X10 kco_X10_grown
theorem dsc_X10_grown : yX10_grown.cls = RX10 ∧ yX10_grown.cls ≠ "java/lang/invoke/MethodHandle" ∧ yX10_grown.cls ≠ "java/lang/invoke/VarHandle" ∧ (parseMethodDescriptor yX10_grown.desc).map (fun d => d.parameters.length) = some 3 := ⟨rfl, by decide +kernel, by decide +kernel, by decide +kernel⟩
theorem dX10_ultimateOf_0 : decode cX10_ultimateOf 0 = .ok (.aload_n 0, 1) := by decide +kernel
theorem dX10_ultimateOf_1 : decode cX10_ultimateOf 1 = .ok (.aload_n 0, 1) := by decide +kernel
theorem dX10_ultimateOf_2 : decode cX10_ultimateOf 2 = .ok (.iload_n 1, 1) := by decide +kernel
theorem dX10_ultimateOf_3 : decode cX10_ultimateOf 3 = .ok (.invokevirtual 30, 3) := by decide +kernel
theorem dX10_ultimateOf_6 : decode cX10_ultimateOf 6 = .ok (.i2l, 1) := by decide +kernel
theorem dX10_ultimateOf_7 : decode cX10_ultimateOf 7 = .ok (.iload_n 1, 1) := by decide +kernel
theorem dX10_ultimateOf_8 : decode cX10_ultimateOf 8 = .ok (.iload_n 2, 1) := by decide +kernel
theorem dX10_ultimateOf_9 : decode cX10_ultimateOf 9 = .ok (.invokevirtual 34, 3) := by decide +kernel
theorem dX10_ultimateOf_12 : decode cX10_ultimateOf 12 = .ok (.ireturn, 1) := by decide +kernel
set_option maxHeartbeats 400000 in
set_option maxRecDepth 100000 in
theorem c_ultimateOf (l : Launch) (G : hG) (M : hM) (S : hSy) (j : Nat) (ce : Nat → Nat → Int32) (nw : Nat) (hV : TrV G M S j ce (nI nw)) (hn : nw < 10) (y : Nat) (tail : Int32) (hy : y ≤ nw) : hCT l G yX10_ultimateOf cX10_ultimateOf 3 (Option.some FieldType.int) (hRm 3 0 0) M [.ref (sA S (400 + 20 * j)), .int (nI y), .int tail] (hRd M (.int (trGrown ce nw (ce y (nw - y)).toInt64 y tail))) := by
  refine hCT.of (own := RX10) (nm := "ultimateOf") (by decide) rfl rfl (Nat.le_of_ble_eq_true rfl) ?_
  intro p e s m args below meth c ls X Y hl
  have hx := X.1
  have hb := X.2.1
  have hl : lv_has ls 3 [(0, .ref (sA S (400 + 20 * j))), (1, .int (nI y)), (2, .int tail)] := hl
  obtain ⟨t1, ⟨ft, hft, t2⟩, t3⟩ := id hV
  refine lv_aload_n hx hb dX10_ultimateOf_0 rfl (lv_at hl 0 rfl) ?_
  refine lv_aload_n hx hb dX10_ultimateOf_1 rfl (lv_at hl 0 rfl) ?_
  refine lv_iload_n hx hb dX10_ultimateOf_2 rfl (lv_at hl 1 rfl) ?_
  refine h_callVr (rest := [.ref (sA S (400 + 20 * j))]) X Y (c_nowOf l G M S j ce nw hV hn y hy) rfl rfl gw_X10_30 dsc_X10_nowOf t1 rfl rfl rfl rfl hl.1 (Nat.le_of_ble_eq_true rfl) ⟨Nat.le_of_ble_eq_true rfl, Nat.le_of_ble_eq_true rfl⟩ ⟨Nat.le_of_ble_eq_true rfl, Nat.le_of_ble_eq_true rfl⟩ dX10_ultimateOf_3 (fun H locs Y => ?_)
  refine lv_i2l (v := (ce y (nw - y)).toInt64) hx hb dX10_ultimateOf_6 rfl ?_
  refine lv_iload_n hx hb dX10_ultimateOf_7 rfl (lv_at hl 1 rfl) ?_
  refine lv_iload_n hx hb dX10_ultimateOf_8 rfl (lv_at hl 2 rfl) ?_
  refine h_callVr (rest := []) X Y (c_grown l G M S j ce nw hV hn ((ce y (nw - y)).toInt64) y tail hy) rfl rfl gw_X10_34 dsc_X10_grown t1 rfl rfl rfl rfl hl.1 (Nat.le_of_ble_eq_true rfl) ⟨Nat.le_of_ble_eq_true rfl, Nat.le_of_ble_eq_true rfl⟩ ⟨Nat.le_of_ble_eq_true rfl, Nat.le_of_ble_eq_true rfl⟩ dX10_ultimateOf_9 (fun H locs Y => ?_)
  exact h_iret X Y ⟨rfl, rfl⟩ (Nat.le_refl _) (Nat.le_refl _) dX10_ultimateOf_12
theorem dX10_growthOf_0 : decode cX10_growthOf 0 = .ok (.aload_n 0, 1) := by decide +kernel
theorem dX10_growthOf_1 : decode cX10_growthOf 1 = .ok (.ldc2_w 20, 3) := by decide +kernel
theorem dX10_growthOf_4 : decode cX10_growthOf 4 = .ok (.iload_n 1, 1) := by decide +kernel
theorem dX10_growthOf_5 : decode cX10_growthOf 5 = .ok (.iload_n 2, 1) := by decide +kernel
theorem dX10_growthOf_6 : decode cX10_growthOf 6 = .ok (.invokevirtual 34, 3) := by decide +kernel
theorem dX10_growthOf_9 : decode cX10_growthOf 9 = .ok (.ireturn, 1) := by decide +kernel
set_option maxHeartbeats 400000 in
set_option maxRecDepth 100000 in
theorem c_growthOf (l : Launch) (G : hG) (M : hM) (S : hSy) (j : Nat) (ce : Nat → Nat → Int32) (nw : Nat) (hV : TrV G M S j ce (nI nw)) (hn : nw < 10) (y : Nat) (tail : Int32) (hy : y ≤ nw) : hCT l G yX10_growthOf cX10_growthOf 3 (Option.some FieldType.int) (hRm 3 0 0) M [.ref (sA S (400 + 20 * j)), .int (nI y), .int tail] (hRd M (.int (trGrown ce nw 1000 y tail))) := by
  refine hCT.of (own := RX10) (nm := "growthOf") (by decide) rfl rfl (Nat.le_of_ble_eq_true rfl) ?_
  intro p e s m args below meth c ls X Y hl
  have hx := X.1
  have hb := X.2.1
  have hl : lv_has ls 3 [(0, .ref (sA S (400 + 20 * j))), (1, .int (nI y)), (2, .int tail)] := hl
  obtain ⟨t1, ⟨ft, hft, t2⟩, t3⟩ := id hV
  refine lv_aload_n hx hb dX10_growthOf_0 rfl (lv_at hl 0 rfl) ?_
  refine lv_ldc2 hx hb X.2.2.2.2.1 (X.2.2.2.2.2.1 _ kcJ_X10_20) dX10_growthOf_1 ?_
  refine lv_iload_n hx hb dX10_growthOf_4 rfl (lv_at hl 1 rfl) ?_
  refine lv_iload_n hx hb dX10_growthOf_5 rfl (lv_at hl 2 rfl) ?_
  refine h_callVr (rest := []) X Y (c_grown l G M S j ce nw hV hn 1000 y tail hy) rfl rfl gw_X10_34 dsc_X10_grown t1 rfl rfl rfl rfl hl.1 (Nat.le_of_ble_eq_true rfl) ⟨Nat.le_of_ble_eq_true rfl, Nat.le_of_ble_eq_true rfl⟩ ⟨Nat.le_of_ble_eq_true rfl, Nat.le_of_ble_eq_true rfl⟩ dX10_growthOf_6 (fun H locs Y => ?_)
  exact h_iret X Y ⟨rfl, rfl⟩ (Nat.le_refl _) (Nat.le_refl _) dX10_growthOf_9
theorem dX10_begin_0 : decode cX10_begin 0 = .ok (.aload_n 0, 1) := by decide +kernel
theorem dX10_begin_1 : decode cX10_begin 1 = .ok (.iload_n 1, 1) := by decide +kernel
theorem dX10_begin_2 : decode cX10_begin 2 = .ok (.putfield 16, 3) := by decide +kernel
theorem dX10_begin_5 : decode cX10_begin 5 = .ok (.iconst 0, 1) := by decide +kernel
theorem dX10_begin_6 : decode cX10_begin 6 = .ok (.istore_n 2, 1) := by decide +kernel
theorem dX10_begin_7 : decode cX10_begin 7 = .ok (.iload_n 2, 1) := by decide +kernel
theorem dX10_begin_8 : decode cX10_begin 8 = .ok (.bipush 10, 2) := by decide +kernel
theorem dX10_begin_10 : decode cX10_begin 10 = .ok (.if_icmp .ge 32, 3) := by decide +kernel
theorem dX10_begin_13 : decode cX10_begin 13 = .ok (.iconst 0, 1) := by decide +kernel
theorem dX10_begin_14 : decode cX10_begin 14 = .ok (.istore_n 3, 1) := by decide +kernel
theorem dX10_begin_15 : decode cX10_begin 15 = .ok (.iload_n 3, 1) := by decide +kernel
theorem dX10_begin_16 : decode cX10_begin 16 = .ok (.bipush 10, 2) := by decide +kernel
theorem dX10_begin_18 : decode cX10_begin 18 = .ok (.if_icmp .ge 18, 3) := by decide +kernel
theorem dX10_begin_21 : decode cX10_begin 21 = .ok (.aload_n 0, 1) := by decide +kernel
theorem dX10_begin_22 : decode cX10_begin 22 = .ok (.getfield 11, 3) := by decide +kernel
theorem dX10_begin_25 : decode cX10_begin 25 = .ok (.iload_n 2, 1) := by decide +kernel
theorem dX10_begin_26 : decode cX10_begin 26 = .ok (.aaload, 1) := by decide +kernel
theorem dX10_begin_27 : decode cX10_begin 27 = .ok (.iload_n 3, 1) := by decide +kernel
theorem dX10_begin_28 : decode cX10_begin 28 = .ok (.iconst 0, 1) := by decide +kernel
theorem dX10_begin_29 : decode cX10_begin 29 = .ok (.iastore, 1) := by decide +kernel
theorem dX10_begin_30 : decode cX10_begin 30 = .ok (.iinc 3 1, 3) := by decide +kernel
theorem dX10_begin_33 : decode cX10_begin 33 = .ok (.goto (-18), 3) := by decide +kernel
theorem dX10_begin_36 : decode cX10_begin 36 = .ok (.iinc 2 1, 3) := by decide +kernel
theorem dX10_begin_39 : decode cX10_begin 39 = .ok (.goto (-32), 3) := by decide +kernel
theorem dX10_begin_42 : decode cX10_begin 42 = .ok (.return_, 1) := by decide +kernel
set_option maxHeartbeats 400000 in
set_option maxRecDepth 100000 in
theorem c_begin (l : Launch) (G : hG) (M : hM) (S : hSy) (hS : SyV G M S) (j : Nat) (hj : j < 4) (ce : Nat → Nat → Int32) (nv : Int32) (hV : TrV G M S j ce nv) (nw : Nat) : hCT l G yX10_begin cX10_begin 4 (Option.none) (hRm 1 0 0) M [.ref (sA S (400 + 20 * j)), .int (nI nw)] (fun v M' => v = none ∧ ∃ ce', TrV G M' S j ce' (nI nw) ∧ (∀ i, i < 10 → ∀ k, k < 10 → ce' i k = 0) ∧ hSim G (hS2 j) M M') := by
  refine hCT.of (own := RX10) (nm := "begin") (by decide) rfl rfl (Nat.le_of_ble_eq_true rfl) ?_
  intro p e s m args below meth c ls X Y hl
  have hx := X.1
  have hb := X.2.1
  have hl : lv_has ls 4 [(0, .ref (sA S (400 + 20 * j))), (1, .int (nI nw))] := hl
  obtain ⟨t1, ⟨ft, hft, t2⟩, t3⟩ := id hV
  have hs0 : hSim G (hS2 j) M M := hSim.rf
  refine lv_aload_n hx hb dX10_begin_0 rfl (lv_at hl 0 rfl) ?_
  refine lv_iload_n hx hb dX10_begin_1 rfl (lv_at hl 1 rfl) ?_
  refine h_put X Y (k := 1) (v := .int (nI nw)) t1 rfl hin_X10 tyX10_ok nmX10 (by decide) kfl_X10_16 rfl rfl rfl (Nat.le_of_ble_eq_true rfl) dX10_begin_2 (fun H locs Y => ?_)
  have Y : hHS G (hup M (sA S (400 + 20 * j)) (400 + 20 * j, .inr (11, [.ref (sA S (400 + 20 * j + 1)), .int (nI nw)]))) s H locs := Y
  obtain ⟨hV, hS, hq⟩ := TrV.putNow hj (nI nw) hV hS
  have hs0 := hs0.tr hq
  generalize hup M _ _ = M1 at Y hV hS hq hs0
  refine lv_iconst (v := 0) hx hb dX10_begin_5 (by decide) ?_
  refine lv_istore_n (lv' := [(2, .int 0), (0, .ref (sA S (400 + 20 * j))), (1, .int (nI nw))]) hx hb dX10_begin_6 rfl hl (by decide) rfl (fun ls hl => ?_)
  have loop : ∀ (d i : Nat), i + d = 11 → i ≤ 10 → ∀ (M1 : hM) (ce1 : Nat → Nat → Int32), SyV G M1 S → TrV G M1 S j ce1 (nI nw) → hSim G (hS2 j) M M1 → (∀ x, x < i → ∀ y, y < 10 → ce1 x y = 0) → ∀ (H : Heap) (locs : List Loc) (ls : Array Slot), hHS G M1 s H locs → lv_has ls 4 [(0, .ref (sA S (400 + 20 * j))), (1, .int (nI nw)), (2, .int (nI i))] → W p l e (hRm 1 0 0) s m args below meth c H locs 0 0 (MQ below (hQ G (fun v M' => v = none ∧ ∃ ce', TrV G M' S j ce' (nI nw) ∧ (∀ i, i < 10 → ∀ k, k < 10 → ce' i k = 0) ∧ hSim G (hS2 j) M M')) args s 0 0 (hA G)) (F0 m 7 ls []) := by
    intro d
    induction d with
    | zero => intro i h1; intros; exact absurd h1 (by omega)
    | succ d ih =>
      intro i h1 h2 M1 ce1 hS hV hs0 hz1 H locs ls Y hl
      obtain ⟨t1, ⟨ft, hft, t2⟩, t3⟩ := id hV
      refine lv_iload_n hx hb dX10_begin_7 rfl (lv_at hl 2 rfl) ?_
      refine lv_bipush (v := 10) hx hb dX10_begin_8 (by decide) ?_
      refine lv_icmp_ge (tgt := 42) hx hb dX10_begin_10 (by decide) (fun c10 => ?_) (fun c10 => ?_)
      · have c10 : 10 ≤ i := (nI_leI (a := 10) (b := i) (by omega) (by omega)).mp c10
        have hk9 : i = 10 := by omega
        subst hk9
        exact h_vret X Y ⟨rfl, ce1, hV, hz1, hs0⟩ (Nat.le_refl _) (Nat.le_refl _) dX10_begin_42
      · have c10 : ¬ 10 ≤ i := fun z9 => c10 ((nI_leI (a := 10) (b := i) (by omega) (by omega)).mpr z9)
        refine lv_iconst (v := 0) hx hb dX10_begin_13 (by decide) ?_
        refine lv_istore_n (lv' := [(3, .int 0), (0, .ref (sA S (400 + 20 * j))), (1, .int (nI nw)), (2, .int (nI i))]) hx hb dX10_begin_14 rfl hl (by decide) rfl (fun ls hl => ?_)
        have loop2 : ∀ (d y : Nat), y + d = 11 → y ≤ 10 → ∀ (M2 : hM) (ce2 : Nat → Nat → Int32), SyV G M2 S → TrV G M2 S j ce2 (nI nw) → hSim G (hS2 j) M M2 → (∀ z, z < y → ce2 i z = 0) → (∀ x, x ≠ i → ce2 x = ce1 x) → ∀ (H : Heap) (locs : List Loc) (ls : Array Slot), hHS G M2 s H locs → lv_has ls 4 [(0, .ref (sA S (400 + 20 * j))), (1, .int (nI nw)), (2, .int (nI i)), (3, .int (nI y))] → W p l e (hRm 1 0 0) s m args below meth c H locs 0 0 (MQ below (hQ G (fun v M' => v = none ∧ ∃ ce', TrV G M' S j ce' (nI nw) ∧ (∀ i, i < 10 → ∀ k, k < 10 → ce' i k = 0) ∧ hSim G (hS2 j) M M')) args s 0 0 (hA G)) (F0 m 15 ls []) := by
          intro d
          induction d with
          | zero => intro y h1; intros; exact absurd h1 (by omega)
          | succ d ih2 =>
            intro y g1 g2 M2 ce2 hS hV hs0 hz2 hz3 H locs ls Y hl
            obtain ⟨t1, ⟨ft, hft, t2⟩, t3⟩ := id hV
            refine lv_iload_n hx hb dX10_begin_15 rfl (lv_at hl 3 rfl) ?_
            refine lv_bipush (v := 10) hx hb dX10_begin_16 (by decide) ?_
            refine lv_icmp_ge (tgt := 36) hx hb dX10_begin_18 (by decide) (fun c18 => ?_) (fun c18 => ?_)
            · have c18 : 10 ≤ y := (nI_leI (a := 10) (b := y) (by omega) (by omega)).mp c18
              have hk9 : y = 10 := by omega
              subst hk9
              refine lv_iinc (v := nI (i + 1)) (lv' := [(2, .int (nI (i + 1))), (0, .ref (sA S (400 + 20 * j))), (1, .int (nI nw)), (3, .int (nI 10))]) hx hb dX10_begin_36 hl (k := 2) rfl (nI_1 i) (by decide) rfl (fun ls hl => ?_)
              refine lv_goto (tgt := 7) hx hb dX10_begin_39 (by decide) ?_
              refine ih (i + 1) (by omega) (by omega) M2 _ hS hV hs0 ?_ _ _ _ Y (lv_sub hl [1, 2, 0] rfl)
              intro x hx y hy
              by_cases e : x = i
              · subst e; exact hz2 y hy
              · rw [hz3 x e]; exact hz1 x (by omega) y hy
            · have c18 : ¬ 10 ≤ y := fun z9 => c18 ((nI_leI (a := 10) (b := y) (by omega) (by omega)).mpr z9)
              refine lv_aload_n hx hb dX10_begin_21 rfl (lv_at hl 0 rfl) ?_
              refine h_get X Y (k := 0) (v := .ref (sA S (400 + 20 * j + 1))) t1 rfl hin_X10 (by decide) kfl_X10_11 rfl dX10_begin_22 ?_
              refine lv_iload_n hx hb dX10_begin_25 rfl (lv_at hl 2 rfl) ?_
              refine h_aaldI X Y (i := i) t2 (by omega) (by decide) dX10_begin_26 ?_
              refine h_rf (hft i (by omega)) ?_
              refine lv_iload_n hx hb dX10_begin_27 rfl (lv_at hl 3 rfl) ?_
              refine lv_iconst (v := 0) hx hb dX10_begin_28 (by decide) ?_
              refine h_iast X Y (i := y) (t3 i (by omega)) (by omega) (by decide) dX10_begin_29 (fun H locs Y => ?_)
              obtain ⟨hV, hS, hq⟩ := TrV.putRow hj i (by omega) (upd (ce2 i) y 0) hV hS
              have hs0 := hs0.tr hq
              generalize hup M2 _ _ = M2 at Y hV hS hq hs0
              refine lv_iinc (v := nI (y + 1)) (lv' := [(3, .int (nI (y + 1))), (0, .ref (sA S (400 + 20 * j))), (1, .int (nI nw)), (2, .int (nI i))]) hx hb dX10_begin_30 hl (k := 3) rfl (nI_1 y) (by decide) rfl (fun ls hl => ?_)
              refine lv_goto (tgt := 15) hx hb dX10_begin_33 (by decide) ?_
              refine ih2 (y + 1) (by omega) (by omega) M2 _ hS hV hs0 ?_ ?_ _ _ _ Y (lv_sub hl [1, 2, 3, 0] rfl)
              · intro z hz
                rw [va_up_self]
                by_cases e : z = y
                · subst e; exact pk_us
                · rw [pk_un e]; exact hz2 z (by omega)
              · intro x hx; rw [va_up_ne _ _ hx]; exact hz3 x hx
        exact loop2 11 0 (by omega) (by omega) M1 ce1 hS hV hs0 (fun _ z9 => absurd z9 (by omega)) (fun _ _ => rfl) _ _ _ Y (lv_sub hl [1, 2, 3, 0] rfl)
  exact loop 11 0 (by omega) (by omega) _ ce hS hV hs0 (fun _ z9 => absurd z9 (by omega)) _ _ _ Y (lv_sub hl [1, 2, 0] rfl)
end
section
-- THE HOUSE: 0 now, 1 tail, 2 the error's place, 3 the tape's length, 4 premiums, 5 expecteds
abbrev hHo : Type := Nat × Int32 × Int32 × Int32 × (Nat → Int32) × (Nat → Int32)
abbrev hNow (h : hHo) : Nat := h.1
abbrev hTail (h : hHo) : Int32 := h.2.1
abbrev hErr (h : hHo) : Int32 := h.2.2.1
abbrev hTl (h : hHo) : Int32 := h.2.2.2.1
abbrev hPr (h : hHo) : Nat → Int32 := h.2.2.2.2.1
abbrev hEx (h : hHo) : Nat → Int32 := h.2.2.2.2.2
abbrev hoO (S : hSy) (h : hHo) : List Value := [.ref (sA S 1), .ref (sA S 3), .ref (sA S 8), .ref (sA S 11), .ref (sA S 13), .ref (sA S 15), .ref (sA S 100), .ref (sA S 200), .ref (sA S 300), .ref (sA S 19), .ref (sA S 17), .ref (sA S 18), .int (nI (hNow h)), .int (hTail h), .int (hErr h)]
def HoV (G : hG) (M : hM) (S : hSy) (h : hHo) : Prop := M (sA S 0) = some (0, .inr (12, hoO S h)) ∧ M (sA S 1) = some (1, .inr (9, [.ref (sA S 2), .int (hTl h)])) ∧ M (sA S 17) = some (17, .inl (hT G 0, 10, .inl (hPr h))) ∧ M (sA S 18) = some (18, .inl (hT G 0, 10, .inl (hEx h)))
  ∧ ∃ f : Nat → Option Nat, (∀ j, j < 4 → f j = some (sA S (400 + 20 * j))) ∧ M (sA S 19) = some (19, .inl (hT G 4, 4, .inr (.inr (.inr (.inr f)))))
def CeE (G : hG) (M : hM) (S : hSy) (cx : Nat) : Prop := ∃ am be yl lo, CesV G M S cx am be yl lo
def TrE (G : hG) (M : hM) (S : hSy) (j : Nat) : Prop := ∃ ce nv, TrV G M S j ce nv
/-- the whole house, ready for questions -/
def QV (G : hG) (M : hM) (S : hSy) (h : hHo) : Prop := SyV G M S ∧ SyG S ∧ HoV G M S h ∧ (∀ cx, cx < 3 → CeE G M S cx) ∧ (∀ j, j < 4 → TrE G M S j) ∧ hNow h < 10 ∧ ∀ i, i < sM S → clY (sC S i) ≤ hNow h
theorem HoV.sim {G : hG} {Z : Nat → Prop} {M M' : hM} {S : hSy} {h : hHo} (hq : hSim G Z M M') (hz : ∀ u, Z u → hScr u) (hV : HoV G M S h) : HoV G M' S h := by
  obtain ⟨h0, h1, h2, h3, f, h4, h5⟩ := hV
  exact ⟨hq.obj h0, hq.obj h1, hq.keep h2 (fun q => by have := hz _ q; unfold hScr hS0 at this; omega), hq.keep h3 (fun q => by have := hz _ q; unfold hScr hS0 at this; omega), f, h4, hq.oth h5⟩
theorem CeE.sim {G : hG} {Z : Nat → Prop} {M M' : hM} {S : hSy} {cx : Nat} (hq : hSim G Z M M') (hV : CeE G M S cx) : CeE G M' S cx := by
  obtain ⟨am, be, yl, lo, ho, ham, ⟨fb, hfb, hbo⟩, hbr, ⟨fy, hfy, hyo⟩, hyr, hlo⟩ := hV
  obtain ⟨am', ham'⟩ := hq.row ham
  obtain ⟨lo', hlo'⟩ := hq.row hlo
  have hb : ∀ i : Nat, ∃ b : Nat → Int32, i < 40 → M' (sA S (100 * (cx + 1) + 10 + i)) = some (100 * (cx + 1) + 10 + i, .inl (hT G 0, 8, .inl b)) := fun i => by
    by_cases hi : i < 40
    · obtain ⟨b, hb⟩ := hq.row (hbr i hi)
      exact ⟨b, fun _ => hb⟩
    · exact ⟨fun _ => 0, fun q => absurd q hi⟩
  have hy : ∀ k : Nat, ∃ b : Nat → Int32, k < 8 → M' (sA S (100 * (cx + 1) + 60 + k)) = some (100 * (cx + 1) + 60 + k, .inl (hT G 0, 10, .inl b)) := fun i => by
    by_cases hi : i < 8
    · obtain ⟨b, hb⟩ := hq.row (hyr i hi)
      exact ⟨b, fun _ => hb⟩
    · exact ⟨fun _ => 0, fun q => absurd q hi⟩
  obtain ⟨be', hbe'⟩ := Classical.axiomOfChoice hb
  obtain ⟨yl', hyl'⟩ := Classical.axiomOfChoice hy
  exact ⟨am', be', yl', lo', hq.obj ho, ham', ⟨fb, hfb, hq.oth hbo⟩, hbe', ⟨fy, hfy, hq.oth hyo⟩, hyl', hlo'⟩
theorem TrE.sim {G : hG} {Z : Nat → Prop} {M M' : hM} {S : hSy} {j : Nat} (hq : hSim G Z M M') (hV : TrE G M S j) : TrE G M' S j := by
  obtain ⟨ce, nv, h1, ⟨f, h2, h3⟩, h4⟩ := hV
  obtain ⟨nv', h1'⟩ := hq.tri h1
  have hb : ∀ i : Nat, ∃ b : Nat → Int32, i < 10 → M' (sA S (400 + 20 * j + 2 + i)) = some (400 + 20 * j + 2 + i, .inl (hT G 0, 10, .inl b)) := fun i => by
    by_cases hi : i < 10
    · obtain ⟨b, hb⟩ := hq.row (h4 i hi)
      exact ⟨b, fun _ => hb⟩
    · exact ⟨fun _ => 0, fun q => absurd q hi⟩
  obtain ⟨ce', hce'⟩ := Classical.axiomOfChoice hb
  exact ⟨ce', nv', h1', ⟨f, h2, hq.oth h3⟩, hce'⟩
theorem QV.sim {G : hG} {M M' : hM} {S : hSy} {h : hHo} (hq : hSim G hScr M M') (hV : QV G M S h) : QV G M' S h :=
  ⟨hV.1.sim hq (fun _ q => q), hV.2.1, hV.2.2.1.sim hq (fun _ q => q), fun cx hc => (hV.2.2.2.1 cx hc).sim hq, fun j hj => (hV.2.2.2.2.1 j hj).sim hq, hV.2.2.2.2.2⟩
/-- what a claim comes to at an age; 0 ahead of its year -/
def qAt (S : hSy) (now age : Nat) (pd : Bool) (i : Nat) : Int32 := if age ≤ now - clY (sC S i) then clKnown (sC S i) age now pd else 0
/-- what it comes to now -/
def qAm (S : hSy) (pd : Bool) (i : Nat) : Int32 := if pd then clI (sC S i) 1 else clI (sC S i) 1 + clI (sC S i) 2
theorem pYl_congr (S : hSy) (mu : Int32) {am am' : Nat → Int32} : ∀ i, (∀ j, j < i → am j = am' j) → pYl S mu am i = pYl S mu am' i
  | 0, _ => rfl
  | i + 1, hh => by
    have e := pYl_congr S mu i (fun j hj => hh j (by omega))
    funext k y
    unfold pYl
    rw [e, hh i (by omega)]
theorem pBe_congr (S : hSy) (mu : Int32) {am am' : Nat → Int32} (i : Nat) (hh : ∀ j, j ≤ i → am j = am' j) : pBe S mu am i = pBe S mu am' i := by
  unfold pBe
  rw [pYl_congr S mu i (fun j hj => hh j (by omega)), hh i (Nat.le_refl _)]
/-- a cession holds what the amounts A give -/
def CesIs (G : hG) (M : hM) (S : hSy) (cx : Nat) (mu : Int32) (A : Nat → Int32) : Prop := ∃ am be yl lo, CesV G M S cx am be yl lo ∧ (∀ i, i < sM S → am i = A i) ∧ (∀ i, i < sM S → ∀ k, k < sN S → be i k = pBe S mu A i k) ∧ (∀ k, k < sN S → ∀ y, y < 10 → yl k y = pYl S mu A (sM S) k y)
theorem CesIs.sim {G : hG} {Z : Nat → Prop} {M M' : hM} {S : hSy} {cx : Nat} {mu : Int32} {A : Nat → Int32} (h : hSim G Z M M') (hs : ∀ u, Z u → ¬ (100 * (cx + 1) ≤ u ∧ u < 100 * (cx + 1) + 100)) (hV : CesIs G M S cx mu A) : CesIs G M' S cx mu A := by
  obtain ⟨am, be, yl, lo, h1, h2⟩ := hV
  exact ⟨am, be, yl, lo, h1.sim h hs, h2⟩
theorem rSum_congr {f g : Nat → Int32} : ∀ n, (∀ i, i < n → f i = g i) → rSum f n = rSum g n
  | 0, _ => rfl
  | n + 1, h => by
    unfold rSum
    rw [rSum_congr n (fun i hi => h i (by omega)), h n (by omega)]
theorem rGiven_congr (S : hSy) {be be' : Nat → Nat → Int32} {i k : Nat} (h : be i k = be' i k) : rGiven S be i k = rGiven S be' i k := by unfold rGiven; rw [h]
theorem rAll_congr (S : hSy) {be be' : Nat → Nat → Int32} {i : Nat} (h : ∀ k, k < sN S → be i k = be' i k) : rAll S be i = rAll S be' i := rSum_congr _ (fun k hk => rGiven_congr S (h k hk))
theorem rLeft_congr (S : hSy) {am am' : Nat → Int32} {be be' : Nat → Nat → Int32} {i : Nat} (ha : am i = am' i) (h : ∀ k, k < sN S → be i k = be' i k) : rLeft S am be i = rLeft S am' be' i := by unfold rLeft; rw [ha, rAll_congr S h]
theorem rLefts_congr (S : hSy) {am am' : Nat → Int32} {be be' : Nat → Nat → Int32} (ha : ∀ i, i < sM S → am i = am' i) (h : ∀ i, i < sM S → ∀ k, k < sN S → be i k = be' i k) : rLefts S am be = rLefts S am' be' := rSum_congr _ (fun i hi => rLeft_congr S (ha i hi) (h i hi))
theorem rBorne_congr (S : hSy) {yl yl' : Nat → Nat → Int32} {k y : Nat} (h : yl k y = yl' k y) : rBorne S yl k y = rBorne S yl' k y := by unfold rBorne; rw [h]
theorem rCharge_congr (S : hSy) {yl yl' : Nat → Nat → Int32} {k y : Nat} (h : yl k y = yl' k y) : rCharge S yl k y = rCharge S yl' k y := by unfold rCharge; rw [rBorne_congr S h]
theorem rIn_congr {z : Int32} {f g : Nat → Int32} : ∀ n, (∀ i, i < n → f i = g i) → rIn z f n = rIn z g n
  | 0, _ => rfl
  | n + 1, h => by
    unfold rIn
    rw [rIn_congr n (fun i hi => h i (by omega)), h n (by omega)]
theorem rAcc_congr {f g : Nat → Nat → Int32} (n : Nat) : ∀ k, (∀ i, i < k → ∀ y, y < n → f i y = g i y) → rAcc f n k = rAcc g n k
  | 0, _ => rfl
  | k + 1, h => by
    unfold rAcc
    rw [rAcc_congr n k (fun i hi => h i (by omega)), rIn_congr n (h k (by omega))]
theorem rCharges_congr (S : hSy) {yl yl' : Nat → Nat → Int32} (h : ∀ k, k < sN S → ∀ y, y < 10 → yl k y = yl' k y) : rCharges S yl = rCharges S yl' := rAcc_congr 10 _ (fun k hk y hy => rCharge_congr S (h k hk y hy))
theorem rCount_congr (S : hSy) {be be' : Nat → Nat → Int32} {k y : Nat} : ∀ n, (∀ i, i < n → be i k = be' i k) → rCount S be k y n = rCount S be' k y n
  | 0, _ => rfl
  | n + 1, h => by
    unfold rCount
    rw [rCount_congr S n (fun i hi => h i (by omega)), h n (by omega)]
theorem gw_X11_176 : GoodIn hGW (wsV RX11 176 RJx4a65c yJx4a65c_size_8abf5 (Cond.code yJx4a65c_size_8abf5 cJx4a65c_size_8abf5 1 (Option.some FieldType.int) :: hGW)) := hgi4 kml_X11_176 kin_Jx4a65c_size_8abf5 kse_Jx4a65c_Jx4a65c_size_8abf5_Jx4a65c_size_8abf5 kini_Jx4a65c kco_Jx4a65c_size_8abf5
theorem dsc_Jx4a65c_size_8abf5 : yJx4a65c_size_8abf5.cls = RJx4a65c ∧ yJx4a65c_size_8abf5.cls ≠ "java/lang/invoke/MethodHandle" ∧ yJx4a65c_size_8abf5.cls ≠ "java/lang/invoke/VarHandle" ∧ (parseMethodDescriptor yJx4a65c_size_8abf5.desc).map (fun d => d.parameters.length) = some 0 := ⟨rfl, by decide +kernel, by decide +kernel, by decide +kernel⟩
theorem dX11_hasLayer_0 : decode cX11_hasLayer 0 = .ok (.iload_n 1, 1) := by decide +kernel
theorem dX11_hasLayer_1 : decode cX11_hasLayer 1 = .ok (.ifCond .lt 18, 3) := by decide +kernel
theorem dX11_hasLayer_4 : decode cX11_hasLayer 4 = .ok (.iload_n 1, 1) := by decide +kernel
theorem dX11_hasLayer_5 : decode cX11_hasLayer 5 = .ok (.aload_n 0, 1) := by decide +kernel
theorem dX11_hasLayer_6 : decode cX11_hasLayer 6 = .ok (.getfield 42, 3) := by decide +kernel
theorem dX11_hasLayer_9 : decode cX11_hasLayer 9 = .ok (.invokevirtual 176, 3) := by decide +kernel
theorem dX11_hasLayer_12 : decode cX11_hasLayer 12 = .ok (.if_icmp .ge 7, 3) := by decide +kernel
theorem dX11_hasLayer_15 : decode cX11_hasLayer 15 = .ok (.iconst 1, 1) := by decide +kernel
theorem dX11_hasLayer_16 : decode cX11_hasLayer 16 = .ok (.goto 4, 3) := by decide +kernel
theorem dX11_hasLayer_20 : decode cX11_hasLayer 20 = .ok (.ireturn, 1) := by decide +kernel
set_option maxHeartbeats 400000 in
set_option maxRecDepth 100000 in
theorem c_hasLayer (l : Launch) (G : hG) (M : hM) (S : hSy) (h : hHo) (hQv : QV G M S h) (k : Nat) (hk : k < sN S) : hCT l G yX11_hasLayer cX11_hasLayer 2 (Option.some FieldType.boolean) (hRm 2 0 0) M [.ref (sA S 0), .int (nI k)] (hRd M (.int 1)) := by
  refine hCT.of (own := RX11) (nm := "hasLayer") (by decide) rfl rfl (Nat.le_of_ble_eq_true rfl) ?_
  intro p e s m args below meth c ls X Y hl
  have hx := X.1
  have hb := X.2.1
  have hl : lv_has ls 2 [(0, .ref (sA S 0)), (1, .int (nI k))] := hl
  obtain ⟨hS, hG1, hHo, hCe, hTr, hnow, hyn⟩ := id hQv
  obtain ⟨hN8, hM40, hLG, hCY⟩ := id hG1
  obtain ⟨hl13, he14, hl15, he16, hLa, hCl⟩ := id hS
  obtain ⟨mc13, hlo13⟩ := id hl13
  obtain ⟨mc15, hlo15⟩ := id hl15
  obtain ⟨ho0, ho1, ho17, ho18, ft19, hft19, ho19⟩ := id hHo
  refine lv_iload_n hx hb dX11_hasLayer_0 rfl (lv_at hl 1 rfl) ?_
  refine lv_if_lt (tgt := 19) hx hb dX11_hasLayer_1 (by decide) (fun c1 => absurd (show k < 0 from (nI_ltI (a := k) (b := 0) (by omega) (by omega)).mp c1) (by omega)) (fun c1 => ?_)
  have c1 : ¬ k < 0 := fun z9 => c1 ((nI_ltI (a := k) (b := 0) (by omega) (by omega)).mpr z9)
  refine lv_iload_n hx hb dX11_hasLayer_4 rfl (lv_at hl 1 rfl) ?_
  refine lv_aload_n hx hb dX11_hasLayer_5 rfl (lv_at hl 0 rfl) ?_
  refine h_get X Y (k := 4) (v := .ref (sA S 13)) ho0 rfl hin_X11 (by decide) kfl_X11_42 rfl dX11_hasLayer_6 ?_
  refine h_callVr (rest := [.int (nI k)]) X Y (c_size l G M (sA S 13) 13 (sA S 14) (sN S) hl13) rfl rfl gw_X11_176 dsc_Jx4a65c_size_8abf5 hlo13 rfl rfl rfl rfl hl.1 (Nat.le_of_ble_eq_true rfl) ⟨Nat.le_of_ble_eq_true rfl, Nat.le_of_ble_eq_true rfl⟩ ⟨Nat.le_of_ble_eq_true rfl, Nat.le_of_ble_eq_true rfl⟩ dX11_hasLayer_9 (fun H locs Y => ?_)
  refine lv_icmp_ge (tgt := 19) hx hb dX11_hasLayer_12 (by decide) (fun c12 => absurd (show (sN S) ≤ k from (nI_leI (a := (sN S)) (b := k) (by omega) (by omega)).mp c12) (by omega)) (fun c12 => ?_)
  have c12 : ¬ (sN S) ≤ k := fun z9 => c12 ((nI_leI (a := (sN S)) (b := k) (by omega) (by omega)).mpr z9)
  refine lv_iconst (v := 1) hx hb dX11_hasLayer_15 (by decide) ?_
  refine lv_goto (tgt := 20) hx hb dX11_hasLayer_16 (by decide) ?_
  exact h_zret X Y rfl ⟨rfl, rfl⟩ (Nat.le_refl _) (Nat.le_refl _) dX11_hasLayer_20
theorem dX11_hasClaim_0 : decode cX11_hasClaim 0 = .ok (.iload_n 1, 1) := by decide +kernel
theorem dX11_hasClaim_1 : decode cX11_hasClaim 1 = .ok (.ifCond .lt 18, 3) := by decide +kernel
theorem dX11_hasClaim_4 : decode cX11_hasClaim 4 = .ok (.iload_n 1, 1) := by decide +kernel
theorem dX11_hasClaim_5 : decode cX11_hasClaim 5 = .ok (.aload_n 0, 1) := by decide +kernel
theorem dX11_hasClaim_6 : decode cX11_hasClaim 6 = .ok (.getfield 46, 3) := by decide +kernel
theorem dX11_hasClaim_9 : decode cX11_hasClaim 9 = .ok (.invokevirtual 176, 3) := by decide +kernel
theorem dX11_hasClaim_12 : decode cX11_hasClaim 12 = .ok (.if_icmp .ge 7, 3) := by decide +kernel
theorem dX11_hasClaim_15 : decode cX11_hasClaim 15 = .ok (.iconst 1, 1) := by decide +kernel
theorem dX11_hasClaim_16 : decode cX11_hasClaim 16 = .ok (.goto 4, 3) := by decide +kernel
theorem dX11_hasClaim_20 : decode cX11_hasClaim 20 = .ok (.ireturn, 1) := by decide +kernel
set_option maxHeartbeats 400000 in
set_option maxRecDepth 100000 in
theorem c_hasClaim (l : Launch) (G : hG) (M : hM) (S : hSy) (h : hHo) (hQv : QV G M S h) (i : Nat) (hi : i < sM S) : hCT l G yX11_hasClaim cX11_hasClaim 2 (Option.some FieldType.boolean) (hRm 2 0 0) M [.ref (sA S 0), .int (nI i)] (hRd M (.int 1)) := by
  refine hCT.of (own := RX11) (nm := "hasClaim") (by decide) rfl rfl (Nat.le_of_ble_eq_true rfl) ?_
  intro p e s m args below meth c ls X Y hl
  have hx := X.1
  have hb := X.2.1
  have hl : lv_has ls 2 [(0, .ref (sA S 0)), (1, .int (nI i))] := hl
  obtain ⟨hS, hG1, hHo, hCe, hTr, hnow, hyn⟩ := id hQv
  obtain ⟨hN8, hM40, hLG, hCY⟩ := id hG1
  obtain ⟨hl13, he14, hl15, he16, hLa, hCl⟩ := id hS
  obtain ⟨mc13, hlo13⟩ := id hl13
  obtain ⟨mc15, hlo15⟩ := id hl15
  obtain ⟨ho0, ho1, ho17, ho18, ft19, hft19, ho19⟩ := id hHo
  refine lv_iload_n hx hb dX11_hasClaim_0 rfl (lv_at hl 1 rfl) ?_
  refine lv_if_lt (tgt := 19) hx hb dX11_hasClaim_1 (by decide) (fun c1 => absurd (show i < 0 from (nI_ltI (a := i) (b := 0) (by omega) (by omega)).mp c1) (by omega)) (fun c1 => ?_)
  have c1 : ¬ i < 0 := fun z9 => c1 ((nI_ltI (a := i) (b := 0) (by omega) (by omega)).mpr z9)
  refine lv_iload_n hx hb dX11_hasClaim_4 rfl (lv_at hl 1 rfl) ?_
  refine lv_aload_n hx hb dX11_hasClaim_5 rfl (lv_at hl 0 rfl) ?_
  refine h_get X Y (k := 5) (v := .ref (sA S 15)) ho0 rfl hin_X11 (by decide) kfl_X11_46 rfl dX11_hasClaim_6 ?_
  refine h_callVr (rest := [.int (nI i)]) X Y (c_size l G M (sA S 15) 15 (sA S 16) (sM S) hl15) rfl rfl gw_X11_176 dsc_Jx4a65c_size_8abf5 hlo15 rfl rfl rfl rfl hl.1 (Nat.le_of_ble_eq_true rfl) ⟨Nat.le_of_ble_eq_true rfl, Nat.le_of_ble_eq_true rfl⟩ ⟨Nat.le_of_ble_eq_true rfl, Nat.le_of_ble_eq_true rfl⟩ dX11_hasClaim_9 (fun H locs Y => ?_)
  refine lv_icmp_ge (tgt := 19) hx hb dX11_hasClaim_12 (by decide) (fun c12 => absurd (show (sM S) ≤ i from (nI_leI (a := (sM S)) (b := i) (by omega) (by omega)).mp c12) (by omega)) (fun c12 => ?_)
  have c12 : ¬ (sM S) ≤ i := fun z9 => c12 ((nI_leI (a := (sM S)) (b := i) (by omega) (by omega)).mpr z9)
  refine lv_iconst (v := 1) hx hb dX11_hasClaim_15 (by decide) ?_
  refine lv_goto (tgt := 20) hx hb dX11_hasClaim_16 (by decide) ?_
  exact h_zret X Y rfl ⟨rfl, rfl⟩ (Nat.le_refl _) (Nat.le_refl _) dX11_hasClaim_20
theorem dX11_isYear_0 : decode cX11_isYear 0 = .ok (.iload_n 1, 1) := by decide +kernel
theorem dX11_isYear_1 : decode cX11_isYear 1 = .ok (.ifCond .lt 13, 3) := by decide +kernel
theorem dX11_isYear_4 : decode cX11_isYear 4 = .ok (.iload_n 1, 1) := by decide +kernel
theorem dX11_isYear_5 : decode cX11_isYear 5 = .ok (.bipush 10, 2) := by decide +kernel
theorem dX11_isYear_7 : decode cX11_isYear 7 = .ok (.if_icmp .ge 7, 3) := by decide +kernel
theorem dX11_isYear_10 : decode cX11_isYear 10 = .ok (.iconst 1, 1) := by decide +kernel
theorem dX11_isYear_11 : decode cX11_isYear 11 = .ok (.goto 4, 3) := by decide +kernel
theorem dX11_isYear_15 : decode cX11_isYear 15 = .ok (.ireturn, 1) := by decide +kernel
set_option maxHeartbeats 400000 in
set_option maxRecDepth 100000 in
theorem c_isYear (l : Launch) (G : hG) (M : hM) (a y : Nat) (hy : y < 10) : hCT l G yX11_isYear cX11_isYear 2 (Option.some FieldType.boolean) (hRm 1 0 0) M [.ref a, .int (nI y)] (hRd M (.int 1)) := by
  refine hCT.of (own := RX11) (nm := "isYear") (by decide) rfl rfl (Nat.le_of_ble_eq_true rfl) ?_
  intro p e s m args below meth c ls X Y hl
  have hx := X.1
  have hb := X.2.1
  have hl : lv_has ls 2 [(0, .ref a), (1, .int (nI y))] := hl
  refine lv_iload_n hx hb dX11_isYear_0 rfl (lv_at hl 1 rfl) ?_
  refine lv_if_lt (tgt := 14) hx hb dX11_isYear_1 (by decide) (fun c1 => absurd (show y < 0 from (nI_ltI (a := y) (b := 0) (by omega) (by omega)).mp c1) (by omega)) (fun c1 => ?_)
  have c1 : ¬ y < 0 := fun z9 => c1 ((nI_ltI (a := y) (b := 0) (by omega) (by omega)).mpr z9)
  refine lv_iload_n hx hb dX11_isYear_4 rfl (lv_at hl 1 rfl) ?_
  refine lv_bipush (v := 10) hx hb dX11_isYear_5 (by decide) ?_
  refine lv_icmp_ge (tgt := 14) hx hb dX11_isYear_7 (by decide) (fun c7 => absurd (show 10 ≤ y from (nI_leI (a := 10) (b := y) (by omega) (by omega)).mp c7) (by omega)) (fun c7 => ?_)
  have c7 : ¬ 10 ≤ y := fun z9 => c7 ((nI_leI (a := 10) (b := y) (by omega) (by omega)).mpr z9)
  refine lv_iconst (v := 1) hx hb dX11_isYear_10 (by decide) ?_
  refine lv_goto (tgt := 15) hx hb dX11_isYear_11 (by decide) ?_
  exact h_zret X Y rfl ⟨rfl, rfl⟩ (Nat.le_refl _) (Nat.le_refl _) dX11_isYear_15
theorem dX11_isYearSoFar_0 : decode cX11_isYearSoFar 0 = .ok (.iload_n 1, 1) := by decide +kernel
theorem dX11_isYearSoFar_1 : decode cX11_isYearSoFar 1 = .ok (.ifCond .lt 15, 3) := by decide +kernel
theorem dX11_isYearSoFar_4 : decode cX11_isYearSoFar 4 = .ok (.iload_n 1, 1) := by decide +kernel
theorem dX11_isYearSoFar_5 : decode cX11_isYearSoFar 5 = .ok (.aload_n 0, 1) := by decide +kernel
theorem dX11_isYearSoFar_6 : decode cX11_isYearSoFar 6 = .ok (.getfield 78, 3) := by decide +kernel
theorem dX11_isYearSoFar_9 : decode cX11_isYearSoFar 9 = .ok (.if_icmp .gt 7, 3) := by decide +kernel
theorem dX11_isYearSoFar_12 : decode cX11_isYearSoFar 12 = .ok (.iconst 1, 1) := by decide +kernel
theorem dX11_isYearSoFar_13 : decode cX11_isYearSoFar 13 = .ok (.goto 4, 3) := by decide +kernel
theorem dX11_isYearSoFar_17 : decode cX11_isYearSoFar 17 = .ok (.ireturn, 1) := by decide +kernel
set_option maxHeartbeats 400000 in
set_option maxRecDepth 100000 in
theorem c_isYearSoFar (l : Launch) (G : hG) (M : hM) (S : hSy) (h : hHo) (hQv : QV G M S h) (y : Nat) (hy : y ≤ hNow h) : hCT l G yX11_isYearSoFar cX11_isYearSoFar 2 (Option.some FieldType.boolean) (hRm 1 0 0) M [.ref (sA S 0), .int (nI y)] (hRd M (.int 1)) := by
  refine hCT.of (own := RX11) (nm := "isYearSoFar") (by decide) rfl rfl (Nat.le_of_ble_eq_true rfl) ?_
  intro p e s m args below meth c ls X Y hl
  have hx := X.1
  have hb := X.2.1
  have hl : lv_has ls 2 [(0, .ref (sA S 0)), (1, .int (nI y))] := hl
  obtain ⟨hS, hG1, hHo, hCe, hTr, hnow, hyn⟩ := id hQv
  obtain ⟨hN8, hM40, hLG, hCY⟩ := id hG1
  obtain ⟨hl13, he14, hl15, he16, hLa, hCl⟩ := id hS
  obtain ⟨mc13, hlo13⟩ := id hl13
  obtain ⟨mc15, hlo15⟩ := id hl15
  obtain ⟨ho0, ho1, ho17, ho18, ft19, hft19, ho19⟩ := id hHo
  refine lv_iload_n hx hb dX11_isYearSoFar_0 rfl (lv_at hl 1 rfl) ?_
  refine lv_if_lt (tgt := 16) hx hb dX11_isYearSoFar_1 (by decide) (fun c1 => absurd (show y < 0 from (nI_ltI (a := y) (b := 0) (by omega) (by omega)).mp c1) (by omega)) (fun c1 => ?_)
  have c1 : ¬ y < 0 := fun z9 => c1 ((nI_ltI (a := y) (b := 0) (by omega) (by omega)).mpr z9)
  refine lv_iload_n hx hb dX11_isYearSoFar_4 rfl (lv_at hl 1 rfl) ?_
  refine lv_aload_n hx hb dX11_isYearSoFar_5 rfl (lv_at hl 0 rfl) ?_
  refine h_get X Y (k := 12) (v := .int (nI (hNow h))) ho0 rfl hin_X11 (by decide) kfl_X11_78 rfl dX11_isYearSoFar_6 ?_
  refine lv_icmp_gt (tgt := 16) hx hb dX11_isYearSoFar_9 (by decide) (fun c9 => absurd (show (hNow h) < y from (nI_ltI (a := (hNow h)) (b := y) (by omega) (by omega)).mp c9) (by omega)) (fun c9 => ?_)
  have c9 : ¬ (hNow h) < y := fun z9 => c9 ((nI_ltI (a := (hNow h)) (b := y) (by omega) (by omega)).mpr z9)
  refine lv_iconst (v := 1) hx hb dX11_isYearSoFar_12 (by decide) ?_
  refine lv_goto (tgt := 17) hx hb dX11_isYearSoFar_13 (by decide) ?_
  exact h_zret X Y rfl ⟨rfl, rfl⟩ (Nat.le_refl _) (Nat.le_refl _) dX11_isYearSoFar_17
theorem dX11_isReserve_0 : decode cX11_isReserve 0 = .ok (.iload_n 1, 1) := by decide +kernel
theorem dX11_isReserve_1 : decode cX11_isReserve 1 = .ok (.ifCond .lt 13, 3) := by decide +kernel
theorem dX11_isReserve_4 : decode cX11_isReserve 4 = .ok (.iload_n 1, 1) := by decide +kernel
theorem dX11_isReserve_5 : decode cX11_isReserve 5 = .ok (.ldc 195, 2) := by decide +kernel
theorem dX11_isReserve_7 : decode cX11_isReserve 7 = .ok (.if_icmp .gt 7, 3) := by decide +kernel
theorem dX11_isReserve_10 : decode cX11_isReserve 10 = .ok (.iconst 1, 1) := by decide +kernel
theorem dX11_isReserve_11 : decode cX11_isReserve 11 = .ok (.goto 4, 3) := by decide +kernel
theorem dX11_isReserve_15 : decode cX11_isReserve 15 = .ok (.ireturn, 1) := by decide +kernel
set_option maxHeartbeats 400000 in
set_option maxRecDepth 100000 in
theorem c_isReserve (l : Launch) (G : hG) (M : hM) (a : Nat) (x : Int32) (h0 : ¬ x < 0) (h1 : x ≤ 1000000) : hCT l G yX11_isReserve cX11_isReserve 2 (Option.some FieldType.boolean) (hRm 1 0 0) M [.ref a, .int x] (hRd M (.int 1)) := by
  refine hCT.of (own := RX11) (nm := "isReserve") (by decide) rfl rfl (Nat.le_of_ble_eq_true rfl) ?_
  intro p e s m args below meth c ls X Y hl
  have hx := X.1
  have hb := X.2.1
  have hl : lv_has ls 2 [(0, .ref a), (1, .int x)] := hl
  refine lv_iload_n hx hb dX11_isReserve_0 rfl (lv_at hl 1 rfl) ?_
  refine lv_if_lt (tgt := 14) hx hb dX11_isReserve_1 (by decide) (fun c1 => absurd c1 h0) (fun c1 => ?_)
  refine lv_iload_n hx hb dX11_isReserve_4 rfl (lv_at hl 1 rfl) ?_
  refine lv_ldc hx hb X.2.2.2.2.1 (X.2.2.2.2.2.1 _ kcI_X11_195) dX11_isReserve_5 ?_
  refine lv_icmp_gt (tgt := 14) hx hb dX11_isReserve_7 (by decide) (fun c7 => absurd h1 (fb_lt c7)) (fun c7 => ?_)
  refine lv_iconst (v := 1) hx hb dX11_isReserve_10 (by decide) ?_
  refine lv_goto (tgt := 15) hx hb dX11_isReserve_11 (by decide) ?_
  exact h_zret X Y rfl ⟨rfl, rfl⟩ (Nat.le_refl _) (Nat.le_refl _) dX11_isReserve_15
theorem dX11_isKind_0 : decode cX11_isKind 0 = .ok (.iload_n 1, 1) := by decide +kernel
theorem dX11_isKind_1 : decode cX11_isKind 1 = .ok (.ifCond .lt 12, 3) := by decide +kernel
theorem dX11_isKind_4 : decode cX11_isKind 4 = .ok (.iload_n 1, 1) := by decide +kernel
theorem dX11_isKind_5 : decode cX11_isKind 5 = .ok (.iconst 4, 1) := by decide +kernel
theorem dX11_isKind_6 : decode cX11_isKind 6 = .ok (.if_icmp .ge 7, 3) := by decide +kernel
theorem dX11_isKind_9 : decode cX11_isKind 9 = .ok (.iconst 1, 1) := by decide +kernel
theorem dX11_isKind_10 : decode cX11_isKind 10 = .ok (.goto 4, 3) := by decide +kernel
theorem dX11_isKind_14 : decode cX11_isKind 14 = .ok (.ireturn, 1) := by decide +kernel
set_option maxHeartbeats 400000 in
set_option maxRecDepth 100000 in
theorem c_isKind (l : Launch) (G : hG) (M : hM) (a k : Nat) (hk : k < 4) : hCT l G yX11_isKind cX11_isKind 2 (Option.some FieldType.boolean) (hRm 1 0 0) M [.ref a, .int (nI k)] (hRd M (.int 1)) := by
  refine hCT.of (own := RX11) (nm := "isKind") (by decide) rfl rfl (Nat.le_of_ble_eq_true rfl) ?_
  intro p e s m args below meth c ls X Y hl
  have hx := X.1
  have hb := X.2.1
  have hl : lv_has ls 2 [(0, .ref a), (1, .int (nI k))] := hl
  refine lv_iload_n hx hb dX11_isKind_0 rfl (lv_at hl 1 rfl) ?_
  refine lv_if_lt (tgt := 13) hx hb dX11_isKind_1 (by decide) (fun c1 => absurd (show k < 0 from (nI_ltI (a := k) (b := 0) (by omega) (by omega)).mp c1) (by omega)) (fun c1 => ?_)
  have c1 : ¬ k < 0 := fun z9 => c1 ((nI_ltI (a := k) (b := 0) (by omega) (by omega)).mpr z9)
  refine lv_iload_n hx hb dX11_isKind_4 rfl (lv_at hl 1 rfl) ?_
  refine lv_iconst (v := 4) hx hb dX11_isKind_5 (by decide) ?_
  refine lv_icmp_ge (tgt := 13) hx hb dX11_isKind_6 (by decide) (fun c6 => absurd (show 4 ≤ k from (nI_leI (a := 4) (b := k) (by omega) (by omega)).mp c6) (by omega)) (fun c6 => ?_)
  have c6 : ¬ 4 ≤ k := fun z9 => c6 ((nI_leI (a := 4) (b := k) (by omega) (by omega)).mpr z9)
  refine lv_iconst (v := 1) hx hb dX11_isKind_9 (by decide) ?_
  refine lv_goto (tgt := 14) hx hb dX11_isKind_10 (by decide) ?_
  exact h_zret X Y rfl ⟨rfl, rfl⟩ (Nat.le_refl _) (Nat.le_refl _) dX11_isKind_14
theorem dX11_isMethod_0 : decode cX11_isMethod 0 = .ok (.iload_n 1, 1) := by decide +kernel
theorem dX11_isMethod_1 : decode cX11_isMethod 1 = .ok (.ifCond .lt 12, 3) := by decide +kernel
theorem dX11_isMethod_4 : decode cX11_isMethod 4 = .ok (.iload_n 1, 1) := by decide +kernel
theorem dX11_isMethod_5 : decode cX11_isMethod 5 = .ok (.iconst 3, 1) := by decide +kernel
theorem dX11_isMethod_6 : decode cX11_isMethod 6 = .ok (.if_icmp .ge 7, 3) := by decide +kernel
theorem dX11_isMethod_9 : decode cX11_isMethod 9 = .ok (.iconst 1, 1) := by decide +kernel
theorem dX11_isMethod_10 : decode cX11_isMethod 10 = .ok (.goto 4, 3) := by decide +kernel
theorem dX11_isMethod_14 : decode cX11_isMethod 14 = .ok (.ireturn, 1) := by decide +kernel
set_option maxHeartbeats 400000 in
set_option maxRecDepth 100000 in
theorem c_isMethod (l : Launch) (G : hG) (M : hM) (a k : Nat) (hk : k < 3) : hCT l G yX11_isMethod cX11_isMethod 2 (Option.some FieldType.boolean) (hRm 1 0 0) M [.ref a, .int (nI k)] (hRd M (.int 1)) := by
  refine hCT.of (own := RX11) (nm := "isMethod") (by decide) rfl rfl (Nat.le_of_ble_eq_true rfl) ?_
  intro p e s m args below meth c ls X Y hl
  have hx := X.1
  have hb := X.2.1
  have hl : lv_has ls 2 [(0, .ref a), (1, .int (nI k))] := hl
  refine lv_iload_n hx hb dX11_isMethod_0 rfl (lv_at hl 1 rfl) ?_
  refine lv_if_lt (tgt := 13) hx hb dX11_isMethod_1 (by decide) (fun c1 => absurd (show k < 0 from (nI_ltI (a := k) (b := 0) (by omega) (by omega)).mp c1) (by omega)) (fun c1 => ?_)
  have c1 : ¬ k < 0 := fun z9 => c1 ((nI_ltI (a := k) (b := 0) (by omega) (by omega)).mpr z9)
  refine lv_iload_n hx hb dX11_isMethod_4 rfl (lv_at hl 1 rfl) ?_
  refine lv_iconst (v := 3) hx hb dX11_isMethod_5 (by decide) ?_
  refine lv_icmp_ge (tgt := 13) hx hb dX11_isMethod_6 (by decide) (fun c6 => absurd (show 3 ≤ k from (nI_leI (a := 3) (b := k) (by omega) (by omega)).mp c6) (by omega)) (fun c6 => ?_)
  have c6 : ¬ 3 ≤ k := fun z9 => c6 ((nI_leI (a := 3) (b := k) (by omega) (by omega)).mpr z9)
  refine lv_iconst (v := 1) hx hb dX11_isMethod_9 (by decide) ?_
  refine lv_goto (tgt := 14) hx hb dX11_isMethod_10 (by decide) ?_
  exact h_zret X Y rfl ⟨rfl, rfl⟩ (Nat.le_refl _) (Nat.le_refl _) dX11_isMethod_14
theorem gw_X11_150 : GoodIn hGW (wsV RX11 150 RJx4a65c yJx4a65c_get_915e3 (Cond.code yJx4a65c_get_915e3 cJx4a65c_get_915e3 2 (Option.some (FieldType.object "java/lang/Object")) :: hGW)) := hgi4 kml_X11_150 kin_Jx4a65c_get_915e3 kse_Jx4a65c_Jx4a65c_get_915e3_Jx4a65c_get_915e3 kini_Jx4a65c kco_Jx4a65c_get_915e3
theorem dsc_Jx4a65c_get_915e3 : yJx4a65c_get_915e3.cls = RJx4a65c ∧ yJx4a65c_get_915e3.cls ≠ "java/lang/invoke/MethodHandle" ∧ yJx4a65c_get_915e3.cls ≠ "java/lang/invoke/VarHandle" ∧ (parseMethodDescriptor yJx4a65c_get_915e3.desc).map (fun d => d.parameters.length) = some 1 := ⟨rfl, by decide +kernel, by decide +kernel, by decide +kernel⟩
theorem dX11_allPaid_0 : decode cX11_allPaid 0 = .ok (.iconst 0, 1) := by decide +kernel
theorem dX11_allPaid_1 : decode cX11_allPaid 1 = .ok (.istore_n 1, 1) := by decide +kernel
theorem dX11_allPaid_2 : decode cX11_allPaid 2 = .ok (.iconst 0, 1) := by decide +kernel
theorem dX11_allPaid_3 : decode cX11_allPaid 3 = .ok (.istore_n 2, 1) := by decide +kernel
theorem dX11_allPaid_4 : decode cX11_allPaid 4 = .ok (.iload_n 2, 1) := by decide +kernel
theorem dX11_allPaid_5 : decode cX11_allPaid 5 = .ok (.aload_n 0, 1) := by decide +kernel
theorem dX11_allPaid_6 : decode cX11_allPaid 6 = .ok (.getfield 46, 3) := by decide +kernel
theorem dX11_allPaid_9 : decode cX11_allPaid 9 = .ok (.invokevirtual 176, 3) := by decide +kernel
theorem dX11_allPaid_12 : decode cX11_allPaid 12 = .ok (.if_icmp .ge 26, 3) := by decide +kernel
theorem dX11_allPaid_15 : decode cX11_allPaid 15 = .ok (.iload_n 1, 1) := by decide +kernel
theorem dX11_allPaid_16 : decode cX11_allPaid 16 = .ok (.aload_n 0, 1) := by decide +kernel
theorem dX11_allPaid_17 : decode cX11_allPaid 17 = .ok (.getfield 46, 3) := by decide +kernel
theorem dX11_allPaid_20 : decode cX11_allPaid 20 = .ok (.iload_n 2, 1) := by decide +kernel
theorem dX11_allPaid_21 : decode cX11_allPaid 21 = .ok (.invokevirtual 150, 3) := by decide +kernel
theorem dX11_allPaid_24 : decode cX11_allPaid 24 = .ok (.checkcast 181, 3) := by decide +kernel
theorem dX11_allPaid_27 : decode cX11_allPaid 27 = .ok (.getfield 202, 3) := by decide +kernel
theorem dX11_allPaid_30 : decode cX11_allPaid 30 = .ok (.iadd, 1) := by decide +kernel
theorem dX11_allPaid_31 : decode cX11_allPaid 31 = .ok (.istore_n 1, 1) := by decide +kernel
theorem dX11_allPaid_32 : decode cX11_allPaid 32 = .ok (.iinc 2 1, 3) := by decide +kernel
theorem dX11_allPaid_35 : decode cX11_allPaid 35 = .ok (.goto (-31), 3) := by decide +kernel
theorem dX11_allPaid_38 : decode cX11_allPaid 38 = .ok (.iload_n 1, 1) := by decide +kernel
theorem dX11_allPaid_39 : decode cX11_allPaid 39 = .ok (.ireturn, 1) := by decide +kernel
set_option maxHeartbeats 400000 in
set_option maxRecDepth 100000 in
theorem c_allPaid (l : Launch) (G : hG) (M : hM) (S : hSy) (h : hHo) (hQv : QV G M S h) : hCT l G yX11_allPaid cX11_allPaid 3 (Option.some FieldType.int) (hRm 5 0 0) M [.ref (sA S 0)] (hRd M (.int (rSum (fun i => clI (sC S i) 1) (sM S)))) := by
  refine hCT.of (own := RX11) (nm := "allPaid") (by decide) rfl rfl (Nat.le_of_ble_eq_true rfl) ?_
  intro p e s m args below meth c ls X Y hl
  have hx := X.1
  have hb := X.2.1
  have hl : lv_has ls 3 [(0, .ref (sA S 0))] := hl
  obtain ⟨hS, hG1, hHo, hCe, hTr, hnow, hyn⟩ := id hQv
  obtain ⟨hN8, hM40, hLG, hCY⟩ := id hG1
  obtain ⟨hl13, he14, hl15, he16, hLa, hCl⟩ := id hS
  obtain ⟨mc13, hlo13⟩ := id hl13
  obtain ⟨mc15, hlo15⟩ := id hl15
  obtain ⟨ho0, ho1, ho17, ho18, ft19, hft19, ho19⟩ := id hHo
  refine lv_iconst (v := 0) hx hb dX11_allPaid_0 (by decide) ?_
  refine lv_istore_n (lv' := [(1, .int 0), (0, .ref (sA S 0))]) hx hb dX11_allPaid_1 rfl hl (by decide) rfl (fun ls hl => ?_)
  refine lv_iconst (v := 0) hx hb dX11_allPaid_2 (by decide) ?_
  refine lv_istore_n (lv' := [(2, .int 0), (1, .int 0), (0, .ref (sA S 0))]) hx hb dX11_allPaid_3 rfl hl (by decide) rfl (fun ls hl => ?_)
  have loop : ∀ (d k : Nat), k + d = (sM S) + 1 → k ≤ (sM S) → ∀ (H : Heap) (locs : List Loc) (ls : Array Slot), hHS G M s H locs → lv_has ls 3 [(0, .ref (sA S 0)), (1, .int (rSum (fun i => clI (sC S i) 1) k)), (2, .int (nI k))] → W p l e (hRm 5 0 0) s m args below meth c H locs 0 0 (MQ below (hQ G (hRd M (.int (rSum (fun i => clI (sC S i) 1) (sM S))))) args s 0 0 (hA G)) (F0 m 4 ls []) := by
    intro d
    induction d with
    | zero => intro k h1 h2; exact absurd h1 (by omega)
    | succ d ih =>
      intro k h1 h2 H locs ls Y hl
      refine lv_iload_n hx hb dX11_allPaid_4 rfl (lv_at hl 2 rfl) ?_
      refine lv_aload_n hx hb dX11_allPaid_5 rfl (lv_at hl 0 rfl) ?_
      refine h_get X Y (k := 5) (v := .ref (sA S 15)) ho0 rfl hin_X11 (by decide) kfl_X11_46 rfl dX11_allPaid_6 ?_
      refine h_callVr (rest := [.int (nI k)]) X Y (c_size l G M (sA S 15) 15 (sA S 16) (sM S) hl15) rfl rfl gw_X11_176 dsc_Jx4a65c_size_8abf5 hlo15 rfl rfl rfl rfl hl.1 (Nat.le_of_ble_eq_true rfl) ⟨Nat.le_of_ble_eq_true rfl, Nat.le_of_ble_eq_true rfl⟩ ⟨Nat.le_of_ble_eq_true rfl, Nat.le_of_ble_eq_true rfl⟩ dX11_allPaid_9 (fun H locs Y => ?_)
      refine lv_icmp_ge (tgt := 38) hx hb dX11_allPaid_12 (by decide) (fun c12 => ?_) (fun c12 => ?_)
      · have c12 : (sM S) ≤ k := (nI_leI (a := (sM S)) (b := k) (by omega) (by omega)).mp c12
        have hk9 : k = (sM S) := by omega
        subst hk9
        refine lv_iload_n hx hb dX11_allPaid_38 rfl (lv_at hl 1 rfl) ?_
        exact h_iret X Y ⟨rfl, rfl⟩ (Nat.le_refl _) (Nat.le_refl _) dX11_allPaid_39
      · have c12 : ¬ (sM S) ≤ k := fun z9 => c12 ((nI_leI (a := (sM S)) (b := k) (by omega) (by omega)).mpr z9)
        refine lv_iload_n hx hb dX11_allPaid_15 rfl (lv_at hl 1 rfl) ?_
        refine lv_aload_n hx hb dX11_allPaid_16 rfl (lv_at hl 0 rfl) ?_
        refine h_get X Y (k := 5) (v := .ref (sA S 15)) ho0 rfl hin_X11 (by decide) kfl_X11_46 rfl dX11_allPaid_17 ?_
        refine lv_iload_n hx hb dX11_allPaid_20 rfl (lv_at hl 2 rfl) ?_
        refine h_callVr (rest := [.int (rSum (fun i => clI (sC S i) 1) k)]) X Y (c_get l G M (sA S 15) 15 (sA S 16) 16 (sM S) k (fun i => sA S (1000 + 10 * i)) hl15 (he16 (by omega)) (by omega)) rfl rfl gw_X11_150 dsc_Jx4a65c_get_915e3 hlo15 rfl rfl rfl rfl hl.1 (Nat.le_of_ble_eq_true rfl) ⟨Nat.le_of_ble_eq_true rfl, Nat.le_of_ble_eq_true rfl⟩ ⟨Nat.le_of_ble_eq_true rfl, Nat.le_of_ble_eq_true rfl⟩ dX11_allPaid_21 (fun H locs Y => ?_)
        refine h_cast X Y (hCl k (by omega)).1 rfl rfl kcl_X11_181 dX11_allPaid_24 ?_
        refine h_get X Y (k := 2) (v := .int (clI (sC S k) 1)) (hCl k (by omega)).1 rfl hin_X3 (by decide) kfl_X11_202 rfl dX11_allPaid_27 ?_
        refine lv_iadd hx hb dX11_allPaid_30 ?_
        refine lv_istore_n (lv' := [(1, .int ((rSum (fun i => clI (sC S i) 1) k) + (clI (sC S k) 1))), (0, .ref (sA S 0)), (2, .int (nI k))]) hx hb dX11_allPaid_31 rfl hl (by decide) rfl (fun ls hl => ?_)
        refine lv_iinc (v := nI (k + 1)) (lv' := [(2, .int (nI (k + 1))), (1, .int ((rSum (fun i => clI (sC S i) 1) k) + (clI (sC S k) 1))), (0, .ref (sA S 0))]) hx hb dX11_allPaid_32 hl (k := 2) rfl (nI_1 k) (by decide) rfl (fun ls hl => ?_)
        refine lv_goto (tgt := 4) hx hb dX11_allPaid_35 (by decide) ?_
        exact ih (k + 1) (by omega) (by omega) _ _ _ Y (lv_sub hl [2, 1, 0] rfl)
  exact loop ((sM S) + 1) 0 (by omega) (by omega) _ _ _ Y (lv_sub hl [2, 1, 0] rfl)
theorem dX11_allReserves_0 : decode cX11_allReserves 0 = .ok (.iconst 0, 1) := by decide +kernel
theorem dX11_allReserves_1 : decode cX11_allReserves 1 = .ok (.istore_n 1, 1) := by decide +kernel
theorem dX11_allReserves_2 : decode cX11_allReserves 2 = .ok (.iconst 0, 1) := by decide +kernel
theorem dX11_allReserves_3 : decode cX11_allReserves 3 = .ok (.istore_n 2, 1) := by decide +kernel
theorem dX11_allReserves_4 : decode cX11_allReserves 4 = .ok (.iload_n 2, 1) := by decide +kernel
theorem dX11_allReserves_5 : decode cX11_allReserves 5 = .ok (.aload_n 0, 1) := by decide +kernel
theorem dX11_allReserves_6 : decode cX11_allReserves 6 = .ok (.getfield 46, 3) := by decide +kernel
theorem dX11_allReserves_9 : decode cX11_allReserves 9 = .ok (.invokevirtual 176, 3) := by decide +kernel
theorem dX11_allReserves_12 : decode cX11_allReserves 12 = .ok (.if_icmp .ge 26, 3) := by decide +kernel
theorem dX11_allReserves_15 : decode cX11_allReserves 15 = .ok (.iload_n 1, 1) := by decide +kernel
theorem dX11_allReserves_16 : decode cX11_allReserves 16 = .ok (.aload_n 0, 1) := by decide +kernel
theorem dX11_allReserves_17 : decode cX11_allReserves 17 = .ok (.getfield 46, 3) := by decide +kernel
theorem dX11_allReserves_20 : decode cX11_allReserves 20 = .ok (.iload_n 2, 1) := by decide +kernel
theorem dX11_allReserves_21 : decode cX11_allReserves 21 = .ok (.invokevirtual 150, 3) := by decide +kernel
theorem dX11_allReserves_24 : decode cX11_allReserves 24 = .ok (.checkcast 181, 3) := by decide +kernel
theorem dX11_allReserves_27 : decode cX11_allReserves 27 = .ok (.getfield 207, 3) := by decide +kernel
theorem dX11_allReserves_30 : decode cX11_allReserves 30 = .ok (.iadd, 1) := by decide +kernel
theorem dX11_allReserves_31 : decode cX11_allReserves 31 = .ok (.istore_n 1, 1) := by decide +kernel
theorem dX11_allReserves_32 : decode cX11_allReserves 32 = .ok (.iinc 2 1, 3) := by decide +kernel
theorem dX11_allReserves_35 : decode cX11_allReserves 35 = .ok (.goto (-31), 3) := by decide +kernel
theorem dX11_allReserves_38 : decode cX11_allReserves 38 = .ok (.iload_n 1, 1) := by decide +kernel
theorem dX11_allReserves_39 : decode cX11_allReserves 39 = .ok (.ireturn, 1) := by decide +kernel
set_option maxHeartbeats 400000 in
set_option maxRecDepth 100000 in
theorem c_allReserves (l : Launch) (G : hG) (M : hM) (S : hSy) (h : hHo) (hQv : QV G M S h) : hCT l G yX11_allReserves cX11_allReserves 3 (Option.some FieldType.int) (hRm 5 0 0) M [.ref (sA S 0)] (hRd M (.int (rSum (fun i => clI (sC S i) 2) (sM S)))) := by
  refine hCT.of (own := RX11) (nm := "allReserves") (by decide) rfl rfl (Nat.le_of_ble_eq_true rfl) ?_
  intro p e s m args below meth c ls X Y hl
  have hx := X.1
  have hb := X.2.1
  have hl : lv_has ls 3 [(0, .ref (sA S 0))] := hl
  obtain ⟨hS, hG1, hHo, hCe, hTr, hnow, hyn⟩ := id hQv
  obtain ⟨hN8, hM40, hLG, hCY⟩ := id hG1
  obtain ⟨hl13, he14, hl15, he16, hLa, hCl⟩ := id hS
  obtain ⟨mc13, hlo13⟩ := id hl13
  obtain ⟨mc15, hlo15⟩ := id hl15
  obtain ⟨ho0, ho1, ho17, ho18, ft19, hft19, ho19⟩ := id hHo
  refine lv_iconst (v := 0) hx hb dX11_allReserves_0 (by decide) ?_
  refine lv_istore_n (lv' := [(1, .int 0), (0, .ref (sA S 0))]) hx hb dX11_allReserves_1 rfl hl (by decide) rfl (fun ls hl => ?_)
  refine lv_iconst (v := 0) hx hb dX11_allReserves_2 (by decide) ?_
  refine lv_istore_n (lv' := [(2, .int 0), (1, .int 0), (0, .ref (sA S 0))]) hx hb dX11_allReserves_3 rfl hl (by decide) rfl (fun ls hl => ?_)
  have loop : ∀ (d k : Nat), k + d = (sM S) + 1 → k ≤ (sM S) → ∀ (H : Heap) (locs : List Loc) (ls : Array Slot), hHS G M s H locs → lv_has ls 3 [(0, .ref (sA S 0)), (1, .int (rSum (fun i => clI (sC S i) 2) k)), (2, .int (nI k))] → W p l e (hRm 5 0 0) s m args below meth c H locs 0 0 (MQ below (hQ G (hRd M (.int (rSum (fun i => clI (sC S i) 2) (sM S))))) args s 0 0 (hA G)) (F0 m 4 ls []) := by
    intro d
    induction d with
    | zero => intro k h1 h2; exact absurd h1 (by omega)
    | succ d ih =>
      intro k h1 h2 H locs ls Y hl
      refine lv_iload_n hx hb dX11_allReserves_4 rfl (lv_at hl 2 rfl) ?_
      refine lv_aload_n hx hb dX11_allReserves_5 rfl (lv_at hl 0 rfl) ?_
      refine h_get X Y (k := 5) (v := .ref (sA S 15)) ho0 rfl hin_X11 (by decide) kfl_X11_46 rfl dX11_allReserves_6 ?_
      refine h_callVr (rest := [.int (nI k)]) X Y (c_size l G M (sA S 15) 15 (sA S 16) (sM S) hl15) rfl rfl gw_X11_176 dsc_Jx4a65c_size_8abf5 hlo15 rfl rfl rfl rfl hl.1 (Nat.le_of_ble_eq_true rfl) ⟨Nat.le_of_ble_eq_true rfl, Nat.le_of_ble_eq_true rfl⟩ ⟨Nat.le_of_ble_eq_true rfl, Nat.le_of_ble_eq_true rfl⟩ dX11_allReserves_9 (fun H locs Y => ?_)
      refine lv_icmp_ge (tgt := 38) hx hb dX11_allReserves_12 (by decide) (fun c12 => ?_) (fun c12 => ?_)
      · have c12 : (sM S) ≤ k := (nI_leI (a := (sM S)) (b := k) (by omega) (by omega)).mp c12
        have hk9 : k = (sM S) := by omega
        subst hk9
        refine lv_iload_n hx hb dX11_allReserves_38 rfl (lv_at hl 1 rfl) ?_
        exact h_iret X Y ⟨rfl, rfl⟩ (Nat.le_refl _) (Nat.le_refl _) dX11_allReserves_39
      · have c12 : ¬ (sM S) ≤ k := fun z9 => c12 ((nI_leI (a := (sM S)) (b := k) (by omega) (by omega)).mpr z9)
        refine lv_iload_n hx hb dX11_allReserves_15 rfl (lv_at hl 1 rfl) ?_
        refine lv_aload_n hx hb dX11_allReserves_16 rfl (lv_at hl 0 rfl) ?_
        refine h_get X Y (k := 5) (v := .ref (sA S 15)) ho0 rfl hin_X11 (by decide) kfl_X11_46 rfl dX11_allReserves_17 ?_
        refine lv_iload_n hx hb dX11_allReserves_20 rfl (lv_at hl 2 rfl) ?_
        refine h_callVr (rest := [.int (rSum (fun i => clI (sC S i) 2) k)]) X Y (c_get l G M (sA S 15) 15 (sA S 16) 16 (sM S) k (fun i => sA S (1000 + 10 * i)) hl15 (he16 (by omega)) (by omega)) rfl rfl gw_X11_150 dsc_Jx4a65c_get_915e3 hlo15 rfl rfl rfl rfl hl.1 (Nat.le_of_ble_eq_true rfl) ⟨Nat.le_of_ble_eq_true rfl, Nat.le_of_ble_eq_true rfl⟩ ⟨Nat.le_of_ble_eq_true rfl, Nat.le_of_ble_eq_true rfl⟩ dX11_allReserves_21 (fun H locs Y => ?_)
        refine h_cast X Y (hCl k (by omega)).1 rfl rfl kcl_X11_181 dX11_allReserves_24 ?_
        refine h_get X Y (k := 3) (v := .int (clI (sC S k) 2)) (hCl k (by omega)).1 rfl hin_X3 (by decide) kfl_X11_207 rfl dX11_allReserves_27 ?_
        refine lv_iadd hx hb dX11_allReserves_30 ?_
        refine lv_istore_n (lv' := [(1, .int ((rSum (fun i => clI (sC S i) 2) k) + (clI (sC S k) 2))), (0, .ref (sA S 0)), (2, .int (nI k))]) hx hb dX11_allReserves_31 rfl hl (by decide) rfl (fun ls hl => ?_)
        refine lv_iinc (v := nI (k + 1)) (lv' := [(2, .int (nI (k + 1))), (1, .int ((rSum (fun i => clI (sC S i) 2) k) + (clI (sC S k) 2))), (0, .ref (sA S 0))]) hx hb dX11_allReserves_32 hl (k := 2) rfl (nI_1 k) (by decide) rfl (fun ls hl => ?_)
        refine lv_goto (tgt := 4) hx hb dX11_allReserves_35 (by decide) ?_
        exact ih (k + 1) (by omega) (by omega) _ _ _ Y (lv_sub hl [2, 1, 0] rfl)
  exact loop ((sM S) + 1) 0 (by omega) (by omega) _ _ _ Y (lv_sub hl [2, 1, 0] rfl)
def clOpen (C : hCl) : Int32 := if clI C 3 = 0 then 0 else 1
theorem dX11_openClaims_0 : decode cX11_openClaims 0 = .ok (.iconst 0, 1) := by decide +kernel
theorem dX11_openClaims_1 : decode cX11_openClaims 1 = .ok (.istore_n 1, 1) := by decide +kernel
theorem dX11_openClaims_2 : decode cX11_openClaims 2 = .ok (.iconst 0, 1) := by decide +kernel
theorem dX11_openClaims_3 : decode cX11_openClaims 3 = .ok (.istore_n 2, 1) := by decide +kernel
theorem dX11_openClaims_4 : decode cX11_openClaims 4 = .ok (.iload_n 2, 1) := by decide +kernel
theorem dX11_openClaims_5 : decode cX11_openClaims 5 = .ok (.aload_n 0, 1) := by decide +kernel
theorem dX11_openClaims_6 : decode cX11_openClaims 6 = .ok (.getfield 46, 3) := by decide +kernel
theorem dX11_openClaims_9 : decode cX11_openClaims 9 = .ok (.invokevirtual 176, 3) := by decide +kernel
theorem dX11_openClaims_12 : decode cX11_openClaims 12 = .ok (.if_icmp .ge 34, 3) := by decide +kernel
theorem dX11_openClaims_15 : decode cX11_openClaims 15 = .ok (.iload_n 1, 1) := by decide +kernel
theorem dX11_openClaims_16 : decode cX11_openClaims 16 = .ok (.aload_n 0, 1) := by decide +kernel
theorem dX11_openClaims_17 : decode cX11_openClaims 17 = .ok (.getfield 46, 3) := by decide +kernel
theorem dX11_openClaims_20 : decode cX11_openClaims 20 = .ok (.iload_n 2, 1) := by decide +kernel
theorem dX11_openClaims_21 : decode cX11_openClaims 21 = .ok (.invokevirtual 150, 3) := by decide +kernel
theorem dX11_openClaims_24 : decode cX11_openClaims 24 = .ok (.checkcast 181, 3) := by decide +kernel
theorem dX11_openClaims_27 : decode cX11_openClaims 27 = .ok (.getfield 198, 3) := by decide +kernel
theorem dX11_openClaims_30 : decode cX11_openClaims 30 = .ok (.ifCond .eq 7, 3) := by decide +kernel
theorem dX11_openClaims_33 : decode cX11_openClaims 33 = .ok (.iconst 1, 1) := by decide +kernel
theorem dX11_openClaims_34 : decode cX11_openClaims 34 = .ok (.goto 4, 3) := by decide +kernel
theorem dX11_openClaims_37 : decode cX11_openClaims 37 = .ok (.iconst 0, 1) := by decide +kernel
theorem dX11_openClaims_38 : decode cX11_openClaims 38 = .ok (.iadd, 1) := by decide +kernel
theorem dX11_openClaims_39 : decode cX11_openClaims 39 = .ok (.istore_n 1, 1) := by decide +kernel
theorem dX11_openClaims_40 : decode cX11_openClaims 40 = .ok (.iinc 2 1, 3) := by decide +kernel
theorem dX11_openClaims_43 : decode cX11_openClaims 43 = .ok (.goto (-39), 3) := by decide +kernel
theorem dX11_openClaims_46 : decode cX11_openClaims 46 = .ok (.iload_n 1, 1) := by decide +kernel
theorem dX11_openClaims_47 : decode cX11_openClaims 47 = .ok (.ireturn, 1) := by decide +kernel
set_option maxHeartbeats 400000 in
set_option maxRecDepth 100000 in
theorem c_openClaims (l : Launch) (G : hG) (M : hM) (S : hSy) (h : hHo) (hQv : QV G M S h) : hCT l G yX11_openClaims cX11_openClaims 3 (Option.some FieldType.int) (hRm 5 0 0) M [.ref (sA S 0)] (hRd M (.int (rSum (fun i => clOpen (sC S i)) (sM S)))) := by
  refine hCT.of (own := RX11) (nm := "openClaims") (by decide) rfl rfl (Nat.le_of_ble_eq_true rfl) ?_
  intro p e s m args below meth c ls X Y hl
  have hx := X.1
  have hb := X.2.1
  have hl : lv_has ls 3 [(0, .ref (sA S 0))] := hl
  obtain ⟨hS, hG1, hHo, hCe, hTr, hnow, hyn⟩ := id hQv
  obtain ⟨hN8, hM40, hLG, hCY⟩ := id hG1
  obtain ⟨hl13, he14, hl15, he16, hLa, hCl⟩ := id hS
  obtain ⟨mc13, hlo13⟩ := id hl13
  obtain ⟨mc15, hlo15⟩ := id hl15
  obtain ⟨ho0, ho1, ho17, ho18, ft19, hft19, ho19⟩ := id hHo
  refine lv_iconst (v := 0) hx hb dX11_openClaims_0 (by decide) ?_
  refine lv_istore_n (lv' := [(1, .int 0), (0, .ref (sA S 0))]) hx hb dX11_openClaims_1 rfl hl (by decide) rfl (fun ls hl => ?_)
  refine lv_iconst (v := 0) hx hb dX11_openClaims_2 (by decide) ?_
  refine lv_istore_n (lv' := [(2, .int 0), (1, .int 0), (0, .ref (sA S 0))]) hx hb dX11_openClaims_3 rfl hl (by decide) rfl (fun ls hl => ?_)
  have loop : ∀ (d k : Nat), k + d = (sM S) + 1 → k ≤ (sM S) → ∀ (H : Heap) (locs : List Loc) (ls : Array Slot), hHS G M s H locs → lv_has ls 3 [(0, .ref (sA S 0)), (1, .int (rSum (fun i => clOpen (sC S i)) k)), (2, .int (nI k))] → W p l e (hRm 5 0 0) s m args below meth c H locs 0 0 (MQ below (hQ G (hRd M (.int (rSum (fun i => clOpen (sC S i)) (sM S))))) args s 0 0 (hA G)) (F0 m 4 ls []) := by
    intro d
    induction d with
    | zero => intro k h1 h2; exact absurd h1 (by omega)
    | succ d ih =>
      intro k h1 h2 H locs ls Y hl
      refine lv_iload_n hx hb dX11_openClaims_4 rfl (lv_at hl 2 rfl) ?_
      refine lv_aload_n hx hb dX11_openClaims_5 rfl (lv_at hl 0 rfl) ?_
      refine h_get X Y (k := 5) (v := .ref (sA S 15)) ho0 rfl hin_X11 (by decide) kfl_X11_46 rfl dX11_openClaims_6 ?_
      refine h_callVr (rest := [.int (nI k)]) X Y (c_size l G M (sA S 15) 15 (sA S 16) (sM S) hl15) rfl rfl gw_X11_176 dsc_Jx4a65c_size_8abf5 hlo15 rfl rfl rfl rfl hl.1 (Nat.le_of_ble_eq_true rfl) ⟨Nat.le_of_ble_eq_true rfl, Nat.le_of_ble_eq_true rfl⟩ ⟨Nat.le_of_ble_eq_true rfl, Nat.le_of_ble_eq_true rfl⟩ dX11_openClaims_9 (fun H locs Y => ?_)
      refine lv_icmp_ge (tgt := 46) hx hb dX11_openClaims_12 (by decide) (fun c12 => ?_) (fun c12 => ?_)
      · have c12 : (sM S) ≤ k := (nI_leI (a := (sM S)) (b := k) (by omega) (by omega)).mp c12
        have hk9 : k = (sM S) := by omega
        subst hk9
        refine lv_iload_n hx hb dX11_openClaims_46 rfl (lv_at hl 1 rfl) ?_
        exact h_iret X Y ⟨rfl, rfl⟩ (Nat.le_refl _) (Nat.le_refl _) dX11_openClaims_47
      · have c12 : ¬ (sM S) ≤ k := fun z9 => c12 ((nI_leI (a := (sM S)) (b := k) (by omega) (by omega)).mpr z9)
        refine lv_iload_n hx hb dX11_openClaims_15 rfl (lv_at hl 1 rfl) ?_
        refine lv_aload_n hx hb dX11_openClaims_16 rfl (lv_at hl 0 rfl) ?_
        refine h_get X Y (k := 5) (v := .ref (sA S 15)) ho0 rfl hin_X11 (by decide) kfl_X11_46 rfl dX11_openClaims_17 ?_
        refine lv_iload_n hx hb dX11_openClaims_20 rfl (lv_at hl 2 rfl) ?_
        refine h_callVr (rest := [.int (rSum (fun i => clOpen (sC S i)) k)]) X Y (c_get l G M (sA S 15) 15 (sA S 16) 16 (sM S) k (fun i => sA S (1000 + 10 * i)) hl15 (he16 (by omega)) (by omega)) rfl rfl gw_X11_150 dsc_Jx4a65c_get_915e3 hlo15 rfl rfl rfl rfl hl.1 (Nat.le_of_ble_eq_true rfl) ⟨Nat.le_of_ble_eq_true rfl, Nat.le_of_ble_eq_true rfl⟩ ⟨Nat.le_of_ble_eq_true rfl, Nat.le_of_ble_eq_true rfl⟩ dX11_openClaims_21 (fun H locs Y => ?_)
        refine h_cast X Y (hCl k (by omega)).1 rfl rfl kcl_X11_181 dX11_openClaims_24 ?_
        refine h_get X Y (k := 4) (v := .int (clI (sC S k) 3)) (hCl k (by omega)).1 rfl hin_X3 (by decide) kfl_X11_198 rfl dX11_openClaims_27 ?_
        refine lv_if_eq (tgt := 37) hx hb dX11_openClaims_30 (by decide) (fun c30 => ?_) (fun c30 => ?_)
        · refine lv_iconst (v := 0) hx hb dX11_openClaims_37 (by decide) ?_
          refine h_ev (y := clOpen (sC S k)) (if_pos c30).symm ?_
          refine lv_iadd hx hb dX11_openClaims_38 ?_
          refine lv_istore_n (lv' := [(1, .int ((rSum (fun i => clOpen (sC S i)) k) + (clOpen (sC S k)))), (0, .ref (sA S 0)), (2, .int (nI k))]) hx hb dX11_openClaims_39 rfl hl (by decide) rfl (fun ls hl => ?_)
          refine lv_iinc (v := nI (k + 1)) (lv' := [(2, .int (nI (k + 1))), (1, .int ((rSum (fun i => clOpen (sC S i)) k) + (clOpen (sC S k)))), (0, .ref (sA S 0))]) hx hb dX11_openClaims_40 hl (k := 2) rfl (nI_1 k) (by decide) rfl (fun ls hl => ?_)
          refine lv_goto (tgt := 4) hx hb dX11_openClaims_43 (by decide) ?_
          exact ih (k + 1) (by omega) (by omega) _ _ _ Y (lv_sub hl [2, 1, 0] rfl)
        · refine lv_iconst (v := 1) hx hb dX11_openClaims_33 (by decide) ?_
          refine lv_goto (tgt := 38) hx hb dX11_openClaims_34 (by decide) ?_
          refine h_ev (y := clOpen (sC S k)) (if_neg c30).symm ?_
          refine lv_iadd hx hb dX11_openClaims_38 ?_
          refine lv_istore_n (lv' := [(1, .int ((rSum (fun i => clOpen (sC S i)) k) + (clOpen (sC S k)))), (0, .ref (sA S 0)), (2, .int (nI k))]) hx hb dX11_openClaims_39 rfl hl (by decide) rfl (fun ls hl => ?_)
          refine lv_iinc (v := nI (k + 1)) (lv' := [(2, .int (nI (k + 1))), (1, .int ((rSum (fun i => clOpen (sC S i)) k) + (clOpen (sC S k)))), (0, .ref (sA S 0))]) hx hb dX11_openClaims_40 hl (k := 2) rfl (nI_1 k) (by decide) rfl (fun ls hl => ?_)
          refine lv_goto (tgt := 4) hx hb dX11_openClaims_43 (by decide) ?_
          exact ih (k + 1) (by omega) (by omega) _ _ _ Y (lv_sub hl [2, 1, 0] rfl)
  exact loop ((sM S) + 1) 0 (by omega) (by omega) _ _ _ Y (lv_sub hl [2, 1, 0] rfl)
end
section
theorem qAm_known (S : hSy) (now : Nat) (pd : Bool) (i : Nat) : clKnown (sC S i) (now - clY (sC S i)) now pd = qAm S pd i := if_pos (Nat.le_refl _)
def kpd (k : Nat) : Bool := k % 2 == 0
/-- what a claim adds to a triangle of the kind k, at the age a -/
def qVal (S : hSy) (now k a i : Nat) : Int32 := if 2 ≤ k then rLeft S (qAt S now a (kpd k)) (pBe S (-1) (qAt S now a (kpd k))) i else qAt S now a (kpd k) i
def qCell (S : hSy) (now k y a : Nat) : Nat → Int32
  | 0 => 0
  | i + 1 => if clY (sC S i) = y ∧ a ≤ now - y then qCell S now k y a i + qVal S now k a i else qCell S now k y a i
theorem qCell_0 (S : hSy) (now k y a : Nat) (h : ¬ a ≤ now - y) : ∀ n, qCell S now k y a n = 0
  | 0 => rfl
  | n + 1 => by
    unfold qCell
    rw [if_neg (fun q => h q.2)]
    exact qCell_0 S now k y a h n
def hS3 (k u : Nat) : Prop := hS1 2 u ∨ hS2 k u
theorem hS3_scr {k : Nat} (hk : k < 4) : ∀ u, hS3 k u → hScr u := fun u h => h.elim (hS1_scr (by omega) u) (hS2_scr hk u)
theorem hS1_2_tri {k : Nat} (hk : k < 4) : ∀ u, hS2 k u → ¬ hS1 2 u := fun u h => by unfold hS2 at h; unfold hS1 hS0; omega
theorem hS2_ces' {k cx : Nat} (hc : cx < 3) : ∀ u, hS2 k u → ¬ (100 * (cx + 1) ≤ u ∧ u < 100 * (cx + 1) + 100) := hS2_ces hc
/-- a triangle holds what its kind tells -/
def TrIs (G : hG) (M : hM) (S : hSy) (now k : Nat) : Prop := ∃ ce, TrV G M S k ce (nI now) ∧ ∀ y, y < 10 → ∀ b, b < 10 → ce y b = qCell S now k y b (sM S)
theorem TrIs.sim {G : hG} {Z : Nat → Prop} {M M' : hM} {S : hSy} {now k : Nat} (h : hSim G Z M M') (hs : ∀ u, hS2 k u → ¬ Z u) (hV : TrIs G M S now k) : TrIs G M' S now k := by
  obtain ⟨ce, h1, h2⟩ := hV
  exact ⟨ce, h1.sim h hs, h2⟩
theorem gw_X11_229 : GoodIn hGW (wsV RX11 229 RX3 yX3_known (Cond.code yX3_known cX3_known 4 (Option.some FieldType.int) :: hGW)) := hgi4 kml_X11_229 kin_X3_known kse_X3_X3_known_X3_known kini_X3 kco_X3_known
theorem dsc_X3_known : yX3_known.cls = RX3 ∧ yX3_known.cls ≠ "java/lang/invoke/MethodHandle" ∧ yX3_known.cls ≠ "java/lang/invoke/VarHandle" ∧ (parseMethodDescriptor yX3_known.desc).map (fun d => d.parameters.length) = some 3 := ⟨rfl, by decide +kernel, by decide +kernel, by decide +kernel⟩
theorem dX11_tellAmounts_0 : decode cX11_tellAmounts 0 = .ok (.iconst 0, 1) := by decide +kernel
theorem dX11_tellAmounts_1 : decode cX11_tellAmounts 1 = .ok (.istore_n 3, 1) := by decide +kernel
theorem dX11_tellAmounts_2 : decode cX11_tellAmounts 2 = .ok (.iload_n 3, 1) := by decide +kernel
theorem dX11_tellAmounts_3 : decode cX11_tellAmounts 3 = .ok (.aload_n 0, 1) := by decide +kernel
theorem dX11_tellAmounts_4 : decode cX11_tellAmounts 4 = .ok (.getfield 46, 3) := by decide +kernel
theorem dX11_tellAmounts_7 : decode cX11_tellAmounts 7 = .ok (.invokevirtual 176, 3) := by decide +kernel
theorem dX11_tellAmounts_10 : decode cX11_tellAmounts 10 = .ok (.if_icmp .ge 48, 3) := by decide +kernel
theorem dX11_tellAmounts_13 : decode cX11_tellAmounts 13 = .ok (.aload_n 0, 1) := by decide +kernel
theorem dX11_tellAmounts_14 : decode cX11_tellAmounts 14 = .ok (.getfield 46, 3) := by decide +kernel
theorem dX11_tellAmounts_17 : decode cX11_tellAmounts 17 = .ok (.iload_n 3, 1) := by decide +kernel
theorem dX11_tellAmounts_18 : decode cX11_tellAmounts 18 = .ok (.invokevirtual 150, 3) := by decide +kernel
theorem dX11_tellAmounts_21 : decode cX11_tellAmounts 21 = .ok (.checkcast 181, 3) := by decide +kernel
theorem dX11_tellAmounts_24 : decode cX11_tellAmounts 24 = .ok (.astore 4, 2) := by decide +kernel
theorem dX11_tellAmounts_26 : decode cX11_tellAmounts 26 = .ok (.aload_n 1, 1) := by decide +kernel
theorem dX11_tellAmounts_27 : decode cX11_tellAmounts 27 = .ok (.getfield 295, 3) := by decide +kernel
theorem dX11_tellAmounts_30 : decode cX11_tellAmounts 30 = .ok (.iload_n 3, 1) := by decide +kernel
theorem dX11_tellAmounts_31 : decode cX11_tellAmounts 31 = .ok (.aload 4, 2) := by decide +kernel
theorem dX11_tellAmounts_33 : decode cX11_tellAmounts 33 = .ok (.aload_n 0, 1) := by decide +kernel
theorem dX11_tellAmounts_34 : decode cX11_tellAmounts 34 = .ok (.getfield 78, 3) := by decide +kernel
theorem dX11_tellAmounts_37 : decode cX11_tellAmounts 37 = .ok (.aload 4, 2) := by decide +kernel
theorem dX11_tellAmounts_39 : decode cX11_tellAmounts 39 = .ok (.getfield 224, 3) := by decide +kernel
theorem dX11_tellAmounts_42 : decode cX11_tellAmounts 42 = .ok (.isub, 1) := by decide +kernel
theorem dX11_tellAmounts_43 : decode cX11_tellAmounts 43 = .ok (.aload_n 0, 1) := by decide +kernel
theorem dX11_tellAmounts_44 : decode cX11_tellAmounts 44 = .ok (.getfield 78, 3) := by decide +kernel
theorem dX11_tellAmounts_47 : decode cX11_tellAmounts 47 = .ok (.iload_n 2, 1) := by decide +kernel
theorem dX11_tellAmounts_48 : decode cX11_tellAmounts 48 = .ok (.invokevirtual 229, 3) := by decide +kernel
theorem dX11_tellAmounts_51 : decode cX11_tellAmounts 51 = .ok (.iastore, 1) := by decide +kernel
theorem dX11_tellAmounts_52 : decode cX11_tellAmounts 52 = .ok (.iinc 3 1, 3) := by decide +kernel
theorem dX11_tellAmounts_55 : decode cX11_tellAmounts 55 = .ok (.goto (-53), 3) := by decide +kernel
theorem dX11_tellAmounts_58 : decode cX11_tellAmounts 58 = .ok (.return_, 1) := by decide +kernel
set_option maxHeartbeats 400000 in
set_option maxRecDepth 100000 in
theorem c_tellAmounts (l : Launch) (G : hG) (M : hM) (S : hSy) (h : hHo) (hQv : QV G M S h) (cx : Nat) (hcx : cx < 3) (am : Nat → Int32) (be yl : Nat → Nat → Int32) (lo : Nat → Int32) (hV : CesV G M S cx am be yl lo) (pd : Bool) : hCT l G yX11_tellAmounts cX11_tellAmounts 5 (Option.none) (hRm 5 0 0) M [.ref (sA S 0), .ref (sA S (100 * (cx + 1))), .int (bI pd)] (fun v M' => v = none ∧ ∃ am', CesV G M' S cx am' be yl lo ∧ (∀ i, i < sM S → am' i = qAm S pd i) ∧ hSim G (hS1 cx) M M') := by
  refine hCT.of (own := RX11) (nm := "tellAmounts") (by decide) rfl rfl (Nat.le_of_ble_eq_true rfl) ?_
  intro p e s m args below meth c ls X Y hl
  have hx := X.1
  have hb := X.2.1
  have hl : lv_has ls 5 [(0, .ref (sA S 0)), (1, .ref (sA S (100 * (cx + 1)))), (2, .int (bI pd))] := hl
  obtain ⟨hS, hG1, hHo, hCe, hTr, hnow, hyn⟩ := id hQv
  obtain ⟨hN8, hM40, hLG, hCY⟩ := id hG1
  obtain ⟨hl13, he14, hl15, he16, hLa, hCl⟩ := id hS
  obtain ⟨mc13, hlo13⟩ := id hl13
  obtain ⟨mc15, hlo15⟩ := id hl15
  obtain ⟨ho0, ho1, ho17, ho18, ft19, hft19, ho19⟩ := id hHo
  refine lv_iconst (v := 0) hx hb dX11_tellAmounts_0 (by decide) ?_
  refine lv_istore_n (lv' := [(3, .int 0), (0, .ref (sA S 0)), (1, .ref (sA S (100 * (cx + 1)))), (2, .int (bI pd))]) hx hb dX11_tellAmounts_1 rfl hl (by decide) rfl (fun ls hl => ?_)
  have loop : ∀ (d i : Nat), i + d = sM S + 1 → i ≤ sM S → ∀ (M1 : hM) (am1 : Nat → Int32), QV G M1 S h → CesV G M1 S cx am1 be yl lo → hSim G (hS1 cx) M M1 → (∀ j, j < i → am1 j = qAm S pd j) → ∀ (H : Heap) (locs : List Loc) (ls : Array Slot), hHS G M1 s H locs → lv_has ls 5 [(0, .ref (sA S 0)), (1, .ref (sA S (100 * (cx + 1)))), (2, .int (bI pd)), (3, .int (nI i))] → W p l e (hRm 5 0 0) s m args below meth c H locs 0 0 (MQ below (hQ G (fun v M' => v = none ∧ ∃ am', CesV G M' S cx am' be yl lo ∧ (∀ i, i < sM S → am' i = qAm S pd i) ∧ hSim G (hS1 cx) M M')) args s 0 0 (hA G)) (F0 m 2 ls []) := by
    intro d
    induction d with
    | zero => intro i h1; intros; exact absurd h1 (by omega)
    | succ d ih =>
      intro i h1 h2 M1 am1 hQv hV hs0 hz H locs ls Y hl
      obtain ⟨hS, -, hHo, hCe, hTr, -, -⟩ := id hQv
      obtain ⟨hl13, he14, hl15, he16, hLa, hCl⟩ := id hS
      obtain ⟨mc13, hlo13⟩ := id hl13
      obtain ⟨mc15, hlo15⟩ := id hl15
      obtain ⟨ho0, ho1, ho17, ho18, ft19, hft19, ho19⟩ := id hHo
      obtain ⟨ho, ham, ⟨fb, hfb, hbo⟩, hbr, ⟨fy, hfy, hyo⟩, hyr, hlo⟩ := id hV
      refine lv_iload_n hx hb dX11_tellAmounts_2 rfl (lv_at hl 3 rfl) ?_
      refine lv_aload_n hx hb dX11_tellAmounts_3 rfl (lv_at hl 0 rfl) ?_
      refine h_get X Y (k := 5) (v := .ref (sA S 15)) ho0 rfl hin_X11 (by decide) kfl_X11_46 rfl dX11_tellAmounts_4 ?_
      refine h_callVr (rest := [.int (nI i)]) X Y (c_size l G M1 (sA S 15) 15 (sA S 16) (sM S) hl15) rfl rfl gw_X11_176 dsc_Jx4a65c_size_8abf5 hlo15 rfl rfl rfl rfl hl.1 (Nat.le_of_ble_eq_true rfl) ⟨Nat.le_of_ble_eq_true rfl, Nat.le_of_ble_eq_true rfl⟩ ⟨Nat.le_of_ble_eq_true rfl, Nat.le_of_ble_eq_true rfl⟩ dX11_tellAmounts_7 (fun H locs Y => ?_)
      refine lv_icmp_ge (tgt := 58) hx hb dX11_tellAmounts_10 (by decide) (fun c10 => ?_) (fun c10 => ?_)
      · have c10 : (sM S) ≤ i := (nI_leI (a := (sM S)) (b := i) (by omega) (by omega)).mp c10
        have hk9 : i = (sM S) := by omega
        subst hk9
        exact h_vret X Y ⟨rfl, am1, hV, hz, hs0⟩ (Nat.le_refl _) (Nat.le_refl _) dX11_tellAmounts_58
      · have c10 : ¬ (sM S) ≤ i := fun z9 => c10 ((nI_leI (a := (sM S)) (b := i) (by omega) (by omega)).mpr z9)
        have hy := hyn i (by omega)
        have hcy := hCY i (by omega)
        refine lv_aload_n hx hb dX11_tellAmounts_13 rfl (lv_at hl 0 rfl) ?_
        refine h_get X Y (k := 5) (v := .ref (sA S 15)) ho0 rfl hin_X11 (by decide) kfl_X11_46 rfl dX11_tellAmounts_14 ?_
        refine lv_iload_n hx hb dX11_tellAmounts_17 rfl (lv_at hl 3 rfl) ?_
        refine h_callVr (rest := []) X Y (c_get l G M1 (sA S 15) 15 (sA S 16) 16 (sM S) i (fun i => sA S (1000 + 10 * i)) hl15 (he16 (by omega)) (by omega)) rfl rfl gw_X11_150 dsc_Jx4a65c_get_915e3 hlo15 rfl rfl rfl rfl hl.1 (Nat.le_of_ble_eq_true rfl) ⟨Nat.le_of_ble_eq_true rfl, Nat.le_of_ble_eq_true rfl⟩ ⟨Nat.le_of_ble_eq_true rfl, Nat.le_of_ble_eq_true rfl⟩ dX11_tellAmounts_18 (fun H locs Y => ?_)
        refine h_cast X Y (hCl i (by omega)).1 rfl rfl kcl_X11_181 dX11_tellAmounts_21 ?_
        refine lv_astore (lv' := [(4, .ref (sA S (1000 + 10 * i))), (0, .ref (sA S 0)), (1, .ref (sA S (100 * (cx + 1)))), (2, .int (bI pd)), (3, .int (nI i))]) hx hb dX11_tellAmounts_24 hl (by decide) rfl (fun ls hl => ?_)
        refine lv_aload_n hx hb dX11_tellAmounts_26 rfl (lv_at hl 2 rfl) ?_
        refine h_get X Y (k := 0) (v := .ref (sA S (100 * (cx + 1) + 1))) ho rfl hin_X1 (by decide) kfl_X11_295 rfl dX11_tellAmounts_27 ?_
        refine lv_iload_n hx hb dX11_tellAmounts_30 rfl (lv_at hl 4 rfl) ?_
        refine lv_aload hx hb dX11_tellAmounts_31 (lv_at hl 0 rfl) ?_
        refine lv_aload_n hx hb dX11_tellAmounts_33 rfl (lv_at hl 1 rfl) ?_
        refine h_get X Y (k := 12) (v := .int (nI (hNow h))) ho0 rfl hin_X11 (by decide) kfl_X11_78 rfl dX11_tellAmounts_34 ?_
        refine lv_aload hx hb dX11_tellAmounts_37 (lv_at hl 0 rfl) ?_
        refine h_get X Y (k := 0) (v := .int (nI (clY (sC S i)))) (hCl i (by omega)).1 rfl hin_X3 (by decide) kfl_X11_224 rfl dX11_tellAmounts_39 ?_
        refine lv_isub hx hb dX11_tellAmounts_42 ?_
        refine h_ev (y := nI (hNow h - clY (sC S i))) (pk_sub hy) ?_
        refine lv_aload_n hx hb dX11_tellAmounts_43 rfl (lv_at hl 1 rfl) ?_
        refine h_get X Y (k := 12) (v := .int (nI (hNow h))) ho0 rfl hin_X11 (by decide) kfl_X11_78 rfl dX11_tellAmounts_44 ?_
        refine lv_iload_n hx hb dX11_tellAmounts_47 rfl (lv_at hl 3 rfl) ?_
        refine h_callVr (rest := [.int (nI i), .ref (sA S (100 * (cx + 1) + 1))]) X Y (c_known l G M1 (sA S (1000 + 10 * i)) (1000 + 10 * i) (sC S i) (hCl i (by omega)) (hNow h - clY (sC S i)) (hNow h) pd (by omega) hnow hy) rfl rfl gw_X11_229 dsc_X3_known (hCl i (by omega)).1 rfl rfl rfl rfl hl.1 (Nat.le_of_ble_eq_true rfl) ⟨Nat.le_of_ble_eq_true rfl, Nat.le_of_ble_eq_true rfl⟩ ⟨Nat.le_of_ble_eq_true rfl, Nat.le_of_ble_eq_true rfl⟩ dX11_tellAmounts_48 (fun H locs Y => ?_)
        refine h_iast X Y (i := i) ham (by omega) (by decide) dX11_tellAmounts_51 (fun H locs Y => ?_)
        obtain ⟨hV, -, hq⟩ := CesV.putAm (by omega) (upd am1 i (clKnown (sC S i) (hNow h - clY (sC S i)) (hNow h) pd)) hV hS
        have hs0 := hs0.tr hq
        generalize hup M1 _ _ = M1 at Y hV hq hs0
        have hQv := hQv.sim (hq.mono (hS1_scr (by omega)))
        obtain ⟨hS, -, hHo, hCe, hTr, -, -⟩ := id hQv
        obtain ⟨hl13, he14, hl15, he16, hLa, hCl⟩ := id hS
        obtain ⟨mc13, hlo13⟩ := id hl13
        obtain ⟨mc15, hlo15⟩ := id hl15
        obtain ⟨ho0, ho1, ho17, ho18, ft19, hft19, ho19⟩ := id hHo
        obtain ⟨ho, ham, ⟨fb, hfb, hbo⟩, hbr, ⟨fy, hfy, hyo⟩, hyr, hlo⟩ := id hV
        refine lv_iinc (v := nI (i + 1)) (lv' := [(3, .int (nI (i + 1))), (4, .ref (sA S (1000 + 10 * i))), (0, .ref (sA S 0)), (1, .ref (sA S (100 * (cx + 1)))), (2, .int (bI pd))]) hx hb dX11_tellAmounts_52 hl (k := 4) rfl (nI_1 i) (by decide) rfl (fun ls hl => ?_)
        refine lv_goto (tgt := 2) hx hb dX11_tellAmounts_55 (by decide) ?_
        refine ih (i + 1) (by omega) (by omega) M1 _ hQv hV hs0 ?_ _ _ _ Y (lv_sub hl [2, 3, 4, 0] rfl)
        intro j hj
        by_cases e : j = i
        · subst e; exact pk_us.trans (qAm_known S (hNow h) pd j)
        · rw [pk_un e]; exact hz j (by omega)
  exact loop (sM S + 1) 0 (by omega) (by omega) M am hQv hV hSim.rf (fun _ z9 => absurd z9 (by omega)) _ _ _ Y (lv_sub hl [1, 2, 3, 0] rfl)
theorem gw_X11_291 : GoodIn hGW (wsV RX11 291 RX11 yX11_tellAmounts (Cond.code yX11_tellAmounts cX11_tellAmounts 5 (Option.none) :: hGW)) := hgi4 kml_X11_291 kin_X11_tellAmounts kse_X11_X11_tellAmounts_X11_tellAmounts kini_X11 kco_X11_tellAmounts
theorem dsc_X11_tellAmounts : yX11_tellAmounts.cls = RX11 ∧ yX11_tellAmounts.cls ≠ "java/lang/invoke/MethodHandle" ∧ yX11_tellAmounts.cls ≠ "java/lang/invoke/VarHandle" ∧ (parseMethodDescriptor yX11_tellAmounts.desc).map (fun d => d.parameters.length) = some 2 := ⟨rfl, by decide +kernel, by decide +kernel, by decide +kernel⟩
theorem gw_X11_298 : GoodIn hGW (wsV RX11 298 RX1 yX1_cedeAhead (Cond.code yX1_cedeAhead cX1_cedeAhead 6 (Option.none) :: hGW)) := hgi4 kml_X11_298 kin_X1_cedeAhead kse_X1_X1_cedeAhead_X1_cedeAhead kini_X1 kco_X1_cedeAhead
theorem dsc_X1_cedeAhead : yX1_cedeAhead.cls = RX1 ∧ yX1_cedeAhead.cls ≠ "java/lang/invoke/MethodHandle" ∧ yX1_cedeAhead.cls ≠ "java/lang/invoke/VarHandle" ∧ (parseMethodDescriptor yX1_cedeAhead.desc).map (fun d => d.parameters.length) = some 2 := ⟨rfl, by decide +kernel, by decide +kernel, by decide +kernel⟩
theorem dX11_cedeNow_0 : decode cX11_cedeNow 0 = .ok (.aload_n 0, 1) := by decide +kernel
theorem dX11_cedeNow_1 : decode cX11_cedeNow 1 = .ok (.aload_n 1, 1) := by decide +kernel
theorem dX11_cedeNow_2 : decode cX11_cedeNow 2 = .ok (.iload_n 2, 1) := by decide +kernel
theorem dX11_cedeNow_3 : decode cX11_cedeNow 3 = .ok (.invokevirtual 291, 3) := by decide +kernel
theorem dX11_cedeNow_6 : decode cX11_cedeNow 6 = .ok (.aload_n 1, 1) := by decide +kernel
theorem dX11_cedeNow_7 : decode cX11_cedeNow 7 = .ok (.aload_n 0, 1) := by decide +kernel
theorem dX11_cedeNow_8 : decode cX11_cedeNow 8 = .ok (.getfield 46, 3) := by decide +kernel
theorem dX11_cedeNow_11 : decode cX11_cedeNow 11 = .ok (.invokevirtual 176, 3) := by decide +kernel
theorem dX11_cedeNow_14 : decode cX11_cedeNow 14 = .ok (.iload_n 3, 1) := by decide +kernel
theorem dX11_cedeNow_15 : decode cX11_cedeNow 15 = .ok (.invokevirtual 298, 3) := by decide +kernel
theorem dX11_cedeNow_18 : decode cX11_cedeNow 18 = .ok (.return_, 1) := by decide +kernel
set_option maxHeartbeats 400000 in
set_option maxRecDepth 100000 in
theorem c_cedeNow (l : Launch) (G : hG) (M : hM) (S : hSy) (h : hHo) (hQv : QV G M S h) (cx : Nat) (hcx : cx < 3) (pd : Bool) (mu : Int32) : hCT l G yX11_cedeNow cX11_cedeNow 4 (Option.none) (hRm 8 0 0) M [.ref (sA S 0), .ref (sA S (100 * (cx + 1))), .int (bI pd), .int mu] (fun v M' => v = none ∧ CesIs G M' S cx mu (qAm S pd) ∧ hSim G (hS1 cx) M M') := by
  refine hCT.of (own := RX11) (nm := "cedeNow") (by decide) rfl rfl (Nat.le_of_ble_eq_true rfl) ?_
  intro p e s m args below meth c ls X Y hl
  have hx := X.1
  have hb := X.2.1
  have hl : lv_has ls 4 [(0, .ref (sA S 0)), (1, .ref (sA S (100 * (cx + 1)))), (2, .int (bI pd)), (3, .int mu)] := hl
  obtain ⟨hS, hG1, hHo, hCe, hTr, hnow, hyn⟩ := id hQv
  obtain ⟨hN8, hM40, hLG, hCY⟩ := id hG1
  obtain ⟨hl13, he14, hl15, he16, hLa, hCl⟩ := id hS
  obtain ⟨mc13, hlo13⟩ := id hl13
  obtain ⟨mc15, hlo15⟩ := id hl15
  obtain ⟨ho0, ho1, ho17, ho18, ft19, hft19, ho19⟩ := id hHo
  obtain ⟨am, be, yl, lo, hV⟩ := hCe cx hcx
  obtain ⟨ho, ham, ⟨fb, hfb, hbo⟩, hbr, ⟨fy, hfy, hyo⟩, hyr, hlo⟩ := id hV
  refine lv_aload_n hx hb dX11_cedeNow_0 rfl (lv_at hl 0 rfl) ?_
  refine lv_aload_n hx hb dX11_cedeNow_1 rfl (lv_at hl 1 rfl) ?_
  refine lv_iload_n hx hb dX11_cedeNow_2 rfl (lv_at hl 2 rfl) ?_
  refine h_callV (rest := []) X Y (c_tellAmounts l G M S h hQv cx hcx am be yl lo hV pd) gw_X11_291 dsc_X11_tellAmounts ho0 rfl rfl rfl hl.1 rfl (Nat.le_of_ble_eq_true rfl) ⟨Nat.le_of_ble_eq_true rfl, Nat.le_of_ble_eq_true rfl⟩ ⟨Nat.le_of_ble_eq_true rfl, Nat.le_of_ble_eq_true rfl⟩ dX11_cedeNow_3 ?_
  rintro _ M1 H locs ⟨rfl, am1, hV, ha, hs0⟩ Y
  try dsimp only [Option.toList, List.nil_append]
  have hQv := hQv.sim (hs0.mono (hS1_scr (by omega)))
  obtain ⟨hS, -, hHo, hCe, hTr, -, -⟩ := id hQv
  obtain ⟨hl13, he14, hl15, he16, hLa, hCl⟩ := id hS
  obtain ⟨mc13, hlo13⟩ := id hl13
  obtain ⟨mc15, hlo15⟩ := id hl15
  obtain ⟨ho0, ho1, ho17, ho18, ft19, hft19, ho19⟩ := id hHo
  obtain ⟨ho, ham, ⟨fb, hfb, hbo⟩, hbr, ⟨fy, hfy, hyo⟩, hyr, hlo⟩ := id hV
  refine lv_aload_n hx hb dX11_cedeNow_6 rfl (lv_at hl 1 rfl) ?_
  refine lv_aload_n hx hb dX11_cedeNow_7 rfl (lv_at hl 0 rfl) ?_
  refine h_get X Y (k := 5) (v := .ref (sA S 15)) ho0 rfl hin_X11 (by decide) kfl_X11_46 rfl dX11_cedeNow_8 ?_
  refine h_callVr (rest := [.ref (sA S (100 * (cx + 1)))]) X Y (c_size l G M1 (sA S 15) 15 (sA S 16) (sM S) hl15) rfl rfl gw_X11_176 dsc_Jx4a65c_size_8abf5 hlo15 rfl rfl rfl rfl hl.1 (Nat.le_of_ble_eq_true rfl) ⟨Nat.le_of_ble_eq_true rfl, Nat.le_of_ble_eq_true rfl⟩ ⟨Nat.le_of_ble_eq_true rfl, Nat.le_of_ble_eq_true rfl⟩ dX11_cedeNow_11 (fun H locs Y => ?_)
  refine lv_iload_n hx hb dX11_cedeNow_14 rfl (lv_at hl 3 rfl) ?_
  refine h_callV (rest := []) X Y (c_cedeAhead l G M1 S hS hG1 cx am1 be yl lo hV hcx (sM S) mu (Nat.le_refl _)) gw_X11_298 dsc_X1_cedeAhead ho rfl rfl rfl hl.1 rfl (Nat.le_of_ble_eq_true rfl) ⟨Nat.le_of_ble_eq_true rfl, Nat.le_of_ble_eq_true rfl⟩ ⟨Nat.le_of_ble_eq_true rfl, Nat.le_of_ble_eq_true rfl⟩ dX11_cedeNow_15 ?_
  rintro _ M2 H locs ⟨rfl, be2, yl2, lo2, hV, hb, hy2, hq⟩ Y
  try dsimp only [Option.toList, List.nil_append]
  exact h_vret X Y ⟨rfl, ⟨am1, be2, yl2, lo2, hV, ha, fun i hi k hk => (hb i hi k hk).trans (congrFun (pBe_congr S mu i (fun j hj => ha j (by omega))) k), fun k hk y hy => (hy2 k hk y hy).trans (congrFun (congrFun (pYl_congr S mu (sM S) ha) k) y)⟩, hs0.tr hq⟩ (Nat.le_refl _) (Nat.le_refl _) dX11_cedeNow_18
theorem dX11_tellAmountsAt_0 : decode cX11_tellAmountsAt 0 = .ok (.iconst 0, 1) := by decide +kernel
theorem dX11_tellAmountsAt_1 : decode cX11_tellAmountsAt 1 = .ok (.istore_n 3, 1) := by decide +kernel
theorem dX11_tellAmountsAt_2 : decode cX11_tellAmountsAt 2 = .ok (.iload_n 3, 1) := by decide +kernel
theorem dX11_tellAmountsAt_3 : decode cX11_tellAmountsAt 3 = .ok (.aload_n 0, 1) := by decide +kernel
theorem dX11_tellAmountsAt_4 : decode cX11_tellAmountsAt 4 = .ok (.getfield 46, 3) := by decide +kernel
theorem dX11_tellAmountsAt_7 : decode cX11_tellAmountsAt 7 = .ok (.invokevirtual 176, 3) := by decide +kernel
theorem dX11_tellAmountsAt_10 : decode cX11_tellAmountsAt 10 = .ok (.if_icmp .ge 60, 3) := by decide +kernel
theorem dX11_tellAmountsAt_13 : decode cX11_tellAmountsAt 13 = .ok (.aload_n 0, 1) := by decide +kernel
theorem dX11_tellAmountsAt_14 : decode cX11_tellAmountsAt 14 = .ok (.getfield 46, 3) := by decide +kernel
theorem dX11_tellAmountsAt_17 : decode cX11_tellAmountsAt 17 = .ok (.iload_n 3, 1) := by decide +kernel
theorem dX11_tellAmountsAt_18 : decode cX11_tellAmountsAt 18 = .ok (.invokevirtual 150, 3) := by decide +kernel
theorem dX11_tellAmountsAt_21 : decode cX11_tellAmountsAt 21 = .ok (.checkcast 181, 3) := by decide +kernel
theorem dX11_tellAmountsAt_24 : decode cX11_tellAmountsAt 24 = .ok (.astore 4, 2) := by decide +kernel
theorem dX11_tellAmountsAt_26 : decode cX11_tellAmountsAt 26 = .ok (.aload_n 0, 1) := by decide +kernel
theorem dX11_tellAmountsAt_27 : decode cX11_tellAmountsAt 27 = .ok (.getfield 61, 3) := by decide +kernel
theorem dX11_tellAmountsAt_30 : decode cX11_tellAmountsAt 30 = .ok (.getfield 295, 3) := by decide +kernel
theorem dX11_tellAmountsAt_33 : decode cX11_tellAmountsAt 33 = .ok (.iload_n 3, 1) := by decide +kernel
theorem dX11_tellAmountsAt_34 : decode cX11_tellAmountsAt 34 = .ok (.iload_n 1, 1) := by decide +kernel
theorem dX11_tellAmountsAt_35 : decode cX11_tellAmountsAt 35 = .ok (.aload_n 0, 1) := by decide +kernel
theorem dX11_tellAmountsAt_36 : decode cX11_tellAmountsAt 36 = .ok (.getfield 78, 3) := by decide +kernel
theorem dX11_tellAmountsAt_39 : decode cX11_tellAmountsAt 39 = .ok (.aload 4, 2) := by decide +kernel
theorem dX11_tellAmountsAt_41 : decode cX11_tellAmountsAt 41 = .ok (.getfield 224, 3) := by decide +kernel
theorem dX11_tellAmountsAt_44 : decode cX11_tellAmountsAt 44 = .ok (.isub, 1) := by decide +kernel
theorem dX11_tellAmountsAt_45 : decode cX11_tellAmountsAt 45 = .ok (.if_icmp .gt 17, 3) := by decide +kernel
theorem dX11_tellAmountsAt_48 : decode cX11_tellAmountsAt 48 = .ok (.aload 4, 2) := by decide +kernel
theorem dX11_tellAmountsAt_50 : decode cX11_tellAmountsAt 50 = .ok (.iload_n 1, 1) := by decide +kernel
theorem dX11_tellAmountsAt_51 : decode cX11_tellAmountsAt 51 = .ok (.aload_n 0, 1) := by decide +kernel
theorem dX11_tellAmountsAt_52 : decode cX11_tellAmountsAt 52 = .ok (.getfield 78, 3) := by decide +kernel
theorem dX11_tellAmountsAt_55 : decode cX11_tellAmountsAt 55 = .ok (.iload_n 2, 1) := by decide +kernel
theorem dX11_tellAmountsAt_56 : decode cX11_tellAmountsAt 56 = .ok (.invokevirtual 229, 3) := by decide +kernel
theorem dX11_tellAmountsAt_59 : decode cX11_tellAmountsAt 59 = .ok (.goto 4, 3) := by decide +kernel
theorem dX11_tellAmountsAt_62 : decode cX11_tellAmountsAt 62 = .ok (.iconst 0, 1) := by decide +kernel
theorem dX11_tellAmountsAt_63 : decode cX11_tellAmountsAt 63 = .ok (.iastore, 1) := by decide +kernel
theorem dX11_tellAmountsAt_64 : decode cX11_tellAmountsAt 64 = .ok (.iinc 3 1, 3) := by decide +kernel
theorem dX11_tellAmountsAt_67 : decode cX11_tellAmountsAt 67 = .ok (.goto (-65), 3) := by decide +kernel
theorem dX11_tellAmountsAt_70 : decode cX11_tellAmountsAt 70 = .ok (.return_, 1) := by decide +kernel
set_option maxHeartbeats 400000 in
set_option maxRecDepth 100000 in
theorem c_tellAmountsAt (l : Launch) (G : hG) (M : hM) (S : hSy) (h : hHo) (hQv : QV G M S h) (am : Nat → Int32) (be yl : Nat → Nat → Int32) (lo : Nat → Int32) (hV : CesV G M S 2 am be yl lo) (age : Nat) (pd : Bool) (ha9 : age < 10) : hCT l G yX11_tellAmountsAt cX11_tellAmountsAt 5 (Option.none) (hRm 5 0 0) M [.ref (sA S 0), .int (nI age), .int (bI pd)] (fun v M' => v = none ∧ ∃ am', CesV G M' S 2 am' be yl lo ∧ (∀ i, i < sM S → am' i = qAt S (hNow h) age pd i) ∧ hSim G (hS1 2) M M') := by
  refine hCT.of (own := RX11) (nm := "tellAmountsAt") (by decide) rfl rfl (Nat.le_of_ble_eq_true rfl) ?_
  intro p e s m args below meth c ls X Y hl
  have hx := X.1
  have hb := X.2.1
  have hl : lv_has ls 5 [(0, .ref (sA S 0)), (1, .int (nI age)), (2, .int (bI pd))] := hl
  obtain ⟨hS, hG1, hHo, hCe, hTr, hnow, hyn⟩ := id hQv
  obtain ⟨hN8, hM40, hLG, hCY⟩ := id hG1
  obtain ⟨hl13, he14, hl15, he16, hLa, hCl⟩ := id hS
  obtain ⟨mc13, hlo13⟩ := id hl13
  obtain ⟨mc15, hlo15⟩ := id hl15
  obtain ⟨ho0, ho1, ho17, ho18, ft19, hft19, ho19⟩ := id hHo
  refine lv_iconst (v := 0) hx hb dX11_tellAmountsAt_0 (by decide) ?_
  refine lv_istore_n (lv' := [(3, .int 0), (0, .ref (sA S 0)), (1, .int (nI age)), (2, .int (bI pd))]) hx hb dX11_tellAmountsAt_1 rfl hl (by decide) rfl (fun ls hl => ?_)
  have loop : ∀ (d i : Nat), i + d = sM S + 1 → i ≤ sM S → ∀ (M1 : hM) (am1 : Nat → Int32), QV G M1 S h → CesV G M1 S 2 am1 be yl lo → hSim G (hS1 2) M M1 → (∀ j, j < i → am1 j = qAt S (hNow h) age pd j) → ∀ (H : Heap) (locs : List Loc) (ls : Array Slot), hHS G M1 s H locs → lv_has ls 5 [(0, .ref (sA S 0)), (1, .int (nI age)), (2, .int (bI pd)), (3, .int (nI i))] → W p l e (hRm 5 0 0) s m args below meth c H locs 0 0 (MQ below (hQ G (fun v M' => v = none ∧ ∃ am', CesV G M' S 2 am' be yl lo ∧ (∀ i, i < sM S → am' i = qAt S (hNow h) age pd i) ∧ hSim G (hS1 2) M M')) args s 0 0 (hA G)) (F0 m 2 ls []) := by
    intro d
    induction d with
    | zero => intro i h1; intros; exact absurd h1 (by omega)
    | succ d ih =>
      intro i h1 h2 M1 am1 hQv hV hs0 hz H locs ls Y hl
      obtain ⟨hS, -, hHo, hCe, hTr, -, -⟩ := id hQv
      obtain ⟨hl13, he14, hl15, he16, hLa, hCl⟩ := id hS
      obtain ⟨mc13, hlo13⟩ := id hl13
      obtain ⟨mc15, hlo15⟩ := id hl15
      obtain ⟨ho0, ho1, ho17, ho18, ft19, hft19, ho19⟩ := id hHo
      obtain ⟨ho, ham, ⟨fb, hfb, hbo⟩, hbr, ⟨fy, hfy, hyo⟩, hyr, hlo⟩ := id hV
      refine lv_iload_n hx hb dX11_tellAmountsAt_2 rfl (lv_at hl 3 rfl) ?_
      refine lv_aload_n hx hb dX11_tellAmountsAt_3 rfl (lv_at hl 0 rfl) ?_
      refine h_get X Y (k := 5) (v := .ref (sA S 15)) ho0 rfl hin_X11 (by decide) kfl_X11_46 rfl dX11_tellAmountsAt_4 ?_
      refine h_callVr (rest := [.int (nI i)]) X Y (c_size l G M1 (sA S 15) 15 (sA S 16) (sM S) hl15) rfl rfl gw_X11_176 dsc_Jx4a65c_size_8abf5 hlo15 rfl rfl rfl rfl hl.1 (Nat.le_of_ble_eq_true rfl) ⟨Nat.le_of_ble_eq_true rfl, Nat.le_of_ble_eq_true rfl⟩ ⟨Nat.le_of_ble_eq_true rfl, Nat.le_of_ble_eq_true rfl⟩ dX11_tellAmountsAt_7 (fun H locs Y => ?_)
      refine lv_icmp_ge (tgt := 70) hx hb dX11_tellAmountsAt_10 (by decide) (fun c10 => ?_) (fun c10 => ?_)
      · have c10 : (sM S) ≤ i := (nI_leI (a := (sM S)) (b := i) (by omega) (by omega)).mp c10
        have hk9 : i = (sM S) := by omega
        subst hk9
        exact h_vret X Y ⟨rfl, am1, hV, hz, hs0⟩ (Nat.le_refl _) (Nat.le_refl _) dX11_tellAmountsAt_70
      · have c10 : ¬ (sM S) ≤ i := fun z9 => c10 ((nI_leI (a := (sM S)) (b := i) (by omega) (by omega)).mpr z9)
        have hy := hyn i (by omega)
        have hcy := hCY i (by omega)
        refine lv_aload_n hx hb dX11_tellAmountsAt_13 rfl (lv_at hl 0 rfl) ?_
        refine h_get X Y (k := 5) (v := .ref (sA S 15)) ho0 rfl hin_X11 (by decide) kfl_X11_46 rfl dX11_tellAmountsAt_14 ?_
        refine lv_iload_n hx hb dX11_tellAmountsAt_17 rfl (lv_at hl 3 rfl) ?_
        refine h_callVr (rest := []) X Y (c_get l G M1 (sA S 15) 15 (sA S 16) 16 (sM S) i (fun i => sA S (1000 + 10 * i)) hl15 (he16 (by omega)) (by omega)) rfl rfl gw_X11_150 dsc_Jx4a65c_get_915e3 hlo15 rfl rfl rfl rfl hl.1 (Nat.le_of_ble_eq_true rfl) ⟨Nat.le_of_ble_eq_true rfl, Nat.le_of_ble_eq_true rfl⟩ ⟨Nat.le_of_ble_eq_true rfl, Nat.le_of_ble_eq_true rfl⟩ dX11_tellAmountsAt_18 (fun H locs Y => ?_)
        refine h_cast X Y (hCl i (by omega)).1 rfl rfl kcl_X11_181 dX11_tellAmountsAt_21 ?_
        refine lv_astore (lv' := [(4, .ref (sA S (1000 + 10 * i))), (0, .ref (sA S 0)), (1, .int (nI age)), (2, .int (bI pd)), (3, .int (nI i))]) hx hb dX11_tellAmountsAt_24 hl (by decide) rfl (fun ls hl => ?_)
        refine lv_aload_n hx hb dX11_tellAmountsAt_26 rfl (lv_at hl 1 rfl) ?_
        refine h_get X Y (k := 8) (v := .ref (sA S (100 * (2 + 1)))) ho0 rfl hin_X11 (by decide) kfl_X11_61 rfl dX11_tellAmountsAt_27 ?_
        refine h_get X Y (k := 0) (v := .ref (sA S (100 * (2 + 1) + 1))) ho rfl hin_X1 (by decide) kfl_X11_295 rfl dX11_tellAmountsAt_30 ?_
        refine lv_iload_n hx hb dX11_tellAmountsAt_33 rfl (lv_at hl 4 rfl) ?_
        refine lv_iload_n hx hb dX11_tellAmountsAt_34 rfl (lv_at hl 2 rfl) ?_
        refine lv_aload_n hx hb dX11_tellAmountsAt_35 rfl (lv_at hl 1 rfl) ?_
        refine h_get X Y (k := 12) (v := .int (nI (hNow h))) ho0 rfl hin_X11 (by decide) kfl_X11_78 rfl dX11_tellAmountsAt_36 ?_
        refine lv_aload hx hb dX11_tellAmountsAt_39 (lv_at hl 0 rfl) ?_
        refine h_get X Y (k := 0) (v := .int (nI (clY (sC S i)))) (hCl i (by omega)).1 rfl hin_X3 (by decide) kfl_X11_224 rfl dX11_tellAmountsAt_41 ?_
        refine lv_isub hx hb dX11_tellAmountsAt_44 ?_
        refine h_ev (y := nI (hNow h - clY (sC S i))) (pk_sub hy) ?_
        refine lv_icmp_gt (tgt := 62) hx hb dX11_tellAmountsAt_45 (by decide) (fun c45 => ?_) (fun c45 => ?_)
        · have c45 : (hNow h - clY (sC S i)) < age := (nI_ltI (a := (hNow h - clY (sC S i))) (b := age) (by omega) (by omega)).mp c45
          have hval : (0 : Int32) = qAt S (hNow h) age pd i := (if_neg (by omega)).symm
          refine lv_iconst (v := 0) hx hb dX11_tellAmountsAt_62 (by decide) ?_
          refine h_iast X Y (i := i) ham (by omega) (by decide) dX11_tellAmountsAt_63 (fun H locs Y => ?_)
          obtain ⟨hV, -, hq⟩ := CesV.putAm (by omega) (upd am1 i 0) hV hS
          have hs0 := hs0.tr hq
          generalize hup M1 _ _ = M1 at Y hV hq hs0
          have hQv := hQv.sim (hq.mono (hS1_scr (by omega)))
          obtain ⟨hS, -, hHo, hCe, hTr, -, -⟩ := id hQv
          obtain ⟨hl13, he14, hl15, he16, hLa, hCl⟩ := id hS
          obtain ⟨mc13, hlo13⟩ := id hl13
          obtain ⟨mc15, hlo15⟩ := id hl15
          obtain ⟨ho0, ho1, ho17, ho18, ft19, hft19, ho19⟩ := id hHo
          obtain ⟨ho, ham, ⟨fb, hfb, hbo⟩, hbr, ⟨fy, hfy, hyo⟩, hyr, hlo⟩ := id hV
          refine lv_iinc (v := nI (i + 1)) (lv' := [(3, .int (nI (i + 1))), (4, .ref (sA S (1000 + 10 * i))), (0, .ref (sA S 0)), (1, .int (nI age)), (2, .int (bI pd))]) hx hb dX11_tellAmountsAt_64 hl (k := 4) rfl (nI_1 i) (by decide) rfl (fun ls hl => ?_)
          refine lv_goto (tgt := 2) hx hb dX11_tellAmountsAt_67 (by decide) ?_
          refine ih (i + 1) (by omega) (by omega) M1 _ hQv hV hs0 ?_ _ _ _ Y (lv_sub hl [2, 3, 4, 0] rfl)
          intro j hj
          by_cases e : j = i
          · subst e; exact pk_us.trans hval
          · rw [pk_un e]; exact hz j (by omega)
        · have c45 : ¬ (hNow h - clY (sC S i)) < age := fun z9 => c45 ((nI_ltI (a := (hNow h - clY (sC S i))) (b := age) (by omega) (by omega)).mpr z9)
          have hval : clKnown (sC S i) age (hNow h) pd = qAt S (hNow h) age pd i := (if_pos (by omega)).symm
          refine lv_aload hx hb dX11_tellAmountsAt_48 (lv_at hl 0 rfl) ?_
          refine lv_iload_n hx hb dX11_tellAmountsAt_50 rfl (lv_at hl 2 rfl) ?_
          refine lv_aload_n hx hb dX11_tellAmountsAt_51 rfl (lv_at hl 1 rfl) ?_
          refine h_get X Y (k := 12) (v := .int (nI (hNow h))) ho0 rfl hin_X11 (by decide) kfl_X11_78 rfl dX11_tellAmountsAt_52 ?_
          refine lv_iload_n hx hb dX11_tellAmountsAt_55 rfl (lv_at hl 3 rfl) ?_
          refine h_callVr (rest := [.int (nI i), .ref (sA S (100 * (2 + 1) + 1))]) X Y (c_known l G M1 (sA S (1000 + 10 * i)) (1000 + 10 * i) (sC S i) (hCl i (by omega)) age (hNow h) pd ha9 hnow hy) rfl rfl gw_X11_229 dsc_X3_known (hCl i (by omega)).1 rfl rfl rfl rfl hl.1 (Nat.le_of_ble_eq_true rfl) ⟨Nat.le_of_ble_eq_true rfl, Nat.le_of_ble_eq_true rfl⟩ ⟨Nat.le_of_ble_eq_true rfl, Nat.le_of_ble_eq_true rfl⟩ dX11_tellAmountsAt_56 (fun H locs Y => ?_)
          refine lv_goto (tgt := 63) hx hb dX11_tellAmountsAt_59 (by decide) ?_
          refine h_iast X Y (i := i) ham (by omega) (by decide) dX11_tellAmountsAt_63 (fun H locs Y => ?_)
          obtain ⟨hV, -, hq⟩ := CesV.putAm (by omega) (upd am1 i (clKnown (sC S i) age (hNow h) pd)) hV hS
          have hs0 := hs0.tr hq
          generalize hup M1 _ _ = M2 at Y hV hq hs0
          have hQv := hQv.sim (hq.mono (hS1_scr (by omega)))
          obtain ⟨hS, -, hHo, hCe, hTr, -, -⟩ := id hQv
          obtain ⟨hl13, he14, hl15, he16, hLa, hCl⟩ := id hS
          obtain ⟨mc13, hlo13⟩ := id hl13
          obtain ⟨mc15, hlo15⟩ := id hl15
          obtain ⟨ho0, ho1, ho17, ho18, ft19, hft19, ho19⟩ := id hHo
          obtain ⟨ho, ham, ⟨fb, hfb, hbo⟩, hbr, ⟨fy, hfy, hyo⟩, hyr, hlo⟩ := id hV
          refine lv_iinc (v := nI (i + 1)) (lv' := [(3, .int (nI (i + 1))), (4, .ref (sA S (1000 + 10 * i))), (0, .ref (sA S 0)), (1, .int (nI age)), (2, .int (bI pd))]) hx hb dX11_tellAmountsAt_64 hl (k := 4) rfl (nI_1 i) (by decide) rfl (fun ls hl => ?_)
          refine lv_goto (tgt := 2) hx hb dX11_tellAmountsAt_67 (by decide) ?_
          refine ih (i + 1) (by omega) (by omega) M2 _ hQv hV hs0 ?_ _ _ _ Y (lv_sub hl [2, 3, 4, 0] rfl)
          intro j hj
          by_cases e : j = i
          · subst e; exact pk_us.trans hval
          · rw [pk_un e]; exact hz j (by omega)
  exact loop (sM S + 1) 0 (by omega) (by omega) M am hQv hV hSim.rf (fun _ z9 => absurd z9 (by omega)) _ _ _ Y (lv_sub hl [1, 2, 3, 0] rfl)
theorem gw_X11_350 : GoodIn hGW (wsV RX11 350 RX10 yX10_begin (Cond.code yX10_begin cX10_begin 4 (Option.none) :: hGW)) := hgi4 kml_X11_350 kin_X10_begin kse_X10_X10_begin_X10_begin kini_X10 kco_X10_begin
theorem dsc_X10_begin : yX10_begin.cls = RX10 ∧ yX10_begin.cls ≠ "java/lang/invoke/MethodHandle" ∧ yX10_begin.cls ≠ "java/lang/invoke/VarHandle" ∧ (parseMethodDescriptor yX10_begin.desc).map (fun d => d.parameters.length) = some 1 := ⟨rfl, by decide +kernel, by decide +kernel, by decide +kernel⟩
theorem gw_X11_353 : GoodIn hGW (wsV RX11 353 RX11 yX11_tellAmountsAt (Cond.code yX11_tellAmountsAt cX11_tellAmountsAt 5 (Option.none) :: hGW)) := hgi4 kml_X11_353 kin_X11_tellAmountsAt kse_X11_X11_tellAmountsAt_X11_tellAmountsAt kini_X11 kco_X11_tellAmountsAt
theorem dsc_X11_tellAmountsAt : yX11_tellAmountsAt.cls = RX11 ∧ yX11_tellAmountsAt.cls ≠ "java/lang/invoke/MethodHandle" ∧ yX11_tellAmountsAt.cls ≠ "java/lang/invoke/VarHandle" ∧ (parseMethodDescriptor yX11_tellAmountsAt.desc).map (fun d => d.parameters.length) = some 2 := ⟨rfl, by decide +kernel, by decide +kernel, by decide +kernel⟩
theorem gw_X11_357 : GoodIn hGW (wsV RX11 357 RX1 yX1_leftOf (Cond.code yX1_leftOf cX1_leftOf 2 (Option.some FieldType.int) :: hGW)) := hgi4 kml_X11_357 kin_X1_leftOf kse_X1_X1_leftOf_X1_leftOf kini_X1 kco_X1_leftOf
theorem dX11_fillTriangle_0 : decode cX11_fillTriangle 0 = .ok (.aload_n 0, 1) := by decide +kernel
theorem dX11_fillTriangle_1 : decode cX11_fillTriangle 1 = .ok (.getfield 67, 3) := by decide +kernel
theorem dX11_fillTriangle_4 : decode cX11_fillTriangle 4 = .ok (.iload_n 1, 1) := by decide +kernel
theorem dX11_fillTriangle_5 : decode cX11_fillTriangle 5 = .ok (.aaload, 1) := by decide +kernel
theorem dX11_fillTriangle_6 : decode cX11_fillTriangle 6 = .ok (.astore_n 2, 1) := by decide +kernel
theorem dX11_fillTriangle_7 : decode cX11_fillTriangle 7 = .ok (.aload_n 2, 1) := by decide +kernel
theorem dX11_fillTriangle_8 : decode cX11_fillTriangle 8 = .ok (.aload_n 0, 1) := by decide +kernel
theorem dX11_fillTriangle_9 : decode cX11_fillTriangle 9 = .ok (.getfield 78, 3) := by decide +kernel
theorem dX11_fillTriangle_12 : decode cX11_fillTriangle 12 = .ok (.invokevirtual 350, 3) := by decide +kernel
theorem dX11_fillTriangle_15 : decode cX11_fillTriangle 15 = .ok (.iconst 0, 1) := by decide +kernel
theorem dX11_fillTriangle_16 : decode cX11_fillTriangle 16 = .ok (.istore_n 3, 1) := by decide +kernel
theorem dX11_fillTriangle_17 : decode cX11_fillTriangle 17 = .ok (.iload_n 3, 1) := by decide +kernel
theorem dX11_fillTriangle_18 : decode cX11_fillTriangle 18 = .ok (.aload_n 0, 1) := by decide +kernel
theorem dX11_fillTriangle_19 : decode cX11_fillTriangle 19 = .ok (.getfield 78, 3) := by decide +kernel
theorem dX11_fillTriangle_22 : decode cX11_fillTriangle 22 = .ok (.if_icmp .gt 133, 3) := by decide +kernel
theorem dX11_fillTriangle_25 : decode cX11_fillTriangle 25 = .ok (.aload_n 0, 1) := by decide +kernel
theorem dX11_fillTriangle_26 : decode cX11_fillTriangle 26 = .ok (.iload_n 3, 1) := by decide +kernel
theorem dX11_fillTriangle_27 : decode cX11_fillTriangle 27 = .ok (.iload_n 1, 1) := by decide +kernel
theorem dX11_fillTriangle_28 : decode cX11_fillTriangle 28 = .ok (.iconst 2, 1) := by decide +kernel
theorem dX11_fillTriangle_29 : decode cX11_fillTriangle 29 = .ok (.irem, 1) := by decide +kernel
theorem dX11_fillTriangle_30 : decode cX11_fillTriangle 30 = .ok (.ifCond .ne 7, 3) := by decide +kernel
theorem dX11_fillTriangle_33 : decode cX11_fillTriangle 33 = .ok (.iconst 1, 1) := by decide +kernel
theorem dX11_fillTriangle_34 : decode cX11_fillTriangle 34 = .ok (.goto 4, 3) := by decide +kernel
theorem dX11_fillTriangle_37 : decode cX11_fillTriangle 37 = .ok (.iconst 0, 1) := by decide +kernel
theorem dX11_fillTriangle_38 : decode cX11_fillTriangle 38 = .ok (.invokevirtual 353, 3) := by decide +kernel
theorem dX11_fillTriangle_41 : decode cX11_fillTriangle 41 = .ok (.iload_n 1, 1) := by decide +kernel
theorem dX11_fillTriangle_42 : decode cX11_fillTriangle 42 = .ok (.iconst 2, 1) := by decide +kernel
theorem dX11_fillTriangle_43 : decode cX11_fillTriangle 43 = .ok (.if_icmp .lt 18, 3) := by decide +kernel
theorem dX11_fillTriangle_46 : decode cX11_fillTriangle 46 = .ok (.aload_n 0, 1) := by decide +kernel
theorem dX11_fillTriangle_47 : decode cX11_fillTriangle 47 = .ok (.getfield 61, 3) := by decide +kernel
theorem dX11_fillTriangle_50 : decode cX11_fillTriangle 50 = .ok (.aload_n 0, 1) := by decide +kernel
theorem dX11_fillTriangle_51 : decode cX11_fillTriangle 51 = .ok (.getfield 46, 3) := by decide +kernel
theorem dX11_fillTriangle_54 : decode cX11_fillTriangle 54 = .ok (.invokevirtual 176, 3) := by decide +kernel
theorem dX11_fillTriangle_57 : decode cX11_fillTriangle 57 = .ok (.iconst (-1), 1) := by decide +kernel
theorem dX11_fillTriangle_58 : decode cX11_fillTriangle 58 = .ok (.invokevirtual 298, 3) := by decide +kernel
theorem dX11_fillTriangle_61 : decode cX11_fillTriangle 61 = .ok (.iconst 0, 1) := by decide +kernel
theorem dX11_fillTriangle_62 : decode cX11_fillTriangle 62 = .ok (.istore 4, 2) := by decide +kernel
theorem dX11_fillTriangle_64 : decode cX11_fillTriangle 64 = .ok (.iload 4, 2) := by decide +kernel
theorem dX11_fillTriangle_66 : decode cX11_fillTriangle 66 = .ok (.aload_n 0, 1) := by decide +kernel
theorem dX11_fillTriangle_67 : decode cX11_fillTriangle 67 = .ok (.getfield 46, 3) := by decide +kernel
theorem dX11_fillTriangle_70 : decode cX11_fillTriangle 70 = .ok (.invokevirtual 176, 3) := by decide +kernel
theorem dX11_fillTriangle_73 : decode cX11_fillTriangle 73 = .ok (.if_icmp .ge 76, 3) := by decide +kernel
theorem dX11_fillTriangle_76 : decode cX11_fillTriangle 76 = .ok (.aload_n 0, 1) := by decide +kernel
theorem dX11_fillTriangle_77 : decode cX11_fillTriangle 77 = .ok (.getfield 46, 3) := by decide +kernel
theorem dX11_fillTriangle_80 : decode cX11_fillTriangle 80 = .ok (.iload 4, 2) := by decide +kernel
theorem dX11_fillTriangle_82 : decode cX11_fillTriangle 82 = .ok (.invokevirtual 150, 3) := by decide +kernel
theorem dX11_fillTriangle_85 : decode cX11_fillTriangle 85 = .ok (.checkcast 181, 3) := by decide +kernel
theorem dX11_fillTriangle_88 : decode cX11_fillTriangle 88 = .ok (.getfield 224, 3) := by decide +kernel
theorem dX11_fillTriangle_91 : decode cX11_fillTriangle 91 = .ok (.istore 5, 2) := by decide +kernel
theorem dX11_fillTriangle_93 : decode cX11_fillTriangle 93 = .ok (.iload_n 3, 1) := by decide +kernel
theorem dX11_fillTriangle_94 : decode cX11_fillTriangle 94 = .ok (.aload_n 0, 1) := by decide +kernel
theorem dX11_fillTriangle_95 : decode cX11_fillTriangle 95 = .ok (.getfield 78, 3) := by decide +kernel
theorem dX11_fillTriangle_98 : decode cX11_fillTriangle 98 = .ok (.iload 5, 2) := by decide +kernel
theorem dX11_fillTriangle_100 : decode cX11_fillTriangle 100 = .ok (.isub, 1) := by decide +kernel
theorem dX11_fillTriangle_101 : decode cX11_fillTriangle 101 = .ok (.if_icmp .gt 42, 3) := by decide +kernel
theorem dX11_fillTriangle_104 : decode cX11_fillTriangle 104 = .ok (.aload_n 2, 1) := by decide +kernel
theorem dX11_fillTriangle_105 : decode cX11_fillTriangle 105 = .ok (.getfield 262, 3) := by decide +kernel
theorem dX11_fillTriangle_108 : decode cX11_fillTriangle 108 = .ok (.iload 5, 2) := by decide +kernel
theorem dX11_fillTriangle_110 : decode cX11_fillTriangle 110 = .ok (.aaload, 1) := by decide +kernel
theorem dX11_fillTriangle_111 : decode cX11_fillTriangle 111 = .ok (.iload_n 3, 1) := by decide +kernel
theorem dX11_fillTriangle_112 : decode cX11_fillTriangle 112 = .ok (.dup2, 1) := by decide +kernel
theorem dX11_fillTriangle_113 : decode cX11_fillTriangle 113 = .ok (.iaload, 1) := by decide +kernel
theorem dX11_fillTriangle_114 : decode cX11_fillTriangle 114 = .ok (.iload_n 1, 1) := by decide +kernel
theorem dX11_fillTriangle_115 : decode cX11_fillTriangle 115 = .ok (.iconst 2, 1) := by decide +kernel
theorem dX11_fillTriangle_116 : decode cX11_fillTriangle 116 = .ok (.if_icmp .lt 15, 3) := by decide +kernel
theorem dX11_fillTriangle_119 : decode cX11_fillTriangle 119 = .ok (.aload_n 0, 1) := by decide +kernel
theorem dX11_fillTriangle_120 : decode cX11_fillTriangle 120 = .ok (.getfield 61, 3) := by decide +kernel
theorem dX11_fillTriangle_123 : decode cX11_fillTriangle 123 = .ok (.iload 4, 2) := by decide +kernel
theorem dX11_fillTriangle_125 : decode cX11_fillTriangle 125 = .ok (.invokevirtual 357, 3) := by decide +kernel
theorem dX11_fillTriangle_128 : decode cX11_fillTriangle 128 = .ok (.goto 13, 3) := by decide +kernel
theorem dX11_fillTriangle_131 : decode cX11_fillTriangle 131 = .ok (.aload_n 0, 1) := by decide +kernel
theorem dX11_fillTriangle_132 : decode cX11_fillTriangle 132 = .ok (.getfield 61, 3) := by decide +kernel
theorem dX11_fillTriangle_135 : decode cX11_fillTriangle 135 = .ok (.getfield 295, 3) := by decide +kernel
theorem dX11_fillTriangle_138 : decode cX11_fillTriangle 138 = .ok (.iload 4, 2) := by decide +kernel
theorem dX11_fillTriangle_140 : decode cX11_fillTriangle 140 = .ok (.iaload, 1) := by decide +kernel
theorem dX11_fillTriangle_141 : decode cX11_fillTriangle 141 = .ok (.iadd, 1) := by decide +kernel
theorem dX11_fillTriangle_142 : decode cX11_fillTriangle 142 = .ok (.iastore, 1) := by decide +kernel
theorem dX11_fillTriangle_143 : decode cX11_fillTriangle 143 = .ok (.iinc 4 1, 3) := by decide +kernel
theorem dX11_fillTriangle_146 : decode cX11_fillTriangle 146 = .ok (.goto (-82), 3) := by decide +kernel
theorem dX11_fillTriangle_149 : decode cX11_fillTriangle 149 = .ok (.iinc 3 1, 3) := by decide +kernel
theorem dX11_fillTriangle_152 : decode cX11_fillTriangle 152 = .ok (.goto (-135), 3) := by decide +kernel
theorem dX11_fillTriangle_155 : decode cX11_fillTriangle 155 = .ok (.return_, 1) := by decide +kernel
set_option maxHeartbeats 400000 in
set_option maxRecDepth 100000 in
theorem c_fillTriangle (l : Launch) (G : hG) (M : hM) (S : hSy) (h : hHo) (hQv : QV G M S h) (k : Nat) (hk : k < 4) : hCT l G yX11_fillTriangle cX11_fillTriangle 6 (Option.none) (hRm 9 0 0) M [.ref (sA S 0), .int (nI k)] (fun v M' => v = none ∧ TrIs G M' S (hNow h) k ∧ hSim G (hS3 k) M M') := by
  refine hCT.of (own := RX11) (nm := "fillTriangle") (by decide) rfl rfl (Nat.le_of_ble_eq_true rfl) ?_
  intro p e s m args below meth c ls X Y hl
  have hx := X.1
  have hb := X.2.1
  have hl : lv_has ls 6 [(0, .ref (sA S 0)), (1, .int (nI k))] := hl
  obtain ⟨hS, hG1, hHo, hCe, hTr, hnow, hyn⟩ := id hQv
  obtain ⟨hN8, hM40, hLG, hCY⟩ := id hG1
  obtain ⟨hl13, he14, hl15, he16, hLa, hCl⟩ := id hS
  obtain ⟨mc13, hlo13⟩ := id hl13
  obtain ⟨mc15, hlo15⟩ := id hl15
  obtain ⟨ho0, ho1, ho17, ho18, ft19, hft19, ho19⟩ := id hHo
  obtain ⟨ce0, nv, hV⟩ := hTr k hk
  obtain ⟨t1, ⟨ft, hft, t2⟩, t3⟩ := id hV
  refine lv_aload_n hx hb dX11_fillTriangle_0 rfl (lv_at hl 0 rfl) ?_
  refine h_get X Y (k := 9) (v := .ref (sA S 19)) ho0 rfl hin_X11 (by decide) kfl_X11_67 rfl dX11_fillTriangle_1 ?_
  refine lv_iload_n hx hb dX11_fillTriangle_4 rfl (lv_at hl 1 rfl) ?_
  refine h_aald X Y 4 (i := k) ho19 rfl (by omega) (by decide) dX11_fillTriangle_5 ?_
  refine h_rf (hft19 k (by omega)) ?_
  refine lv_astore_n (lv' := [(2, .ref (sA S (400 + 20 * k))), (0, .ref (sA S 0)), (1, .int (nI k))]) hx hb dX11_fillTriangle_6 rfl hl (by decide) rfl (fun ls hl => ?_)
  refine lv_aload_n hx hb dX11_fillTriangle_7 rfl (lv_at hl 0 rfl) ?_
  refine lv_aload_n hx hb dX11_fillTriangle_8 rfl (lv_at hl 1 rfl) ?_
  refine h_get X Y (k := 12) (v := .int (nI (hNow h))) ho0 rfl hin_X11 (by decide) kfl_X11_78 rfl dX11_fillTriangle_9 ?_
  refine h_callV (rest := []) X Y (c_begin l G M S hS k hk ce0 nv hV (hNow h)) gw_X11_350 dsc_X10_begin t1 rfl rfl rfl hl.1 rfl (Nat.le_of_ble_eq_true rfl) ⟨Nat.le_of_ble_eq_true rfl, Nat.le_of_ble_eq_true rfl⟩ ⟨Nat.le_of_ble_eq_true rfl, Nat.le_of_ble_eq_true rfl⟩ dX11_fillTriangle_12 ?_
  rintro _ M1 H locs ⟨rfl, ce1, hV, hz0, hq⟩ Y
  try dsimp only [Option.toList, List.nil_append]
  have hs0 : hSim G (hS3 k) M M1 := hq.mono (fun u q => Or.inr q)
  have hQv := hQv.sim (hq.mono (hS2_scr hk))
  obtain ⟨hS, -, hHo, hCe, hTr, -, -⟩ := id hQv
  obtain ⟨hl13, he14, hl15, he16, hLa, hCl⟩ := id hS
  obtain ⟨mc13, hlo13⟩ := id hl13
  obtain ⟨mc15, hlo15⟩ := id hl15
  obtain ⟨ho0, ho1, ho17, ho18, ft19, hft19, ho19⟩ := id hHo
  refine lv_iconst (v := 0) hx hb dX11_fillTriangle_15 (by decide) ?_
  refine lv_istore_n (lv' := [(3, .int 0), (2, .ref (sA S (400 + 20 * k))), (0, .ref (sA S 0)), (1, .int (nI k))]) hx hb dX11_fillTriangle_16 rfl hl (by decide) rfl (fun ls hl => ?_)
  have loop : ∀ (d a : Nat), a + d = hNow h + 2 → a ≤ hNow h + 1 → ∀ (M1 : hM) (ce1 : Nat → Nat → Int32), QV G M1 S h → TrV G M1 S k ce1 (nI (hNow h)) → hSim G (hS3 k) M M1 → (∀ y, y < 10 → ∀ b, b < 10 → ce1 y b = if b < a then qCell S (hNow h) k y b (sM S) else 0) → ∀ (H : Heap) (locs : List Loc) (ls : Array Slot), hHS G M1 s H locs → lv_has ls 6 [(0, .ref (sA S 0)), (1, .int (nI k)), (2, .ref (sA S (400 + 20 * k))), (3, .int (nI a))] → W p l e (hRm 9 0 0) s m args below meth c H locs 0 0 (MQ below (hQ G (fun v M' => v = none ∧ TrIs G M' S (hNow h) k ∧ hSim G (hS3 k) M M')) args s 0 0 (hA G)) (F0 m 17 ls []) := by
    intro d
    induction d with
    | zero => intro a h1; intros; exact absurd h1 (by omega)
    | succ d ih =>
      intro a h1 h2 M1 ce1 hQv hV hs0 hz H locs ls Y hl
      obtain ⟨hS, -, hHo, hCe, hTr, -, -⟩ := id hQv
      obtain ⟨hl13, he14, hl15, he16, hLa, hCl⟩ := id hS
      obtain ⟨mc13, hlo13⟩ := id hl13
      obtain ⟨mc15, hlo15⟩ := id hl15
      obtain ⟨ho0, ho1, ho17, ho18, ft19, hft19, ho19⟩ := id hHo
      obtain ⟨t1, ⟨ft, hft, t2⟩, t3⟩ := id hV
      obtain ⟨am, be, yl, lo, hW⟩ := hCe 2 (by omega)
      refine lv_iload_n hx hb dX11_fillTriangle_17 rfl (lv_at hl 3 rfl) ?_
      refine lv_aload_n hx hb dX11_fillTriangle_18 rfl (lv_at hl 0 rfl) ?_
      refine h_get X Y (k := 12) (v := .int (nI (hNow h))) ho0 rfl hin_X11 (by decide) kfl_X11_78 rfl dX11_fillTriangle_19 ?_
      refine lv_icmp_gt (tgt := 155) hx hb dX11_fillTriangle_22 (by decide) (fun c22 => ?_) (fun c22 => ?_)
      · have c22 : (hNow h) < a := (nI_ltI (a := (hNow h)) (b := a) (by omega) (by omega)).mp c22
        have hfin : ∀ y, y < 10 → ∀ b, b < 10 → ce1 y b = qCell S (hNow h) k y b (sM S) := by
          intro y hy b hb9
          rw [hz y hy b hb9]
          by_cases e1 : b < a
          · rw [if_pos e1]
          · rw [if_neg e1, qCell_0 S (hNow h) k y b (by omega)]
        exact h_vret X Y ⟨rfl, ⟨ce1, hV, hfin⟩, hs0⟩ (Nat.le_refl _) (Nat.le_refl _) dX11_fillTriangle_155
      · have c22 : ¬ (hNow h) < a := fun z9 => c22 ((nI_ltI (a := (hNow h)) (b := a) (by omega) (by omega)).mpr z9)
        refine lv_aload_n hx hb dX11_fillTriangle_25 rfl (lv_at hl 0 rfl) ?_
        refine lv_iload_n hx hb dX11_fillTriangle_26 rfl (lv_at hl 3 rfl) ?_
        skip
        have tail38 : ∀ (H : Heap) (locs : List Loc) (ls : Array Slot), hHS G M1 s H locs → lv_has ls 6 [(0, .ref (sA S 0)), (1, .int (nI k)), (2, .ref (sA S (400 + 20 * k))), (3, .int (nI a))] → W p l e (hRm 9 0 0) s m args below meth c H locs 0 0 (MQ below (hQ G (fun v M' => v = none ∧ TrIs G M' S (hNow h) k ∧ hSim G (hS3 k) M M')) args s 0 0 (hA G)) (F0 m 38 ls [.int (bI (kpd k)), .int (nI a), .ref (sA S 0)]) := by
          intro H locs ls Y hl
          refine h_callV (rest := []) X Y (c_tellAmountsAt l G M1 S h hQv am be yl lo hW a (kpd k) (by omega)) gw_X11_353 dsc_X11_tellAmountsAt ho0 rfl rfl rfl hl.1 rfl (Nat.le_of_ble_eq_true rfl) ⟨Nat.le_of_ble_eq_true rfl, Nat.le_of_ble_eq_true rfl⟩ ⟨Nat.le_of_ble_eq_true rfl, Nat.le_of_ble_eq_true rfl⟩ dX11_fillTriangle_38 ?_
          rintro _ M2 H locs ⟨rfl, am1, hW, ha, hq⟩ Y
          try dsimp only [Option.toList, List.nil_append]
          have hs0 := hs0.tr (hq.mono (fun u q => Or.inl q))
          have hV := hV.sim hq (hS1_2_tri hk)
          have hQv := hQv.sim (hq.mono (hS1_scr (by omega)))
          obtain ⟨hS, -, hHo, hCe, hTr, -, -⟩ := id hQv
          obtain ⟨hl13, he14, hl15, he16, hLa, hCl⟩ := id hS
          obtain ⟨mc13, hlo13⟩ := id hl13
          obtain ⟨mc15, hlo15⟩ := id hl15
          obtain ⟨ho0, ho1, ho17, ho18, ft19, hft19, ho19⟩ := id hHo
          refine lv_iload_n hx hb dX11_fillTriangle_41 rfl (lv_at hl 1 rfl) ?_
          refine lv_iconst (v := 2) hx hb dX11_fillTriangle_42 (by decide) ?_
          refine lv_icmp_lt (tgt := 61) hx hb dX11_fillTriangle_43 (by decide) (fun c43 => ?_) (fun c43 => ?_)
          · have c43 : k < 2 := (nI_ltI (a := k) (b := 2) (by omega) (by omega)).mp c43
            refine lv_iconst (v := 0) hx hb dX11_fillTriangle_61 (by decide) ?_
            refine lv_istore (lv' := [(4, .int 0), (0, .ref (sA S 0)), (1, .int (nI k)), (2, .ref (sA S (400 + 20 * k))), (3, .int (nI a))]) hx hb dX11_fillTriangle_62 hl (by decide) rfl (fun ls hl => ?_)
            have hz3 : ∀ y, y < 10 → ∀ b, b < 10 → ce1 y b = if b < a then qCell S (hNow h) k y b (sM S) else if b = a then qCell S (hNow h) k y a 0 else 0 := by
              intro y hy b hb9
              rw [hz y hy b hb9]
              by_cases e1 : b < a
              · rw [if_pos e1, if_pos e1]
              · rw [if_neg e1, if_neg e1]
                by_cases e2 : b = a
                · rw [if_pos e2]; rfl
                · rw [if_neg e2]
            have loop2 : ∀ (d i : Nat), i + d = sM S + 1 → i ≤ sM S → ∀ (M3 : hM) (ce3 : Nat → Nat → Int32), QV G M3 S h → TrV G M3 S k ce3 (nI (hNow h)) → CesV G M3 S 2 am1 be yl lo → hSim G (hS3 k) M M3 → (∀ y, y < 10 → ∀ b, b < 10 → ce3 y b = if b < a then qCell S (hNow h) k y b (sM S) else if b = a then qCell S (hNow h) k y a i else 0) → ∀ (H : Heap) (locs : List Loc) (ls : Array Slot), hHS G M3 s H locs → lv_has ls 6 [(0, .ref (sA S 0)), (1, .int (nI k)), (2, .ref (sA S (400 + 20 * k))), (3, .int (nI a)), (4, .int (nI i))] → W p l e (hRm 9 0 0) s m args below meth c H locs 0 0 (MQ below (hQ G (fun v M' => v = none ∧ TrIs G M' S (hNow h) k ∧ hSim G (hS3 k) M M')) args s 0 0 (hA G)) (F0 m 64 ls []) := by
              intro d
              induction d with
              | zero => intro i h1; intros; exact absurd h1 (by omega)
              | succ d ih2 =>
                intro i i1 i2 M3 ce3 hQv hV hW hs0 hz3 H locs ls Y hl
                obtain ⟨hS, -, hHo, hCe, hTr, -, -⟩ := id hQv
                obtain ⟨hl13, he14, hl15, he16, hLa, hCl⟩ := id hS
                obtain ⟨mc13, hlo13⟩ := id hl13
                obtain ⟨mc15, hlo15⟩ := id hl15
                obtain ⟨ho0, ho1, ho17, ho18, ft19, hft19, ho19⟩ := id hHo
                obtain ⟨t1, ⟨ft, hft, t2⟩, t3⟩ := id hV
                obtain ⟨ho, ham, -⟩ := id hW
                refine lv_iload hx hb dX11_fillTriangle_64 (lv_at hl 4 rfl) ?_
                refine lv_aload_n hx hb dX11_fillTriangle_66 rfl (lv_at hl 0 rfl) ?_
                refine h_get X Y (k := 5) (v := .ref (sA S 15)) ho0 rfl hin_X11 (by decide) kfl_X11_46 rfl dX11_fillTriangle_67 ?_
                refine h_callVr (rest := [.int (nI i)]) X Y (c_size l G M3 (sA S 15) 15 (sA S 16) (sM S) hl15) rfl rfl gw_X11_176 dsc_Jx4a65c_size_8abf5 hlo15 rfl rfl rfl rfl hl.1 (Nat.le_of_ble_eq_true rfl) ⟨Nat.le_of_ble_eq_true rfl, Nat.le_of_ble_eq_true rfl⟩ ⟨Nat.le_of_ble_eq_true rfl, Nat.le_of_ble_eq_true rfl⟩ dX11_fillTriangle_70 (fun H locs Y => ?_)
                refine lv_icmp_ge (tgt := 149) hx hb dX11_fillTriangle_73 (by decide) (fun c73 => ?_) (fun c73 => ?_)
                · have c73 : (sM S) ≤ i := (nI_leI (a := (sM S)) (b := i) (by omega) (by omega)).mp c73
                  have hk9 : i = (sM S) := by omega
                  subst hk9
                  have hz1 : ∀ y, y < 10 → ∀ b, b < 10 → ce3 y b = if b < a + 1 then qCell S (hNow h) k y b (sM S) else 0 := by
                    intro y hy b hb9
                    rw [hz3 y hy b hb9]
                    by_cases e1 : b < a
                    · rw [if_pos e1, if_pos (by omega)]
                    · rw [if_neg e1]
                      by_cases e2 : b = a
                      · subst e2; rw [if_pos rfl, if_pos (by omega)]
                      · rw [if_neg e2, if_neg (by omega)]
                  refine lv_iinc (v := nI (a + 1)) (lv' := [(3, .int (nI (a + 1))), (0, .ref (sA S 0)), (1, .int (nI k)), (2, .ref (sA S (400 + 20 * k))), (4, .int (nI (sM S)))]) hx hb dX11_fillTriangle_149 hl (k := 3) rfl (nI_1 a) (by decide) rfl (fun ls hl => ?_)
                  refine lv_goto (tgt := 17) hx hb dX11_fillTriangle_152 (by decide) ?_
                  exact ih (a + 1) (by omega) (by omega) M3 _ hQv hV hs0 hz1 _ _ _ Y (lv_sub hl [1, 2, 3, 0] rfl)
                · have c73 : ¬ (sM S) ≤ i := fun z9 => c73 ((nI_leI (a := (sM S)) (b := i) (by omega) (by omega)).mpr z9)
                  have hy := hyn i (by omega)
                  have hcy := hCY i (by omega)
                  refine lv_aload_n hx hb dX11_fillTriangle_76 rfl (lv_at hl 0 rfl) ?_
                  refine h_get X Y (k := 5) (v := .ref (sA S 15)) ho0 rfl hin_X11 (by decide) kfl_X11_46 rfl dX11_fillTriangle_77 ?_
                  refine lv_iload hx hb dX11_fillTriangle_80 (lv_at hl 4 rfl) ?_
                  refine h_callVr (rest := []) X Y (c_get l G M3 (sA S 15) 15 (sA S 16) 16 (sM S) i (fun i => sA S (1000 + 10 * i)) hl15 (he16 (by omega)) (by omega)) rfl rfl gw_X11_150 dsc_Jx4a65c_get_915e3 hlo15 rfl rfl rfl rfl hl.1 (Nat.le_of_ble_eq_true rfl) ⟨Nat.le_of_ble_eq_true rfl, Nat.le_of_ble_eq_true rfl⟩ ⟨Nat.le_of_ble_eq_true rfl, Nat.le_of_ble_eq_true rfl⟩ dX11_fillTriangle_82 (fun H locs Y => ?_)
                  refine h_cast X Y (hCl i (by omega)).1 rfl rfl kcl_X11_181 dX11_fillTriangle_85 ?_
                  refine h_get X Y (k := 0) (v := .int (nI (clY (sC S i)))) (hCl i (by omega)).1 rfl hin_X3 (by decide) kfl_X11_224 rfl dX11_fillTriangle_88 ?_
                  refine lv_istore (lv' := [(5, .int (nI (clY (sC S i)))), (0, .ref (sA S 0)), (1, .int (nI k)), (2, .ref (sA S (400 + 20 * k))), (3, .int (nI a)), (4, .int (nI i))]) hx hb dX11_fillTriangle_91 hl (by decide) rfl (fun ls hl => ?_)
                  refine lv_iload_n hx hb dX11_fillTriangle_93 rfl (lv_at hl 4 rfl) ?_
                  refine lv_aload_n hx hb dX11_fillTriangle_94 rfl (lv_at hl 1 rfl) ?_
                  refine h_get X Y (k := 12) (v := .int (nI (hNow h))) ho0 rfl hin_X11 (by decide) kfl_X11_78 rfl dX11_fillTriangle_95 ?_
                  refine lv_iload hx hb dX11_fillTriangle_98 (lv_at hl 0 rfl) ?_
                  refine lv_isub hx hb dX11_fillTriangle_100 ?_
                  refine h_ev (y := nI (hNow h - clY (sC S i))) (pk_sub hy) ?_
                  refine lv_icmp_gt (tgt := 143) hx hb dX11_fillTriangle_101 (by decide) (fun c101 => ?_) (fun c101 => ?_)
                  · have c101 : (hNow h - clY (sC S i)) < a := (nI_ltI (a := (hNow h - clY (sC S i))) (b := a) (by omega) (by omega)).mp c101
                    refine lv_iinc (v := nI (i + 1)) (lv' := [(4, .int (nI (i + 1))), (5, .int (nI (clY (sC S i)))), (0, .ref (sA S 0)), (1, .int (nI k)), (2, .ref (sA S (400 + 20 * k))), (3, .int (nI a))]) hx hb dX11_fillTriangle_143 hl (k := 5) rfl (nI_1 i) (by decide) rfl (fun ls hl => ?_)
                    refine lv_goto (tgt := 64) hx hb dX11_fillTriangle_146 (by decide) ?_
                    refine ih2 (i + 1) (by omega) (by omega) M3 _ hQv hV hW hs0 ?_ _ _ _ Y (lv_sub hl [2, 3, 4, 5, 0] rfl)
                    intro y hy b hb9
                    rw [hz3 y hy b hb9]
                    have e2 : qCell S (hNow h) k y a (i + 1) = qCell S (hNow h) k y a i := if_neg (fun z9 => by have := z9.1; have := z9.2; omega)
                    rw [e2]
                  · have c101 : ¬ (hNow h - clY (sC S i)) < a := fun z9 => c101 ((nI_ltI (a := (hNow h - clY (sC S i))) (b := a) (by omega) (by omega)).mpr z9)
                    refine lv_aload_n hx hb dX11_fillTriangle_104 rfl (lv_at hl 3 rfl) ?_
                    refine h_get X Y (k := 0) (v := .ref (sA S (400 + 20 * k + 1))) t1 rfl hin_X10 (by decide) kfl_X11_262 rfl dX11_fillTriangle_105 ?_
                    refine lv_iload hx hb dX11_fillTriangle_108 (lv_at hl 0 rfl) ?_
                    refine h_aaldI X Y (i := (clY (sC S i))) t2 (by omega) (by decide) dX11_fillTriangle_110 ?_
                    refine h_rf (hft (clY (sC S i)) (by omega)) ?_
                    refine lv_iload_n hx hb dX11_fillTriangle_111 rfl (lv_at hl 4 rfl) ?_
                    refine lv_dup2_11 hx hb dX11_fillTriangle_112 rfl rfl ?_
                    refine h_iald X Y (i := a) (t3 (clY (sC S i)) (by omega)) (by omega) (by decide) dX11_fillTriangle_113 ?_
                    refine lv_iload_n hx hb dX11_fillTriangle_114 rfl (lv_at hl 2 rfl) ?_
                    refine lv_iconst (v := 2) hx hb dX11_fillTriangle_115 (by decide) ?_
                    refine lv_icmp_lt (tgt := 131) hx hb dX11_fillTriangle_116 (by decide) (fun c116 => ?_) (fun c116 => absurd (show ¬ k < 2 from fun z9 => c116 ((nI_ltI (a := k) (b := 2) (by omega) (by omega)).mpr z9)) (by omega))
                    have c116 : k < 2 := (nI_ltI (a := k) (b := 2) (by omega) (by omega)).mp c116
                    refine lv_aload_n hx hb dX11_fillTriangle_131 rfl (lv_at hl 1 rfl) ?_
                    refine h_get X Y (k := 8) (v := .ref (sA S (100 * (2 + 1)))) ho0 rfl hin_X11 (by decide) kfl_X11_61 rfl dX11_fillTriangle_132 ?_
                    refine h_get X Y (k := 0) (v := .ref (sA S (100 * (2 + 1) + 1))) ho rfl hin_X1 (by decide) kfl_X11_295 rfl dX11_fillTriangle_135 ?_
                    refine lv_iload hx hb dX11_fillTriangle_138 (lv_at hl 5 rfl) ?_
                    refine h_iald X Y (i := i) ham (by omega) (by decide) dX11_fillTriangle_140 ?_
                    have hval : am1 i = qVal S (hNow h) k a i := (ha i (by omega)).trans (if_neg (by omega)).symm
                    refine lv_iadd hx hb dX11_fillTriangle_141 ?_
                    refine h_iast X Y (i := a) (t3 (clY (sC S i)) (by omega)) (by omega) (by decide) dX11_fillTriangle_142 (fun H locs Y => ?_)
                    obtain ⟨hV, -, hq⟩ := TrV.putRow hk (clY (sC S i)) hcy (upd (ce3 (clY (sC S i))) a (((ce3 (clY (sC S i))) a) + (am1 i))) hV hS
                    have hs0 := hs0.tr (hq.mono (fun u q => Or.inr q))
                    have hW := hW.sim hq (hS2_ces (by omega))
                    generalize hup M3 _ _ = M3 at Y hV hq hs0 hW
                    have hQv := hQv.sim (hq.mono (hS2_scr hk))
                    obtain ⟨hS, -, hHo, hCe, hTr, -, -⟩ := id hQv
                    obtain ⟨hl13, he14, hl15, he16, hLa, hCl⟩ := id hS
                    obtain ⟨mc13, hlo13⟩ := id hl13
                    obtain ⟨mc15, hlo15⟩ := id hl15
                    obtain ⟨ho0, ho1, ho17, ho18, ft19, hft19, ho19⟩ := id hHo
                    refine lv_iinc (v := nI (i + 1)) (lv' := [(4, .int (nI (i + 1))), (5, .int (nI (clY (sC S i)))), (0, .ref (sA S 0)), (1, .int (nI k)), (2, .ref (sA S (400 + 20 * k))), (3, .int (nI a))]) hx hb dX11_fillTriangle_143 hl (k := 5) rfl (nI_1 i) (by decide) rfl (fun ls hl => ?_)
                    refine lv_goto (tgt := 64) hx hb dX11_fillTriangle_146 (by decide) ?_
                    refine ih2 (i + 1) (by omega) (by omega) M3 _ hQv hV hW hs0 ?_ _ _ _ Y (lv_sub hl [2, 3, 4, 5, 0] rfl)
                    intro y hy b hb9
                    by_cases e : y = clY (sC S i)
                    · subst e
                      rw [va_up_self]
                      by_cases eb : b = a
                      · subst eb
                        rw [pk_us, hz3 _ hy b hb9, if_neg (by omega), if_pos rfl, if_neg (by omega), if_pos rfl]
                        exact (congrArg (fun z => qCell S (hNow h) k (clY (sC S i)) b i + z) hval).trans (if_pos ⟨rfl, by omega⟩).symm
                      · rw [pk_un eb, hz3 _ hy b hb9]
                        by_cases e1 : b < a
                        · rw [if_pos e1, if_pos e1]
                        · rw [if_neg e1, if_neg eb, if_neg e1, if_neg eb]
                    · rw [va_up_ne _ _ e, hz3 y hy b hb9]
                      have e2 : qCell S (hNow h) k y a (i + 1) = qCell S (hNow h) k y a i := if_neg (fun z9 => e z9.1.symm)
                      rw [e2]
            exact loop2 (sM S + 1) 0 (by omega) (by omega) _ ce1 hQv hV hW hs0 hz3 _ _ _ Y (lv_sub hl [1, 2, 3, 4, 0] rfl)
          · have c43 : ¬ k < 2 := fun z9 => c43 ((nI_ltI (a := k) (b := 2) (by omega) (by omega)).mpr z9)
            refine lv_aload_n hx hb dX11_fillTriangle_46 rfl (lv_at hl 0 rfl) ?_
            refine h_get X Y (k := 8) (v := .ref (sA S (100 * (2 + 1)))) ho0 rfl hin_X11 (by decide) kfl_X11_61 rfl dX11_fillTriangle_47 ?_
            refine lv_aload_n hx hb dX11_fillTriangle_50 rfl (lv_at hl 0 rfl) ?_
            refine h_get X Y (k := 5) (v := .ref (sA S 15)) ho0 rfl hin_X11 (by decide) kfl_X11_46 rfl dX11_fillTriangle_51 ?_
            refine h_callVr (rest := [.ref (sA S (100 * (2 + 1)))]) X Y (c_size l G M2 (sA S 15) 15 (sA S 16) (sM S) hl15) rfl rfl gw_X11_176 dsc_Jx4a65c_size_8abf5 hlo15 rfl rfl rfl rfl hl.1 (Nat.le_of_ble_eq_true rfl) ⟨Nat.le_of_ble_eq_true rfl, Nat.le_of_ble_eq_true rfl⟩ ⟨Nat.le_of_ble_eq_true rfl, Nat.le_of_ble_eq_true rfl⟩ dX11_fillTriangle_54 (fun H locs Y => ?_)
            refine lv_iconst (v := (-1)) hx hb dX11_fillTriangle_57 (by decide) ?_
            obtain ⟨ho, -⟩ := id hW
            refine h_callV (rest := []) X Y (c_cedeAhead l G M2 S hS hG1 2 am1 be yl lo hW (by omega) (sM S) (-1) (Nat.le_refl _)) gw_X11_298 dsc_X1_cedeAhead ho rfl rfl rfl hl.1 rfl (Nat.le_of_ble_eq_true rfl) ⟨Nat.le_of_ble_eq_true rfl, Nat.le_of_ble_eq_true rfl⟩ ⟨Nat.le_of_ble_eq_true rfl, Nat.le_of_ble_eq_true rfl⟩ dX11_fillTriangle_58 ?_
            rintro _ M4 H locs ⟨rfl, be2, yl2, lo2, hW, hbq, hy2, hq⟩ Y
            try dsimp only [Option.toList, List.nil_append]
            have hs0 := hs0.tr (hq.mono (fun u q => Or.inl q))
            have hV := hV.sim hq (hS1_2_tri hk)
            have hQv := hQv.sim (hq.mono (hS1_scr (by omega)))
            obtain ⟨hS, -, hHo, hCe, hTr, -, -⟩ := id hQv
            obtain ⟨hl13, he14, hl15, he16, hLa, hCl⟩ := id hS
            obtain ⟨mc13, hlo13⟩ := id hl13
            obtain ⟨mc15, hlo15⟩ := id hl15
            obtain ⟨ho0, ho1, ho17, ho18, ft19, hft19, ho19⟩ := id hHo
            have hbq : ∀ i, i < sM S → ∀ j, j < sN S → be2 i j = pBe S (-1) (qAt S (hNow h) a (kpd k)) i j := fun i hi j hj => (hbq i hi j hj).trans (congrFun (pBe_congr S (-1) i (fun z hz => ha z (by omega))) j)
            refine lv_iconst (v := 0) hx hb dX11_fillTriangle_61 (by decide) ?_
            refine lv_istore (lv' := [(4, .int 0), (0, .ref (sA S 0)), (1, .int (nI k)), (2, .ref (sA S (400 + 20 * k))), (3, .int (nI a))]) hx hb dX11_fillTriangle_62 hl (by decide) rfl (fun ls hl => ?_)
            have hz3 : ∀ y, y < 10 → ∀ b, b < 10 → ce1 y b = if b < a then qCell S (hNow h) k y b (sM S) else if b = a then qCell S (hNow h) k y a 0 else 0 := by
              intro y hy b hb9
              rw [hz y hy b hb9]
              by_cases e1 : b < a
              · rw [if_pos e1, if_pos e1]
              · rw [if_neg e1, if_neg e1]
                by_cases e2 : b = a
                · rw [if_pos e2]; rfl
                · rw [if_neg e2]
            have loop2 : ∀ (d i : Nat), i + d = sM S + 1 → i ≤ sM S → ∀ (M3 : hM) (ce3 : Nat → Nat → Int32), QV G M3 S h → TrV G M3 S k ce3 (nI (hNow h)) → CesV G M3 S 2 am1 be2 yl2 lo2 → hSim G (hS3 k) M M3 → (∀ y, y < 10 → ∀ b, b < 10 → ce3 y b = if b < a then qCell S (hNow h) k y b (sM S) else if b = a then qCell S (hNow h) k y a i else 0) → ∀ (H : Heap) (locs : List Loc) (ls : Array Slot), hHS G M3 s H locs → lv_has ls 6 [(0, .ref (sA S 0)), (1, .int (nI k)), (2, .ref (sA S (400 + 20 * k))), (3, .int (nI a)), (4, .int (nI i))] → W p l e (hRm 9 0 0) s m args below meth c H locs 0 0 (MQ below (hQ G (fun v M' => v = none ∧ TrIs G M' S (hNow h) k ∧ hSim G (hS3 k) M M')) args s 0 0 (hA G)) (F0 m 64 ls []) := by
              intro d
              induction d with
              | zero => intro i h1; intros; exact absurd h1 (by omega)
              | succ d ih2 =>
                intro i i1 i2 M3 ce3 hQv hV hW hs0 hz3 H locs ls Y hl
                obtain ⟨hS, -, hHo, hCe, hTr, -, -⟩ := id hQv
                obtain ⟨hl13, he14, hl15, he16, hLa, hCl⟩ := id hS
                obtain ⟨mc13, hlo13⟩ := id hl13
                obtain ⟨mc15, hlo15⟩ := id hl15
                obtain ⟨ho0, ho1, ho17, ho18, ft19, hft19, ho19⟩ := id hHo
                obtain ⟨t1, ⟨ft, hft, t2⟩, t3⟩ := id hV
                obtain ⟨ho, ham, -⟩ := id hW
                refine lv_iload hx hb dX11_fillTriangle_64 (lv_at hl 4 rfl) ?_
                refine lv_aload_n hx hb dX11_fillTriangle_66 rfl (lv_at hl 0 rfl) ?_
                refine h_get X Y (k := 5) (v := .ref (sA S 15)) ho0 rfl hin_X11 (by decide) kfl_X11_46 rfl dX11_fillTriangle_67 ?_
                refine h_callVr (rest := [.int (nI i)]) X Y (c_size l G M3 (sA S 15) 15 (sA S 16) (sM S) hl15) rfl rfl gw_X11_176 dsc_Jx4a65c_size_8abf5 hlo15 rfl rfl rfl rfl hl.1 (Nat.le_of_ble_eq_true rfl) ⟨Nat.le_of_ble_eq_true rfl, Nat.le_of_ble_eq_true rfl⟩ ⟨Nat.le_of_ble_eq_true rfl, Nat.le_of_ble_eq_true rfl⟩ dX11_fillTriangle_70 (fun H locs Y => ?_)
                refine lv_icmp_ge (tgt := 149) hx hb dX11_fillTriangle_73 (by decide) (fun c73 => ?_) (fun c73 => ?_)
                · have c73 : (sM S) ≤ i := (nI_leI (a := (sM S)) (b := i) (by omega) (by omega)).mp c73
                  have hk9 : i = (sM S) := by omega
                  subst hk9
                  have hz1 : ∀ y, y < 10 → ∀ b, b < 10 → ce3 y b = if b < a + 1 then qCell S (hNow h) k y b (sM S) else 0 := by
                    intro y hy b hb9
                    rw [hz3 y hy b hb9]
                    by_cases e1 : b < a
                    · rw [if_pos e1, if_pos (by omega)]
                    · rw [if_neg e1]
                      by_cases e2 : b = a
                      · subst e2; rw [if_pos rfl, if_pos (by omega)]
                      · rw [if_neg e2, if_neg (by omega)]
                  refine lv_iinc (v := nI (a + 1)) (lv' := [(3, .int (nI (a + 1))), (0, .ref (sA S 0)), (1, .int (nI k)), (2, .ref (sA S (400 + 20 * k))), (4, .int (nI (sM S)))]) hx hb dX11_fillTriangle_149 hl (k := 3) rfl (nI_1 a) (by decide) rfl (fun ls hl => ?_)
                  refine lv_goto (tgt := 17) hx hb dX11_fillTriangle_152 (by decide) ?_
                  exact ih (a + 1) (by omega) (by omega) M3 _ hQv hV hs0 hz1 _ _ _ Y (lv_sub hl [1, 2, 3, 0] rfl)
                · have c73 : ¬ (sM S) ≤ i := fun z9 => c73 ((nI_leI (a := (sM S)) (b := i) (by omega) (by omega)).mpr z9)
                  have hy := hyn i (by omega)
                  have hcy := hCY i (by omega)
                  refine lv_aload_n hx hb dX11_fillTriangle_76 rfl (lv_at hl 0 rfl) ?_
                  refine h_get X Y (k := 5) (v := .ref (sA S 15)) ho0 rfl hin_X11 (by decide) kfl_X11_46 rfl dX11_fillTriangle_77 ?_
                  refine lv_iload hx hb dX11_fillTriangle_80 (lv_at hl 4 rfl) ?_
                  refine h_callVr (rest := []) X Y (c_get l G M3 (sA S 15) 15 (sA S 16) 16 (sM S) i (fun i => sA S (1000 + 10 * i)) hl15 (he16 (by omega)) (by omega)) rfl rfl gw_X11_150 dsc_Jx4a65c_get_915e3 hlo15 rfl rfl rfl rfl hl.1 (Nat.le_of_ble_eq_true rfl) ⟨Nat.le_of_ble_eq_true rfl, Nat.le_of_ble_eq_true rfl⟩ ⟨Nat.le_of_ble_eq_true rfl, Nat.le_of_ble_eq_true rfl⟩ dX11_fillTriangle_82 (fun H locs Y => ?_)
                  refine h_cast X Y (hCl i (by omega)).1 rfl rfl kcl_X11_181 dX11_fillTriangle_85 ?_
                  refine h_get X Y (k := 0) (v := .int (nI (clY (sC S i)))) (hCl i (by omega)).1 rfl hin_X3 (by decide) kfl_X11_224 rfl dX11_fillTriangle_88 ?_
                  refine lv_istore (lv' := [(5, .int (nI (clY (sC S i)))), (0, .ref (sA S 0)), (1, .int (nI k)), (2, .ref (sA S (400 + 20 * k))), (3, .int (nI a)), (4, .int (nI i))]) hx hb dX11_fillTriangle_91 hl (by decide) rfl (fun ls hl => ?_)
                  refine lv_iload_n hx hb dX11_fillTriangle_93 rfl (lv_at hl 4 rfl) ?_
                  refine lv_aload_n hx hb dX11_fillTriangle_94 rfl (lv_at hl 1 rfl) ?_
                  refine h_get X Y (k := 12) (v := .int (nI (hNow h))) ho0 rfl hin_X11 (by decide) kfl_X11_78 rfl dX11_fillTriangle_95 ?_
                  refine lv_iload hx hb dX11_fillTriangle_98 (lv_at hl 0 rfl) ?_
                  refine lv_isub hx hb dX11_fillTriangle_100 ?_
                  refine h_ev (y := nI (hNow h - clY (sC S i))) (pk_sub hy) ?_
                  refine lv_icmp_gt (tgt := 143) hx hb dX11_fillTriangle_101 (by decide) (fun c101 => ?_) (fun c101 => ?_)
                  · have c101 : (hNow h - clY (sC S i)) < a := (nI_ltI (a := (hNow h - clY (sC S i))) (b := a) (by omega) (by omega)).mp c101
                    refine lv_iinc (v := nI (i + 1)) (lv' := [(4, .int (nI (i + 1))), (5, .int (nI (clY (sC S i)))), (0, .ref (sA S 0)), (1, .int (nI k)), (2, .ref (sA S (400 + 20 * k))), (3, .int (nI a))]) hx hb dX11_fillTriangle_143 hl (k := 5) rfl (nI_1 i) (by decide) rfl (fun ls hl => ?_)
                    refine lv_goto (tgt := 64) hx hb dX11_fillTriangle_146 (by decide) ?_
                    refine ih2 (i + 1) (by omega) (by omega) M3 _ hQv hV hW hs0 ?_ _ _ _ Y (lv_sub hl [2, 3, 4, 5, 0] rfl)
                    intro y hy b hb9
                    rw [hz3 y hy b hb9]
                    have e2 : qCell S (hNow h) k y a (i + 1) = qCell S (hNow h) k y a i := if_neg (fun z9 => by have := z9.1; have := z9.2; omega)
                    rw [e2]
                  · have c101 : ¬ (hNow h - clY (sC S i)) < a := fun z9 => c101 ((nI_ltI (a := (hNow h - clY (sC S i))) (b := a) (by omega) (by omega)).mpr z9)
                    refine lv_aload_n hx hb dX11_fillTriangle_104 rfl (lv_at hl 3 rfl) ?_
                    refine h_get X Y (k := 0) (v := .ref (sA S (400 + 20 * k + 1))) t1 rfl hin_X10 (by decide) kfl_X11_262 rfl dX11_fillTriangle_105 ?_
                    refine lv_iload hx hb dX11_fillTriangle_108 (lv_at hl 0 rfl) ?_
                    refine h_aaldI X Y (i := (clY (sC S i))) t2 (by omega) (by decide) dX11_fillTriangle_110 ?_
                    refine h_rf (hft (clY (sC S i)) (by omega)) ?_
                    refine lv_iload_n hx hb dX11_fillTriangle_111 rfl (lv_at hl 4 rfl) ?_
                    refine lv_dup2_11 hx hb dX11_fillTriangle_112 rfl rfl ?_
                    refine h_iald X Y (i := a) (t3 (clY (sC S i)) (by omega)) (by omega) (by decide) dX11_fillTriangle_113 ?_
                    refine lv_iload_n hx hb dX11_fillTriangle_114 rfl (lv_at hl 2 rfl) ?_
                    refine lv_iconst (v := 2) hx hb dX11_fillTriangle_115 (by decide) ?_
                    refine lv_icmp_lt (tgt := 131) hx hb dX11_fillTriangle_116 (by decide) (fun c116 => absurd (show k < 2 from (nI_ltI (a := k) (b := 2) (by omega) (by omega)).mp c116) (by omega)) (fun c116 => ?_)
                    have c116 : ¬ k < 2 := fun z9 => c116 ((nI_ltI (a := k) (b := 2) (by omega) (by omega)).mpr z9)
                    refine lv_aload_n hx hb dX11_fillTriangle_119 rfl (lv_at hl 1 rfl) ?_
                    refine h_get X Y (k := 8) (v := .ref (sA S (100 * (2 + 1)))) ho0 rfl hin_X11 (by decide) kfl_X11_61 rfl dX11_fillTriangle_120 ?_
                    refine lv_iload hx hb dX11_fillTriangle_123 (lv_at hl 5 rfl) ?_
                    refine h_callVr (rest := [.int ((ce3 (clY (sC S i))) a), .int (nI a), .ref (sA S (400 + 20 * k + 2 + (clY (sC S i))))]) X Y (c_leftOf l G M3 S hS hG1 2 am1 be2 yl2 lo2 hW i (by omega)) rfl rfl gw_X11_357 dsc_X1_leftOf ho rfl rfl rfl rfl hl.1 (Nat.le_of_ble_eq_true rfl) ⟨Nat.le_of_ble_eq_true rfl, Nat.le_of_ble_eq_true rfl⟩ ⟨Nat.le_of_ble_eq_true rfl, Nat.le_of_ble_eq_true rfl⟩ dX11_fillTriangle_125 (fun H locs Y => ?_)
                    refine lv_goto (tgt := 141) hx hb dX11_fillTriangle_128 (by decide) ?_
                    have hval : rLeft S am1 be2 i = qVal S (hNow h) k a i := (rLeft_congr S (ha i (by omega)) (hbq i (by omega))).trans (if_pos (by omega)).symm
                    refine lv_iadd hx hb dX11_fillTriangle_141 ?_
                    refine h_iast X Y (i := a) (t3 (clY (sC S i)) (by omega)) (by omega) (by decide) dX11_fillTriangle_142 (fun H locs Y => ?_)
                    obtain ⟨hV, -, hq⟩ := TrV.putRow hk (clY (sC S i)) hcy (upd (ce3 (clY (sC S i))) a (((ce3 (clY (sC S i))) a) + (rLeft S am1 be2 i))) hV hS
                    have hs0 := hs0.tr (hq.mono (fun u q => Or.inr q))
                    have hW := hW.sim hq (hS2_ces (by omega))
                    generalize hup M3 _ _ = M5 at Y hV hq hs0 hW
                    have hQv := hQv.sim (hq.mono (hS2_scr hk))
                    obtain ⟨hS, -, hHo, hCe, hTr, -, -⟩ := id hQv
                    obtain ⟨hl13, he14, hl15, he16, hLa, hCl⟩ := id hS
                    obtain ⟨mc13, hlo13⟩ := id hl13
                    obtain ⟨mc15, hlo15⟩ := id hl15
                    obtain ⟨ho0, ho1, ho17, ho18, ft19, hft19, ho19⟩ := id hHo
                    refine lv_iinc (v := nI (i + 1)) (lv' := [(4, .int (nI (i + 1))), (5, .int (nI (clY (sC S i)))), (0, .ref (sA S 0)), (1, .int (nI k)), (2, .ref (sA S (400 + 20 * k))), (3, .int (nI a))]) hx hb dX11_fillTriangle_143 hl (k := 5) rfl (nI_1 i) (by decide) rfl (fun ls hl => ?_)
                    refine lv_goto (tgt := 64) hx hb dX11_fillTriangle_146 (by decide) ?_
                    refine ih2 (i + 1) (by omega) (by omega) M5 _ hQv hV hW hs0 ?_ _ _ _ Y (lv_sub hl [2, 3, 4, 5, 0] rfl)
                    intro y hy b hb9
                    by_cases e : y = clY (sC S i)
                    · subst e
                      rw [va_up_self]
                      by_cases eb : b = a
                      · subst eb
                        rw [pk_us, hz3 _ hy b hb9, if_neg (by omega), if_pos rfl, if_neg (by omega), if_pos rfl]
                        exact (congrArg (fun z => qCell S (hNow h) k (clY (sC S i)) b i + z) hval).trans (if_pos ⟨rfl, by omega⟩).symm
                      · rw [pk_un eb, hz3 _ hy b hb9]
                        by_cases e1 : b < a
                        · rw [if_pos e1, if_pos e1]
                        · rw [if_neg e1, if_neg eb, if_neg e1, if_neg eb]
                    · rw [va_up_ne _ _ e, hz3 y hy b hb9]
                      have e2 : qCell S (hNow h) k y a (i + 1) = qCell S (hNow h) k y a i := if_neg (fun z9 => e z9.1.symm)
                      rw [e2]
            exact loop2 (sM S + 1) 0 (by omega) (by omega) _ ce1 hQv hV hW hs0 hz3 _ _ _ Y (lv_sub hl [1, 2, 3, 4, 0] rfl)
        refine lv_iload_n hx hb dX11_fillTriangle_27 rfl (lv_at hl 1 rfl) ?_
        refine lv_iconst (v := 2) hx hb dX11_fillTriangle_28 (by decide) ?_
        refine lv_irem hx hb dX11_fillTriangle_29 (by decide) ?_
        refine h_ev (y := nI (k % 2)) (pk_rem (a := k) (d := 2) (by omega) (by omega) (by omega)) ?_
        refine lv_if_ne (tgt := 37) hx hb dX11_fillTriangle_30 (by decide) (fun c30 => ?_) (fun c30 => ?_)
        · have c30 : ¬ (k % 2) = 0 := fun z9 => c30 ((nI_eq (a := (k % 2)) (b := 0) (by omega) (by omega)).mpr z9)
          refine lv_iconst (v := 0) hx hb dX11_fillTriangle_37 (by decide) ?_
          have hpd : kpd k = false := by unfold kpd; exact beq_eq_false_iff_ne.mpr c30
          refine h_ev (y := bI (kpd k)) (by rw [hpd]; rfl) ?_
          exact tail38 _ _ _ Y (lv_sub hl [0, 1, 2, 3] rfl)
        · have c30 : (k % 2) = 0 := (nI_eq (a := (k % 2)) (b := 0) (by omega) (by omega)).mp c30
          refine lv_iconst (v := 1) hx hb dX11_fillTriangle_33 (by decide) ?_
          refine lv_goto (tgt := 38) hx hb dX11_fillTriangle_34 (by decide) ?_
          have hpd : kpd k = true := by unfold kpd; rw [c30]; rfl
          refine h_ev (y := bI (kpd k)) (by rw [hpd]; rfl) ?_
          exact tail38 _ _ _ Y (lv_sub hl [0, 1, 2, 3] rfl)
  exact loop (hNow h + 2) 0 (by omega) (by omega) _ ce1 hQv hV hs0 (fun y hy b hb => (hz0 y hy b hb).trans (if_neg (by omega)).symm) _ _ _ Y (lv_sub hl [2, 3, 1, 0] rfl)
end
section
-- WHAT IS ASKED OF THE HOUSE
def qLeft (S : hSy) (pd : Bool) (i : Nat) : Int32 := rLeft S (qAm S pd) (pBe S (-1) (qAm S pd)) i
def qLefts (S : hSy) (pd : Bool) (mu : Int32) : Int32 := rLefts S (qAm S pd) (pBe S mu (qAm S pd))
def qYl (S : hSy) (pd : Bool) (k y : Nat) : Int32 := pYl S (-1) (qAm S pd) (sM S) k y
def qUsed (S : hSy) (k y what : Nat) : Int32 := match what with
  | 0 => rBorne S (qYl S false) k y
  | 1 => lyRoom (sL S k) y (rBorne S (qYl S false) k y)
  | 2 => rCharge S (qYl S false) k y
  | _ => nI (rCount S (pBe S (-1) (qAm S false)) k y (sM S))
def qCount (S : hSy) (h : hHo) (what : Nat) : Int32 := match what with
  | 0 => nI (sN S)
  | 1 => nI (sM S)
  | 2 => rSum (fun i => clOpen (sC S i)) (sM S)
  | 3 => nI (hNow h)
  | 4 => hTl h
  | 5 => rSum (fun i => clI (sC S i) 1) (sM S)
  | 6 => rSum (fun i => clI (sC S i) 2) (sM S)
  | 7 => qLefts S false (-1)
  | _ => rCharges S (qYl S false)
def qClaim (S : hSy) (i what : Nat) : Int32 := match what with
  | 0 => nI (clY (sC S i))
  | 1 => clI (sC S i) 0
  | 2 => clI (sC S i) 1
  | 3 => clI (sC S i) 2
  | 4 => clI (sC S i) 1 + clI (sC S i) 2
  | 5 => clOpen (sC S i)
  | 6 => qLeft S true i
  | _ => qLeft S false i
def qTri (S : hSy) (now k y b : Nat) : Int32 := qCell S now k y b (sM S)
theorem rSumL_congr {f g : Nat → Int32} : ∀ n, (∀ i, i < n → f i = g i) → rSumL f n = rSumL g n
  | 0, _ => rfl
  | n + 1, h => by
    unfold rSumL
    rw [rSumL_congr n (fun i hi => h i (by omega)), h n (by omega)]
theorem trFac_congr {ce ce' : Nat → Nat → Int32} {nw age : Nat} (hn : nw < 10) (h : ∀ y, y < 10 → ∀ b, b < 10 → ce y b = ce' y b) : trFac ce nw age = trFac ce' nw age := by
  unfold trFac
  rw [rSumL_congr (f := fun y => ce y age) (g := fun y => ce' y age) (nw - age) (fun i hi => h i (by omega) age (by omega)), rSumL_congr (f := fun y => ce y (age + 1)) (g := fun y => ce' y (age + 1)) (nw - age) (fun i hi => h i (by omega) (age + 1) (by omega))]
theorem trG_congr {ce ce' : Nat → Nat → Int32} {nw a0 : Nat} (hn : nw < 10) (h : ∀ y, y < 10 → ∀ b, b < 10 → ce y b = ce' y b) (z : Int64) : ∀ j, trG ce nw a0 z j = trG ce' nw a0 z j
  | 0 => rfl
  | j + 1 => by
    unfold trG
    rw [trG_congr hn h z j, trFac_congr hn h]
theorem trGrown_congr {ce ce' : Nat → Nat → Int32} {nw : Nat} (hn : nw < 10) (h : ∀ y, y < 10 → ∀ b, b < 10 → ce y b = ce' y b) (z : Int64) (y : Nat) (tail : Int32) : trGrown ce nw z y tail = trGrown ce' nw z y tail := by
  unfold trGrown
  rw [trG_congr hn h]
def qUlt (S : hSy) (h : hHo) (k y : Nat) : Int32 := trGrown (qTri S (hNow h) k) (hNow h) (qTri S (hNow h) k y (hNow h - y)).toInt64 y (hTail h)
def qGro (S : hSy) (h : hHo) (k y : Nat) : Int32 := trGrown (qTri S (hNow h) k) (hNow h) 1000 y (hTail h)
def qRes (S : hSy) (h : hHo) (mt y : Nat) : Int32 := match mt with
  | 0 => qUlt S h 0 y - qTri S (hNow h) 0 y (hNow h - y)
  | 1 => qUlt S h 1 y - qTri S (hNow h) 0 y (hNow h - y)
  | _ => if qGro S h 0 y = 0 then 0 else (sMaxL ((hPr h y).toInt64 * (hEx h y).toInt64 / 100 * (1000 - 1000000 / qGro S h 0 y).toInt64 / 1000) 0).toInt32
theorem dX11_claimOf_0 : decode cX11_claimOf 0 = .ok (.aload_n 0, 1) := by decide +kernel
theorem dX11_claimOf_1 : decode cX11_claimOf 1 = .ok (.getfield 46, 3) := by decide +kernel
theorem dX11_claimOf_4 : decode cX11_claimOf 4 = .ok (.iload_n 1, 1) := by decide +kernel
theorem dX11_claimOf_5 : decode cX11_claimOf 5 = .ok (.invokevirtual 150, 3) := by decide +kernel
theorem dX11_claimOf_8 : decode cX11_claimOf 8 = .ok (.checkcast 181, 3) := by decide +kernel
theorem dX11_claimOf_11 : decode cX11_claimOf 11 = .ok (.astore_n 3, 1) := by decide +kernel
theorem dX11_claimOf_12 : decode cX11_claimOf 12 = .ok (.iload_n 2, 1) := by decide +kernel
theorem dX11_claimOf_13 : decode cX11_claimOf 13 = .ok (.tableswitch 95 0 6 #[43, 48, 53, 58, 63, 73, 86], 43) := by decide +kernel
theorem dX11_claimOf_56 : decode cX11_claimOf 56 = .ok (.aload_n 3, 1) := by decide +kernel
theorem dX11_claimOf_57 : decode cX11_claimOf 57 = .ok (.getfield 224, 3) := by decide +kernel
theorem dX11_claimOf_60 : decode cX11_claimOf 60 = .ok (.ireturn, 1) := by decide +kernel
theorem dX11_claimOf_61 : decode cX11_claimOf 61 = .ok (.aload_n 3, 1) := by decide +kernel
theorem dX11_claimOf_62 : decode cX11_claimOf 62 = .ok (.getfield 369, 3) := by decide +kernel
theorem dX11_claimOf_65 : decode cX11_claimOf 65 = .ok (.ireturn, 1) := by decide +kernel
theorem dX11_claimOf_66 : decode cX11_claimOf 66 = .ok (.aload_n 3, 1) := by decide +kernel
theorem dX11_claimOf_67 : decode cX11_claimOf 67 = .ok (.getfield 202, 3) := by decide +kernel
theorem dX11_claimOf_70 : decode cX11_claimOf 70 = .ok (.ireturn, 1) := by decide +kernel
theorem dX11_claimOf_71 : decode cX11_claimOf 71 = .ok (.aload_n 3, 1) := by decide +kernel
theorem dX11_claimOf_72 : decode cX11_claimOf 72 = .ok (.getfield 207, 3) := by decide +kernel
theorem dX11_claimOf_75 : decode cX11_claimOf 75 = .ok (.ireturn, 1) := by decide +kernel
theorem dX11_claimOf_76 : decode cX11_claimOf 76 = .ok (.aload_n 3, 1) := by decide +kernel
theorem dX11_claimOf_77 : decode cX11_claimOf 77 = .ok (.getfield 202, 3) := by decide +kernel
theorem dX11_claimOf_80 : decode cX11_claimOf 80 = .ok (.aload_n 3, 1) := by decide +kernel
theorem dX11_claimOf_81 : decode cX11_claimOf 81 = .ok (.getfield 207, 3) := by decide +kernel
theorem dX11_claimOf_84 : decode cX11_claimOf 84 = .ok (.iadd, 1) := by decide +kernel
theorem dX11_claimOf_85 : decode cX11_claimOf 85 = .ok (.ireturn, 1) := by decide +kernel
theorem dX11_claimOf_86 : decode cX11_claimOf 86 = .ok (.aload_n 3, 1) := by decide +kernel
theorem dX11_claimOf_87 : decode cX11_claimOf 87 = .ok (.getfield 198, 3) := by decide +kernel
theorem dX11_claimOf_90 : decode cX11_claimOf 90 = .ok (.ifCond .eq 7, 3) := by decide +kernel
theorem dX11_claimOf_93 : decode cX11_claimOf 93 = .ok (.iconst 1, 1) := by decide +kernel
theorem dX11_claimOf_94 : decode cX11_claimOf 94 = .ok (.goto 4, 3) := by decide +kernel
theorem dX11_claimOf_97 : decode cX11_claimOf 97 = .ok (.iconst 0, 1) := by decide +kernel
theorem dX11_claimOf_98 : decode cX11_claimOf 98 = .ok (.ireturn, 1) := by decide +kernel
theorem dX11_claimOf_99 : decode cX11_claimOf 99 = .ok (.aload_n 0, 1) := by decide +kernel
theorem dX11_claimOf_100 : decode cX11_claimOf 100 = .ok (.getfield 54, 3) := by decide +kernel
theorem dX11_claimOf_103 : decode cX11_claimOf 103 = .ok (.iload_n 1, 1) := by decide +kernel
theorem dX11_claimOf_104 : decode cX11_claimOf 104 = .ok (.invokevirtual 357, 3) := by decide +kernel
theorem dX11_claimOf_107 : decode cX11_claimOf 107 = .ok (.ireturn, 1) := by decide +kernel
theorem dX11_claimOf_108 : decode cX11_claimOf 108 = .ok (.aload_n 0, 1) := by decide +kernel
theorem dX11_claimOf_109 : decode cX11_claimOf 109 = .ok (.getfield 58, 3) := by decide +kernel
theorem dX11_claimOf_112 : decode cX11_claimOf 112 = .ok (.iload_n 1, 1) := by decide +kernel
theorem dX11_claimOf_113 : decode cX11_claimOf 113 = .ok (.invokevirtual 357, 3) := by decide +kernel
theorem dX11_claimOf_116 : decode cX11_claimOf 116 = .ok (.ireturn, 1) := by decide +kernel
set_option maxHeartbeats 400000 in
set_option maxRecDepth 100000 in
theorem c_claimOf (l : Launch) (G : hG) (M : hM) (S : hSy) (h : hHo) (hQv : QV G M S h) (i what : Nat) (hi : i < sM S) (hw : what < 8) (h6 : what = 6 → CesIs G M S 0 (-1) (qAm S true)) (h7 : what = 7 → CesIs G M S 1 (-1) (qAm S false)) : hCT l G yX11_claimOf cX11_claimOf 4 (Option.some FieldType.int) (hRm 7 0 0) M [.ref (sA S 0), .int (nI i), .int (nI what)] (hRd M (.int (qClaim S i what))) := by
  refine hCT.of (own := RX11) (nm := "claimOf") (by decide) rfl rfl (Nat.le_of_ble_eq_true rfl) ?_
  intro p e s m args below meth c ls X Y hl
  have hx := X.1
  have hb := X.2.1
  have hl : lv_has ls 4 [(0, .ref (sA S 0)), (1, .int (nI i)), (2, .int (nI what))] := hl
  obtain ⟨hS, hG1, hHo, hCe, hTr, hnow, hyn⟩ := id hQv
  obtain ⟨hN8, hM40, hLG, hCY⟩ := id hG1
  obtain ⟨hl13, he14, hl15, he16, hLa, hCl⟩ := id hS
  obtain ⟨mc13, hlo13⟩ := id hl13
  obtain ⟨mc15, hlo15⟩ := id hl15
  obtain ⟨ho0, ho1, ho17, ho18, ft19, hft19, ho19⟩ := id hHo
  refine lv_aload_n hx hb dX11_claimOf_0 rfl (lv_at hl 0 rfl) ?_
  refine h_get X Y (k := 5) (v := .ref (sA S 15)) ho0 rfl hin_X11 (by decide) kfl_X11_46 rfl dX11_claimOf_1 ?_
  refine lv_iload_n hx hb dX11_claimOf_4 rfl (lv_at hl 1 rfl) ?_
  refine h_callVr (rest := []) X Y (c_get l G M (sA S 15) 15 (sA S 16) 16 (sM S) i (fun i => sA S (1000 + 10 * i)) hl15 (he16 (by omega)) (by omega)) rfl rfl gw_X11_150 dsc_Jx4a65c_get_915e3 hlo15 rfl rfl rfl rfl hl.1 (Nat.le_of_ble_eq_true rfl) ⟨Nat.le_of_ble_eq_true rfl, Nat.le_of_ble_eq_true rfl⟩ ⟨Nat.le_of_ble_eq_true rfl, Nat.le_of_ble_eq_true rfl⟩ dX11_claimOf_5 (fun H locs Y => ?_)
  refine h_cast X Y (hCl i (by omega)).1 rfl rfl kcl_X11_181 dX11_claimOf_8 ?_
  refine lv_astore_n (lv' := [(3, .ref (sA S (1000 + 10 * i))), (0, .ref (sA S 0)), (1, .int (nI i)), (2, .int (nI what))]) hx hb dX11_claimOf_11 rfl hl (by decide) rfl (fun ls hl => ?_)
  rcases (show what = 0 ∨ what = 1 ∨ what = 2 ∨ what = 3 ∨ what = 4 ∨ what = 5 ∨ what = 6 ∨ what = 7 from (by omega)) with rfl | rfl | rfl | rfl | rfl | rfl | rfl | rfl
  · refine lv_iload_n hx hb dX11_claimOf_12 rfl (lv_at hl 3 rfl) ?_
    refine lv_tableIn (off := 43) (tgt := 56) hx hb dX11_claimOf_13 (by decide) (by decide) (by decide) (by decide) ?_
    refine lv_aload_n hx hb dX11_claimOf_56 rfl (lv_at hl 0 rfl) ?_
    refine h_get X Y (k := 0) (v := .int (nI (clY (sC S i)))) (hCl i (by omega)).1 rfl hin_X3 (by decide) kfl_X11_224 rfl dX11_claimOf_57 ?_
    exact h_iret X Y ⟨rfl, rfl⟩ (Nat.le_refl _) (Nat.le_refl _) dX11_claimOf_60
  · refine lv_iload_n hx hb dX11_claimOf_12 rfl (lv_at hl 3 rfl) ?_
    refine lv_tableIn (off := 48) (tgt := 61) hx hb dX11_claimOf_13 (by decide) (by decide) (by decide) (by decide) ?_
    refine lv_aload_n hx hb dX11_claimOf_61 rfl (lv_at hl 0 rfl) ?_
    refine h_get X Y (k := 1) (v := .int (clI (sC S i) 0)) (hCl i (by omega)).1 rfl hin_X3 (by decide) kfl_X11_369 rfl dX11_claimOf_62 ?_
    exact h_iret X Y ⟨rfl, rfl⟩ (Nat.le_refl _) (Nat.le_refl _) dX11_claimOf_65
  · refine lv_iload_n hx hb dX11_claimOf_12 rfl (lv_at hl 3 rfl) ?_
    refine lv_tableIn (off := 53) (tgt := 66) hx hb dX11_claimOf_13 (by decide) (by decide) (by decide) (by decide) ?_
    refine lv_aload_n hx hb dX11_claimOf_66 rfl (lv_at hl 0 rfl) ?_
    refine h_get X Y (k := 2) (v := .int (clI (sC S i) 1)) (hCl i (by omega)).1 rfl hin_X3 (by decide) kfl_X11_202 rfl dX11_claimOf_67 ?_
    exact h_iret X Y ⟨rfl, rfl⟩ (Nat.le_refl _) (Nat.le_refl _) dX11_claimOf_70
  · refine lv_iload_n hx hb dX11_claimOf_12 rfl (lv_at hl 3 rfl) ?_
    refine lv_tableIn (off := 58) (tgt := 71) hx hb dX11_claimOf_13 (by decide) (by decide) (by decide) (by decide) ?_
    refine lv_aload_n hx hb dX11_claimOf_71 rfl (lv_at hl 0 rfl) ?_
    refine h_get X Y (k := 3) (v := .int (clI (sC S i) 2)) (hCl i (by omega)).1 rfl hin_X3 (by decide) kfl_X11_207 rfl dX11_claimOf_72 ?_
    exact h_iret X Y ⟨rfl, rfl⟩ (Nat.le_refl _) (Nat.le_refl _) dX11_claimOf_75
  · refine lv_iload_n hx hb dX11_claimOf_12 rfl (lv_at hl 3 rfl) ?_
    refine lv_tableIn (off := 63) (tgt := 76) hx hb dX11_claimOf_13 (by decide) (by decide) (by decide) (by decide) ?_
    refine lv_aload_n hx hb dX11_claimOf_76 rfl (lv_at hl 0 rfl) ?_
    refine h_get X Y (k := 2) (v := .int (clI (sC S i) 1)) (hCl i (by omega)).1 rfl hin_X3 (by decide) kfl_X11_202 rfl dX11_claimOf_77 ?_
    refine lv_aload_n hx hb dX11_claimOf_80 rfl (lv_at hl 0 rfl) ?_
    refine h_get X Y (k := 3) (v := .int (clI (sC S i) 2)) (hCl i (by omega)).1 rfl hin_X3 (by decide) kfl_X11_207 rfl dX11_claimOf_81 ?_
    refine lv_iadd hx hb dX11_claimOf_84 ?_
    exact h_iret X Y ⟨rfl, rfl⟩ (Nat.le_refl _) (Nat.le_refl _) dX11_claimOf_85
  · refine lv_iload_n hx hb dX11_claimOf_12 rfl (lv_at hl 3 rfl) ?_
    refine lv_tableIn (off := 73) (tgt := 86) hx hb dX11_claimOf_13 (by decide) (by decide) (by decide) (by decide) ?_
    refine lv_aload_n hx hb dX11_claimOf_86 rfl (lv_at hl 0 rfl) ?_
    refine h_get X Y (k := 4) (v := .int (clI (sC S i) 3)) (hCl i (by omega)).1 rfl hin_X3 (by decide) kfl_X11_198 rfl dX11_claimOf_87 ?_
    refine lv_if_eq (tgt := 97) hx hb dX11_claimOf_90 (by decide) (fun c90 => ?_) (fun c90 => ?_)
    · refine lv_iconst (v := 0) hx hb dX11_claimOf_97 (by decide) ?_
      exact h_iret X Y ⟨congrArg (fun z => some (Value.int z)) (if_pos c90).symm, rfl⟩ (Nat.le_refl _) (Nat.le_refl _) dX11_claimOf_98
    · refine lv_iconst (v := 1) hx hb dX11_claimOf_93 (by decide) ?_
      refine lv_goto (tgt := 98) hx hb dX11_claimOf_94 (by decide) ?_
      exact h_iret X Y ⟨congrArg (fun z => some (Value.int z)) (if_neg c90).symm, rfl⟩ (Nat.le_refl _) (Nat.le_refl _) dX11_claimOf_98
  · refine lv_iload_n hx hb dX11_claimOf_12 rfl (lv_at hl 3 rfl) ?_
    refine lv_tableIn (off := 86) (tgt := 99) hx hb dX11_claimOf_13 (by decide) (by decide) (by decide) (by decide) ?_
    obtain ⟨am, be, yl, lo, hV, ha, hbq, hyq⟩ := id (h6 rfl)
    obtain ⟨hoc, -⟩ := id hV
    refine lv_aload_n hx hb dX11_claimOf_99 rfl (lv_at hl 1 rfl) ?_
    refine h_get X Y (k := 6) (v := .ref (sA S (100 * (0 + 1)))) ho0 rfl hin_X11 (by decide) kfl_X11_54 rfl dX11_claimOf_100 ?_
    refine lv_iload_n hx hb dX11_claimOf_103 rfl (lv_at hl 2 rfl) ?_
    refine h_callVr (rest := []) X Y (c_leftOf l G M S hS hG1 0 am be yl lo hV i (by omega)) rfl rfl gw_X11_357 dsc_X1_leftOf hoc rfl rfl rfl rfl hl.1 (Nat.le_of_ble_eq_true rfl) ⟨Nat.le_of_ble_eq_true rfl, Nat.le_of_ble_eq_true rfl⟩ ⟨Nat.le_of_ble_eq_true rfl, Nat.le_of_ble_eq_true rfl⟩ dX11_claimOf_104 (fun H locs Y => ?_)
    refine h_ev (y := qLeft S true i) (rLeft_congr S (ha i hi) (hbq i hi)) ?_
    exact h_iret X Y ⟨rfl, rfl⟩ (Nat.le_refl _) (Nat.le_refl _) dX11_claimOf_107
  · refine lv_iload_n hx hb dX11_claimOf_12 rfl (lv_at hl 3 rfl) ?_
    refine lv_tableOut (tgt := 108) hx hb dX11_claimOf_13 (by decide) (by decide) ?_
    obtain ⟨am, be, yl, lo, hV, ha, hbq, hyq⟩ := id (h7 rfl)
    obtain ⟨hoc, -⟩ := id hV
    refine lv_aload_n hx hb dX11_claimOf_108 rfl (lv_at hl 1 rfl) ?_
    refine h_get X Y (k := 7) (v := .ref (sA S (100 * (1 + 1)))) ho0 rfl hin_X11 (by decide) kfl_X11_58 rfl dX11_claimOf_109 ?_
    refine lv_iload_n hx hb dX11_claimOf_112 rfl (lv_at hl 2 rfl) ?_
    refine h_callVr (rest := []) X Y (c_leftOf l G M S hS hG1 1 am be yl lo hV i (by omega)) rfl rfl gw_X11_357 dsc_X1_leftOf hoc rfl rfl rfl rfl hl.1 (Nat.le_of_ble_eq_true rfl) ⟨Nat.le_of_ble_eq_true rfl, Nat.le_of_ble_eq_true rfl⟩ ⟨Nat.le_of_ble_eq_true rfl, Nat.le_of_ble_eq_true rfl⟩ dX11_claimOf_113 (fun H locs Y => ?_)
    refine h_ev (y := qLeft S false i) (rLeft_congr S (ha i hi) (hbq i hi)) ?_
    exact h_iret X Y ⟨rfl, rfl⟩ (Nat.le_refl _) (Nat.le_refl _) dX11_claimOf_116
theorem gw_X11_190 : GoodIn hGW (wsV RX11 190 RX11 yX11_hasClaim (Cond.code yX11_hasClaim cX11_hasClaim 2 (Option.some FieldType.boolean) :: hGW)) := hgi4 kml_X11_190 kin_X11_hasClaim kse_X11_X11_hasClaim_X11_hasClaim kini_X11 kco_X11_hasClaim
theorem dsc_X11_hasClaim : yX11_hasClaim.cls = RX11 ∧ yX11_hasClaim.cls ≠ "java/lang/invoke/MethodHandle" ∧ yX11_hasClaim.cls ≠ "java/lang/invoke/VarHandle" ∧ (parseMethodDescriptor yX11_hasClaim.desc).map (fun d => d.parameters.length) = some 1 := ⟨rfl, by decide +kernel, by decide +kernel, by decide +kernel⟩
theorem gw_X11_221 : GoodIn hGW (wsV RX11 221 RX11 yX11_claimOf (Cond.code yX11_claimOf cX11_claimOf 4 (Option.some FieldType.int) :: hGW)) := hgi4 kml_X11_221 kin_X11_claimOf kse_X11_X11_claimOf_X11_claimOf kini_X11 kco_X11_claimOf
theorem dsc_X11_claimOf : yX11_claimOf.cls = RX11 ∧ yX11_claimOf.cls ≠ "java/lang/invoke/MethodHandle" ∧ yX11_claimOf.cls ≠ "java/lang/invoke/VarHandle" ∧ (parseMethodDescriptor yX11_claimOf.desc).map (fun d => d.parameters.length) = some 2 := ⟨rfl, by decide +kernel, by decide +kernel, by decide +kernel⟩
theorem gw_X11_137 : GoodIn hGW (wsV RX11 137 RX11 yX11_cedeNow (Cond.code yX11_cedeNow cX11_cedeNow 4 (Option.none) :: hGW)) := hgi4 kml_X11_137 kin_X11_cedeNow kse_X11_X11_cedeNow_X11_cedeNow kini_X11 kco_X11_cedeNow
theorem dsc_X11_cedeNow : yX11_cedeNow.cls = RX11 ∧ yX11_cedeNow.cls ≠ "java/lang/invoke/MethodHandle" ∧ yX11_cedeNow.cls ≠ "java/lang/invoke/VarHandle" ∧ (parseMethodDescriptor yX11_cedeNow.desc).map (fun d => d.parameters.length) = some 3 := ⟨rfl, by decide +kernel, by decide +kernel, by decide +kernel⟩
theorem dX11_claim_0 : decode cX11_claim 0 = .ok (.aload_n 0, 1) := by decide +kernel
theorem dX11_claim_1 : decode cX11_claim 1 = .ok (.iload_n 1, 1) := by decide +kernel
theorem dX11_claim_2 : decode cX11_claim 2 = .ok (.invokevirtual 190, 3) := by decide +kernel
theorem dX11_claim_5 : decode cX11_claim 5 = .ok (.ifCond .eq 13, 3) := by decide +kernel
theorem dX11_claim_8 : decode cX11_claim 8 = .ok (.iload_n 2, 1) := by decide +kernel
theorem dX11_claim_9 : decode cX11_claim 9 = .ok (.ifCond .lt 9, 3) := by decide +kernel
theorem dX11_claim_12 : decode cX11_claim 12 = .ok (.iload_n 2, 1) := by decide +kernel
theorem dX11_claim_13 : decode cX11_claim 13 = .ok (.bipush 7, 2) := by decide +kernel
theorem dX11_claim_15 : decode cX11_claim 15 = .ok (.if_icmp .le 13, 3) := by decide +kernel
theorem dX11_claim_28 : decode cX11_claim 28 = .ok (.iload_n 2, 1) := by decide +kernel
theorem dX11_claim_29 : decode cX11_claim 29 = .ok (.bipush 6, 2) := by decide +kernel
theorem dX11_claim_31 : decode cX11_claim 31 = .ok (.if_icmp .ne 16, 3) := by decide +kernel
theorem dX11_claim_34 : decode cX11_claim 34 = .ok (.aload_n 0, 1) := by decide +kernel
theorem dX11_claim_35 : decode cX11_claim 35 = .ok (.aload_n 0, 1) := by decide +kernel
theorem dX11_claim_36 : decode cX11_claim 36 = .ok (.getfield 54, 3) := by decide +kernel
theorem dX11_claim_39 : decode cX11_claim 39 = .ok (.iconst 1, 1) := by decide +kernel
theorem dX11_claim_40 : decode cX11_claim 40 = .ok (.iconst (-1), 1) := by decide +kernel
theorem dX11_claim_41 : decode cX11_claim 41 = .ok (.invokevirtual 137, 3) := by decide +kernel
theorem dX11_claim_44 : decode cX11_claim 44 = .ok (.goto 19, 3) := by decide +kernel
theorem dX11_claim_47 : decode cX11_claim 47 = .ok (.iload_n 2, 1) := by decide +kernel
theorem dX11_claim_48 : decode cX11_claim 48 = .ok (.bipush 7, 2) := by decide +kernel
theorem dX11_claim_50 : decode cX11_claim 50 = .ok (.if_icmp .ne 13, 3) := by decide +kernel
theorem dX11_claim_53 : decode cX11_claim 53 = .ok (.aload_n 0, 1) := by decide +kernel
theorem dX11_claim_54 : decode cX11_claim 54 = .ok (.aload_n 0, 1) := by decide +kernel
theorem dX11_claim_55 : decode cX11_claim 55 = .ok (.getfield 58, 3) := by decide +kernel
theorem dX11_claim_58 : decode cX11_claim 58 = .ok (.iconst 0, 1) := by decide +kernel
theorem dX11_claim_59 : decode cX11_claim 59 = .ok (.iconst (-1), 1) := by decide +kernel
theorem dX11_claim_60 : decode cX11_claim 60 = .ok (.invokevirtual 137, 3) := by decide +kernel
theorem dX11_claim_63 : decode cX11_claim 63 = .ok (.aload_n 0, 1) := by decide +kernel
theorem dX11_claim_64 : decode cX11_claim 64 = .ok (.iload_n 1, 1) := by decide +kernel
theorem dX11_claim_65 : decode cX11_claim 65 = .ok (.iload_n 2, 1) := by decide +kernel
theorem dX11_claim_66 : decode cX11_claim 66 = .ok (.invokevirtual 221, 3) := by decide +kernel
theorem dX11_claim_69 : decode cX11_claim 69 = .ok (.ireturn, 1) := by decide +kernel
set_option maxHeartbeats 400000 in
set_option maxRecDepth 100000 in
theorem c_claim (l : Launch) (G : hG) (M : hM) (S : hSy) (h : hHo) (hQv : QV G M S h) (i what : Nat) (hi : i < sM S) (hw : what < 8) : hCT l G yX11_claim cX11_claim 3 (Option.some FieldType.int) (hRm 9 0 0) M [.ref (sA S 0), .int (nI i), .int (nI what)] (fun v M' => v = some (.int (qClaim S i what)) ∧ hSim G hScr M M') := by
  refine hCT.of (own := RX11) (nm := "claim") (by decide) rfl rfl (Nat.le_of_ble_eq_true rfl) ?_
  intro p e s m args below meth c ls X Y hl
  have hx := X.1
  have hb := X.2.1
  have hl : lv_has ls 3 [(0, .ref (sA S 0)), (1, .int (nI i)), (2, .int (nI what))] := hl
  obtain ⟨hS, hG1, hHo, hCe, hTr, hnow, hyn⟩ := id hQv
  obtain ⟨hN8, hM40, hLG, hCY⟩ := id hG1
  obtain ⟨hl13, he14, hl15, he16, hLa, hCl⟩ := id hS
  obtain ⟨mc13, hlo13⟩ := id hl13
  obtain ⟨mc15, hlo15⟩ := id hl15
  obtain ⟨ho0, ho1, ho17, ho18, ft19, hft19, ho19⟩ := id hHo
  have hs0 : hSim G hScr M M := hSim.rf
  refine lv_aload_n hx hb dX11_claim_0 rfl (lv_at hl 0 rfl) ?_
  refine lv_iload_n hx hb dX11_claim_1 rfl (lv_at hl 1 rfl) ?_
  refine h_callVr (rest := []) X Y (c_hasClaim l G M S h hQv i (by omega)) rfl rfl gw_X11_190 dsc_X11_hasClaim ho0 rfl rfl rfl rfl hl.1 (Nat.le_of_ble_eq_true rfl) ⟨Nat.le_of_ble_eq_true rfl, Nat.le_of_ble_eq_true rfl⟩ ⟨Nat.le_of_ble_eq_true rfl, Nat.le_of_ble_eq_true rfl⟩ dX11_claim_2 (fun H locs Y => ?_)
  refine lv_if_eq (tgt := 18) hx hb dX11_claim_5 (by decide) (fun c5 => absurd c5 (by decide)) (fun c5 => ?_)
  refine lv_iload_n hx hb dX11_claim_8 rfl (lv_at hl 2 rfl) ?_
  refine lv_if_lt (tgt := 18) hx hb dX11_claim_9 (by decide) (fun c9 => absurd (show what < 0 from (nI_ltI (a := what) (b := 0) (by omega) (by omega)).mp c9) (by omega)) (fun c9 => ?_)
  have c9 : ¬ what < 0 := fun z9 => c9 ((nI_ltI (a := what) (b := 0) (by omega) (by omega)).mpr z9)
  refine lv_iload_n hx hb dX11_claim_12 rfl (lv_at hl 2 rfl) ?_
  refine lv_bipush (v := 7) hx hb dX11_claim_13 (by decide) ?_
  refine lv_icmp_le (tgt := 28) hx hb dX11_claim_15 (by decide) (fun c15 => ?_) (fun c15 => absurd (show ¬ what ≤ 7 from fun z9 => c15 ((nI_leI (a := what) (b := 7) (by omega) (by omega)).mpr z9)) (by omega))
  have c15 : what ≤ 7 := (nI_leI (a := what) (b := 7) (by omega) (by omega)).mp c15
  rcases (show what = 0 ∨ what = 1 ∨ what = 2 ∨ what = 3 ∨ what = 4 ∨ what = 5 ∨ what = 6 ∨ what = 7 from (by omega)) with rfl | rfl | rfl | rfl | rfl | rfl | rfl | rfl
  · refine lv_iload_n hx hb dX11_claim_28 rfl (lv_at hl 2 rfl) ?_
    refine lv_bipush (v := 6) hx hb dX11_claim_29 (by decide) ?_
    refine lv_icmp_ne (tgt := 47) hx hb dX11_claim_31 (by decide) (fun c31 => ?_) (fun c31 => absurd c31 (by decide))
    refine lv_iload_n hx hb dX11_claim_47 rfl (lv_at hl 2 rfl) ?_
    refine lv_bipush (v := 7) hx hb dX11_claim_48 (by decide) ?_
    refine lv_icmp_ne (tgt := 63) hx hb dX11_claim_50 (by decide) (fun c50 => ?_) (fun c50 => absurd c50 (by decide))
    refine lv_aload_n hx hb dX11_claim_63 rfl (lv_at hl 0 rfl) ?_
    refine lv_iload_n hx hb dX11_claim_64 rfl (lv_at hl 1 rfl) ?_
    refine lv_iload_n hx hb dX11_claim_65 rfl (lv_at hl 2 rfl) ?_
    refine h_callVr (rest := []) X Y (c_claimOf l G M S h hQv i 0 hi (by omega) (fun z9 => absurd z9 (by omega)) (fun z9 => absurd z9 (by omega))) rfl rfl gw_X11_221 dsc_X11_claimOf ho0 rfl rfl rfl rfl hl.1 (Nat.le_of_ble_eq_true rfl) ⟨Nat.le_of_ble_eq_true rfl, Nat.le_of_ble_eq_true rfl⟩ ⟨Nat.le_of_ble_eq_true rfl, Nat.le_of_ble_eq_true rfl⟩ dX11_claim_66 (fun H locs Y => ?_)
    exact h_iret X Y ⟨rfl, hs0⟩ (Nat.le_refl _) (Nat.le_refl _) dX11_claim_69
  · refine lv_iload_n hx hb dX11_claim_28 rfl (lv_at hl 2 rfl) ?_
    refine lv_bipush (v := 6) hx hb dX11_claim_29 (by decide) ?_
    refine lv_icmp_ne (tgt := 47) hx hb dX11_claim_31 (by decide) (fun c31 => ?_) (fun c31 => absurd c31 (by decide))
    refine lv_iload_n hx hb dX11_claim_47 rfl (lv_at hl 2 rfl) ?_
    refine lv_bipush (v := 7) hx hb dX11_claim_48 (by decide) ?_
    refine lv_icmp_ne (tgt := 63) hx hb dX11_claim_50 (by decide) (fun c50 => ?_) (fun c50 => absurd c50 (by decide))
    refine lv_aload_n hx hb dX11_claim_63 rfl (lv_at hl 0 rfl) ?_
    refine lv_iload_n hx hb dX11_claim_64 rfl (lv_at hl 1 rfl) ?_
    refine lv_iload_n hx hb dX11_claim_65 rfl (lv_at hl 2 rfl) ?_
    refine h_callVr (rest := []) X Y (c_claimOf l G M S h hQv i 1 hi (by omega) (fun z9 => absurd z9 (by omega)) (fun z9 => absurd z9 (by omega))) rfl rfl gw_X11_221 dsc_X11_claimOf ho0 rfl rfl rfl rfl hl.1 (Nat.le_of_ble_eq_true rfl) ⟨Nat.le_of_ble_eq_true rfl, Nat.le_of_ble_eq_true rfl⟩ ⟨Nat.le_of_ble_eq_true rfl, Nat.le_of_ble_eq_true rfl⟩ dX11_claim_66 (fun H locs Y => ?_)
    exact h_iret X Y ⟨rfl, hs0⟩ (Nat.le_refl _) (Nat.le_refl _) dX11_claim_69
  · refine lv_iload_n hx hb dX11_claim_28 rfl (lv_at hl 2 rfl) ?_
    refine lv_bipush (v := 6) hx hb dX11_claim_29 (by decide) ?_
    refine lv_icmp_ne (tgt := 47) hx hb dX11_claim_31 (by decide) (fun c31 => ?_) (fun c31 => absurd c31 (by decide))
    refine lv_iload_n hx hb dX11_claim_47 rfl (lv_at hl 2 rfl) ?_
    refine lv_bipush (v := 7) hx hb dX11_claim_48 (by decide) ?_
    refine lv_icmp_ne (tgt := 63) hx hb dX11_claim_50 (by decide) (fun c50 => ?_) (fun c50 => absurd c50 (by decide))
    refine lv_aload_n hx hb dX11_claim_63 rfl (lv_at hl 0 rfl) ?_
    refine lv_iload_n hx hb dX11_claim_64 rfl (lv_at hl 1 rfl) ?_
    refine lv_iload_n hx hb dX11_claim_65 rfl (lv_at hl 2 rfl) ?_
    refine h_callVr (rest := []) X Y (c_claimOf l G M S h hQv i 2 hi (by omega) (fun z9 => absurd z9 (by omega)) (fun z9 => absurd z9 (by omega))) rfl rfl gw_X11_221 dsc_X11_claimOf ho0 rfl rfl rfl rfl hl.1 (Nat.le_of_ble_eq_true rfl) ⟨Nat.le_of_ble_eq_true rfl, Nat.le_of_ble_eq_true rfl⟩ ⟨Nat.le_of_ble_eq_true rfl, Nat.le_of_ble_eq_true rfl⟩ dX11_claim_66 (fun H locs Y => ?_)
    exact h_iret X Y ⟨rfl, hs0⟩ (Nat.le_refl _) (Nat.le_refl _) dX11_claim_69
  · refine lv_iload_n hx hb dX11_claim_28 rfl (lv_at hl 2 rfl) ?_
    refine lv_bipush (v := 6) hx hb dX11_claim_29 (by decide) ?_
    refine lv_icmp_ne (tgt := 47) hx hb dX11_claim_31 (by decide) (fun c31 => ?_) (fun c31 => absurd c31 (by decide))
    refine lv_iload_n hx hb dX11_claim_47 rfl (lv_at hl 2 rfl) ?_
    refine lv_bipush (v := 7) hx hb dX11_claim_48 (by decide) ?_
    refine lv_icmp_ne (tgt := 63) hx hb dX11_claim_50 (by decide) (fun c50 => ?_) (fun c50 => absurd c50 (by decide))
    refine lv_aload_n hx hb dX11_claim_63 rfl (lv_at hl 0 rfl) ?_
    refine lv_iload_n hx hb dX11_claim_64 rfl (lv_at hl 1 rfl) ?_
    refine lv_iload_n hx hb dX11_claim_65 rfl (lv_at hl 2 rfl) ?_
    refine h_callVr (rest := []) X Y (c_claimOf l G M S h hQv i 3 hi (by omega) (fun z9 => absurd z9 (by omega)) (fun z9 => absurd z9 (by omega))) rfl rfl gw_X11_221 dsc_X11_claimOf ho0 rfl rfl rfl rfl hl.1 (Nat.le_of_ble_eq_true rfl) ⟨Nat.le_of_ble_eq_true rfl, Nat.le_of_ble_eq_true rfl⟩ ⟨Nat.le_of_ble_eq_true rfl, Nat.le_of_ble_eq_true rfl⟩ dX11_claim_66 (fun H locs Y => ?_)
    exact h_iret X Y ⟨rfl, hs0⟩ (Nat.le_refl _) (Nat.le_refl _) dX11_claim_69
  · refine lv_iload_n hx hb dX11_claim_28 rfl (lv_at hl 2 rfl) ?_
    refine lv_bipush (v := 6) hx hb dX11_claim_29 (by decide) ?_
    refine lv_icmp_ne (tgt := 47) hx hb dX11_claim_31 (by decide) (fun c31 => ?_) (fun c31 => absurd c31 (by decide))
    refine lv_iload_n hx hb dX11_claim_47 rfl (lv_at hl 2 rfl) ?_
    refine lv_bipush (v := 7) hx hb dX11_claim_48 (by decide) ?_
    refine lv_icmp_ne (tgt := 63) hx hb dX11_claim_50 (by decide) (fun c50 => ?_) (fun c50 => absurd c50 (by decide))
    refine lv_aload_n hx hb dX11_claim_63 rfl (lv_at hl 0 rfl) ?_
    refine lv_iload_n hx hb dX11_claim_64 rfl (lv_at hl 1 rfl) ?_
    refine lv_iload_n hx hb dX11_claim_65 rfl (lv_at hl 2 rfl) ?_
    refine h_callVr (rest := []) X Y (c_claimOf l G M S h hQv i 4 hi (by omega) (fun z9 => absurd z9 (by omega)) (fun z9 => absurd z9 (by omega))) rfl rfl gw_X11_221 dsc_X11_claimOf ho0 rfl rfl rfl rfl hl.1 (Nat.le_of_ble_eq_true rfl) ⟨Nat.le_of_ble_eq_true rfl, Nat.le_of_ble_eq_true rfl⟩ ⟨Nat.le_of_ble_eq_true rfl, Nat.le_of_ble_eq_true rfl⟩ dX11_claim_66 (fun H locs Y => ?_)
    exact h_iret X Y ⟨rfl, hs0⟩ (Nat.le_refl _) (Nat.le_refl _) dX11_claim_69
  · refine lv_iload_n hx hb dX11_claim_28 rfl (lv_at hl 2 rfl) ?_
    refine lv_bipush (v := 6) hx hb dX11_claim_29 (by decide) ?_
    refine lv_icmp_ne (tgt := 47) hx hb dX11_claim_31 (by decide) (fun c31 => ?_) (fun c31 => absurd c31 (by decide))
    refine lv_iload_n hx hb dX11_claim_47 rfl (lv_at hl 2 rfl) ?_
    refine lv_bipush (v := 7) hx hb dX11_claim_48 (by decide) ?_
    refine lv_icmp_ne (tgt := 63) hx hb dX11_claim_50 (by decide) (fun c50 => ?_) (fun c50 => absurd c50 (by decide))
    refine lv_aload_n hx hb dX11_claim_63 rfl (lv_at hl 0 rfl) ?_
    refine lv_iload_n hx hb dX11_claim_64 rfl (lv_at hl 1 rfl) ?_
    refine lv_iload_n hx hb dX11_claim_65 rfl (lv_at hl 2 rfl) ?_
    refine h_callVr (rest := []) X Y (c_claimOf l G M S h hQv i 5 hi (by omega) (fun z9 => absurd z9 (by omega)) (fun z9 => absurd z9 (by omega))) rfl rfl gw_X11_221 dsc_X11_claimOf ho0 rfl rfl rfl rfl hl.1 (Nat.le_of_ble_eq_true rfl) ⟨Nat.le_of_ble_eq_true rfl, Nat.le_of_ble_eq_true rfl⟩ ⟨Nat.le_of_ble_eq_true rfl, Nat.le_of_ble_eq_true rfl⟩ dX11_claim_66 (fun H locs Y => ?_)
    exact h_iret X Y ⟨rfl, hs0⟩ (Nat.le_refl _) (Nat.le_refl _) dX11_claim_69
  · refine lv_iload_n hx hb dX11_claim_28 rfl (lv_at hl 2 rfl) ?_
    refine lv_bipush (v := 6) hx hb dX11_claim_29 (by decide) ?_
    refine lv_icmp_ne (tgt := 47) hx hb dX11_claim_31 (by decide) (fun c31 => absurd (by decide) c31) (fun c31 => ?_)
    refine lv_aload_n hx hb dX11_claim_34 rfl (lv_at hl 0 rfl) ?_
    refine lv_aload_n hx hb dX11_claim_35 rfl (lv_at hl 0 rfl) ?_
    refine h_get X Y (k := 6) (v := .ref (sA S (100 * (0 + 1)))) ho0 rfl hin_X11 (by decide) kfl_X11_54 rfl dX11_claim_36 ?_
    refine lv_iconst (v := 1) hx hb dX11_claim_39 (by decide) ?_
    refine lv_iconst (v := (-1)) hx hb dX11_claim_40 (by decide) ?_
    refine h_callV (rest := []) X Y (c_cedeNow l G M S h hQv 0 (by omega) true (-1)) gw_X11_137 dsc_X11_cedeNow ho0 rfl rfl rfl hl.1 rfl (Nat.le_of_ble_eq_true rfl) ⟨Nat.le_of_ble_eq_true rfl, Nat.le_of_ble_eq_true rfl⟩ ⟨Nat.le_of_ble_eq_true rfl, Nat.le_of_ble_eq_true rfl⟩ dX11_claim_41 ?_
    rintro _ M1 H locs ⟨rfl, hCI0, hq⟩ Y
    try dsimp only [Option.toList, List.nil_append]
    have hs0 := hs0.tr (hq.mono (hS1_scr (by omega)))
    have hQv := hQv.sim (hq.mono (hS1_scr (by omega)))
    obtain ⟨hS, -, hHo, hCe, hTr, -, -⟩ := id hQv
    obtain ⟨hl13, he14, hl15, he16, hLa, hCl⟩ := id hS
    obtain ⟨mc13, hlo13⟩ := id hl13
    obtain ⟨mc15, hlo15⟩ := id hl15
    obtain ⟨ho0, ho1, ho17, ho18, ft19, hft19, ho19⟩ := id hHo
    refine lv_goto (tgt := 63) hx hb dX11_claim_44 (by decide) ?_
    refine lv_aload_n hx hb dX11_claim_63 rfl (lv_at hl 0 rfl) ?_
    refine lv_iload_n hx hb dX11_claim_64 rfl (lv_at hl 1 rfl) ?_
    refine lv_iload_n hx hb dX11_claim_65 rfl (lv_at hl 2 rfl) ?_
    refine h_callVr (rest := []) X Y (c_claimOf l G M1 S h hQv i 6 hi (by omega) (fun _ => hCI0) (fun z9 => absurd z9 (by omega))) rfl rfl gw_X11_221 dsc_X11_claimOf ho0 rfl rfl rfl rfl hl.1 (Nat.le_of_ble_eq_true rfl) ⟨Nat.le_of_ble_eq_true rfl, Nat.le_of_ble_eq_true rfl⟩ ⟨Nat.le_of_ble_eq_true rfl, Nat.le_of_ble_eq_true rfl⟩ dX11_claim_66 (fun H locs Y => ?_)
    exact h_iret X Y ⟨rfl, hs0⟩ (Nat.le_refl _) (Nat.le_refl _) dX11_claim_69
  · refine lv_iload_n hx hb dX11_claim_28 rfl (lv_at hl 2 rfl) ?_
    refine lv_bipush (v := 6) hx hb dX11_claim_29 (by decide) ?_
    refine lv_icmp_ne (tgt := 47) hx hb dX11_claim_31 (by decide) (fun c31 => ?_) (fun c31 => absurd c31 (by decide))
    refine lv_iload_n hx hb dX11_claim_47 rfl (lv_at hl 2 rfl) ?_
    refine lv_bipush (v := 7) hx hb dX11_claim_48 (by decide) ?_
    refine lv_icmp_ne (tgt := 63) hx hb dX11_claim_50 (by decide) (fun c50 => absurd (by decide) c50) (fun c50 => ?_)
    refine lv_aload_n hx hb dX11_claim_53 rfl (lv_at hl 0 rfl) ?_
    refine lv_aload_n hx hb dX11_claim_54 rfl (lv_at hl 0 rfl) ?_
    refine h_get X Y (k := 7) (v := .ref (sA S (100 * (1 + 1)))) ho0 rfl hin_X11 (by decide) kfl_X11_58 rfl dX11_claim_55 ?_
    refine lv_iconst (v := 0) hx hb dX11_claim_58 (by decide) ?_
    refine lv_iconst (v := (-1)) hx hb dX11_claim_59 (by decide) ?_
    refine h_callV (rest := []) X Y (c_cedeNow l G M S h hQv 1 (by omega) false (-1)) gw_X11_137 dsc_X11_cedeNow ho0 rfl rfl rfl hl.1 rfl (Nat.le_of_ble_eq_true rfl) ⟨Nat.le_of_ble_eq_true rfl, Nat.le_of_ble_eq_true rfl⟩ ⟨Nat.le_of_ble_eq_true rfl, Nat.le_of_ble_eq_true rfl⟩ dX11_claim_60 ?_
    rintro _ M2 H locs ⟨rfl, hCI1, hq⟩ Y
    try dsimp only [Option.toList, List.nil_append]
    have hs0 := hs0.tr (hq.mono (hS1_scr (by omega)))
    have hQv := hQv.sim (hq.mono (hS1_scr (by omega)))
    obtain ⟨hS, -, hHo, hCe, hTr, -, -⟩ := id hQv
    obtain ⟨hl13, he14, hl15, he16, hLa, hCl⟩ := id hS
    obtain ⟨mc13, hlo13⟩ := id hl13
    obtain ⟨mc15, hlo15⟩ := id hl15
    obtain ⟨ho0, ho1, ho17, ho18, ft19, hft19, ho19⟩ := id hHo
    refine lv_aload_n hx hb dX11_claim_63 rfl (lv_at hl 0 rfl) ?_
    refine lv_iload_n hx hb dX11_claim_64 rfl (lv_at hl 1 rfl) ?_
    refine lv_iload_n hx hb dX11_claim_65 rfl (lv_at hl 2 rfl) ?_
    refine h_callVr (rest := []) X Y (c_claimOf l G M2 S h hQv i 7 hi (by omega) (fun z9 => absurd z9 (by omega)) (fun _ => hCI1)) rfl rfl gw_X11_221 dsc_X11_claimOf ho0 rfl rfl rfl rfl hl.1 (Nat.le_of_ble_eq_true rfl) ⟨Nat.le_of_ble_eq_true rfl, Nat.le_of_ble_eq_true rfl⟩ ⟨Nat.le_of_ble_eq_true rfl, Nat.le_of_ble_eq_true rfl⟩ dX11_claim_66 (fun H locs Y => ?_)
    exact h_iret X Y ⟨rfl, hs0⟩ (Nat.le_refl _) (Nat.le_refl _) dX11_claim_69
theorem dX11_at_0 : decode cX11_at 0 = .ok (.aload_n 0, 1) := by decide +kernel
theorem dX11_at_1 : decode cX11_at 1 = .ok (.iload_n 1, 1) := by decide +kernel
theorem dX11_at_2 : decode cX11_at 2 = .ok (.invokevirtual 190, 3) := by decide +kernel
theorem dX11_at_5 : decode cX11_at 5 = .ok (.ifCond .eq 30, 3) := by decide +kernel
theorem dX11_at_8 : decode cX11_at 8 = .ok (.iload_n 2, 1) := by decide +kernel
theorem dX11_at_9 : decode cX11_at 9 = .ok (.ifCond .lt 26, 3) := by decide +kernel
theorem dX11_at_12 : decode cX11_at 12 = .ok (.iload_n 2, 1) := by decide +kernel
theorem dX11_at_13 : decode cX11_at 13 = .ok (.aload_n 0, 1) := by decide +kernel
theorem dX11_at_14 : decode cX11_at 14 = .ok (.getfield 78, 3) := by decide +kernel
theorem dX11_at_17 : decode cX11_at 17 = .ok (.aload_n 0, 1) := by decide +kernel
theorem dX11_at_18 : decode cX11_at 18 = .ok (.getfield 46, 3) := by decide +kernel
theorem dX11_at_21 : decode cX11_at 21 = .ok (.iload_n 1, 1) := by decide +kernel
theorem dX11_at_22 : decode cX11_at 22 = .ok (.invokevirtual 150, 3) := by decide +kernel
theorem dX11_at_25 : decode cX11_at 25 = .ok (.checkcast 181, 3) := by decide +kernel
theorem dX11_at_28 : decode cX11_at 28 = .ok (.getfield 224, 3) := by decide +kernel
theorem dX11_at_31 : decode cX11_at 31 = .ok (.isub, 1) := by decide +kernel
theorem dX11_at_32 : decode cX11_at 32 = .ok (.if_icmp .le 13, 3) := by decide +kernel
theorem dX11_at_45 : decode cX11_at 45 = .ok (.aload_n 0, 1) := by decide +kernel
theorem dX11_at_46 : decode cX11_at 46 = .ok (.getfield 46, 3) := by decide +kernel
theorem dX11_at_49 : decode cX11_at 49 = .ok (.iload_n 1, 1) := by decide +kernel
theorem dX11_at_50 : decode cX11_at 50 = .ok (.invokevirtual 150, 3) := by decide +kernel
theorem dX11_at_53 : decode cX11_at 53 = .ok (.checkcast 181, 3) := by decide +kernel
theorem dX11_at_56 : decode cX11_at 56 = .ok (.iload_n 2, 1) := by decide +kernel
theorem dX11_at_57 : decode cX11_at 57 = .ok (.aload_n 0, 1) := by decide +kernel
theorem dX11_at_58 : decode cX11_at 58 = .ok (.getfield 78, 3) := by decide +kernel
theorem dX11_at_61 : decode cX11_at 61 = .ok (.iload_n 3, 1) := by decide +kernel
theorem dX11_at_62 : decode cX11_at 62 = .ok (.invokevirtual 229, 3) := by decide +kernel
theorem dX11_at_65 : decode cX11_at 65 = .ok (.ireturn, 1) := by decide +kernel
set_option maxHeartbeats 400000 in
set_option maxRecDepth 100000 in
theorem c_at (l : Launch) (G : hG) (M : hM) (S : hSy) (h : hHo) (hQv : QV G M S h) (i age : Nat) (pd : Bool) (hi : i < sM S) (ha9 : age ≤ hNow h - clY (sC S i)) : hCT l G yX11_at cX11_at 4 (Option.some FieldType.int) (hRm 5 0 0) M [.ref (sA S 0), .int (nI i), .int (nI age), .int (bI pd)] (hRd M (.int (clKnown (sC S i) age (hNow h) pd))) := by
  refine hCT.of (own := RX11) (nm := "at") (by decide) rfl rfl (Nat.le_of_ble_eq_true rfl) ?_
  intro p e s m args below meth c ls X Y hl
  have hx := X.1
  have hb := X.2.1
  have hl : lv_has ls 4 [(0, .ref (sA S 0)), (1, .int (nI i)), (2, .int (nI age)), (3, .int (bI pd))] := hl
  obtain ⟨hS, hG1, hHo, hCe, hTr, hnow, hyn⟩ := id hQv
  obtain ⟨hN8, hM40, hLG, hCY⟩ := id hG1
  obtain ⟨hl13, he14, hl15, he16, hLa, hCl⟩ := id hS
  obtain ⟨mc13, hlo13⟩ := id hl13
  obtain ⟨mc15, hlo15⟩ := id hl15
  obtain ⟨ho0, ho1, ho17, ho18, ft19, hft19, ho19⟩ := id hHo
  have hy := hyn i hi
  refine lv_aload_n hx hb dX11_at_0 rfl (lv_at hl 0 rfl) ?_
  refine lv_iload_n hx hb dX11_at_1 rfl (lv_at hl 1 rfl) ?_
  refine h_callVr (rest := []) X Y (c_hasClaim l G M S h hQv i (by omega)) rfl rfl gw_X11_190 dsc_X11_hasClaim ho0 rfl rfl rfl rfl hl.1 (Nat.le_of_ble_eq_true rfl) ⟨Nat.le_of_ble_eq_true rfl, Nat.le_of_ble_eq_true rfl⟩ ⟨Nat.le_of_ble_eq_true rfl, Nat.le_of_ble_eq_true rfl⟩ dX11_at_2 (fun H locs Y => ?_)
  refine lv_if_eq (tgt := 35) hx hb dX11_at_5 (by decide) (fun c5 => absurd c5 (by decide)) (fun c5 => ?_)
  refine lv_iload_n hx hb dX11_at_8 rfl (lv_at hl 2 rfl) ?_
  refine lv_if_lt (tgt := 35) hx hb dX11_at_9 (by decide) (fun c9 => absurd (show age < 0 from (nI_ltI (a := age) (b := 0) (by omega) (by omega)).mp c9) (by omega)) (fun c9 => ?_)
  have c9 : ¬ age < 0 := fun z9 => c9 ((nI_ltI (a := age) (b := 0) (by omega) (by omega)).mpr z9)
  refine lv_iload_n hx hb dX11_at_12 rfl (lv_at hl 2 rfl) ?_
  refine lv_aload_n hx hb dX11_at_13 rfl (lv_at hl 0 rfl) ?_
  refine h_get X Y (k := 12) (v := .int (nI (hNow h))) ho0 rfl hin_X11 (by decide) kfl_X11_78 rfl dX11_at_14 ?_
  refine lv_aload_n hx hb dX11_at_17 rfl (lv_at hl 0 rfl) ?_
  refine h_get X Y (k := 5) (v := .ref (sA S 15)) ho0 rfl hin_X11 (by decide) kfl_X11_46 rfl dX11_at_18 ?_
  refine lv_iload_n hx hb dX11_at_21 rfl (lv_at hl 1 rfl) ?_
  refine h_callVr (rest := [.int (nI (hNow h)), .int (nI age)]) X Y (c_get l G M (sA S 15) 15 (sA S 16) 16 (sM S) i (fun i => sA S (1000 + 10 * i)) hl15 (he16 (by omega)) (by omega)) rfl rfl gw_X11_150 dsc_Jx4a65c_get_915e3 hlo15 rfl rfl rfl rfl hl.1 (Nat.le_of_ble_eq_true rfl) ⟨Nat.le_of_ble_eq_true rfl, Nat.le_of_ble_eq_true rfl⟩ ⟨Nat.le_of_ble_eq_true rfl, Nat.le_of_ble_eq_true rfl⟩ dX11_at_22 (fun H locs Y => ?_)
  refine h_cast X Y (hCl i (by omega)).1 rfl rfl kcl_X11_181 dX11_at_25 ?_
  refine h_get X Y (k := 0) (v := .int (nI (clY (sC S i)))) (hCl i (by omega)).1 rfl hin_X3 (by decide) kfl_X11_224 rfl dX11_at_28 ?_
  refine lv_isub hx hb dX11_at_31 ?_
  refine h_ev (y := nI (hNow h - clY (sC S i))) (pk_sub hy) ?_
  refine lv_icmp_le (tgt := 45) hx hb dX11_at_32 (by decide) (fun c32 => ?_) (fun c32 => absurd (show ¬ age ≤ (hNow h - clY (sC S i)) from fun z9 => c32 ((nI_leI (a := age) (b := (hNow h - clY (sC S i))) (by omega) (by omega)).mpr z9)) (by omega))
  have c32 : age ≤ (hNow h - clY (sC S i)) := (nI_leI (a := age) (b := (hNow h - clY (sC S i))) (by omega) (by omega)).mp c32
  refine lv_aload_n hx hb dX11_at_45 rfl (lv_at hl 0 rfl) ?_
  refine h_get X Y (k := 5) (v := .ref (sA S 15)) ho0 rfl hin_X11 (by decide) kfl_X11_46 rfl dX11_at_46 ?_
  refine lv_iload_n hx hb dX11_at_49 rfl (lv_at hl 1 rfl) ?_
  refine h_callVr (rest := []) X Y (c_get l G M (sA S 15) 15 (sA S 16) 16 (sM S) i (fun i => sA S (1000 + 10 * i)) hl15 (he16 (by omega)) (by omega)) rfl rfl gw_X11_150 dsc_Jx4a65c_get_915e3 hlo15 rfl rfl rfl rfl hl.1 (Nat.le_of_ble_eq_true rfl) ⟨Nat.le_of_ble_eq_true rfl, Nat.le_of_ble_eq_true rfl⟩ ⟨Nat.le_of_ble_eq_true rfl, Nat.le_of_ble_eq_true rfl⟩ dX11_at_50 (fun H locs Y => ?_)
  refine h_cast X Y (hCl i (by omega)).1 rfl rfl kcl_X11_181 dX11_at_53 ?_
  refine lv_iload_n hx hb dX11_at_56 rfl (lv_at hl 2 rfl) ?_
  refine lv_aload_n hx hb dX11_at_57 rfl (lv_at hl 0 rfl) ?_
  refine h_get X Y (k := 12) (v := .int (nI (hNow h))) ho0 rfl hin_X11 (by decide) kfl_X11_78 rfl dX11_at_58 ?_
  refine lv_iload_n hx hb dX11_at_61 rfl (lv_at hl 3 rfl) ?_
  refine h_callVr (rest := []) X Y (c_known l G M (sA S (1000 + 10 * i)) (1000 + 10 * i) (sC S i) (hCl i hi) age (hNow h) pd (by omega) hnow hy) rfl rfl gw_X11_229 dsc_X3_known (hCl i (by omega)).1 rfl rfl rfl rfl hl.1 (Nat.le_of_ble_eq_true rfl) ⟨Nat.le_of_ble_eq_true rfl, Nat.le_of_ble_eq_true rfl⟩ ⟨Nat.le_of_ble_eq_true rfl, Nat.le_of_ble_eq_true rfl⟩ dX11_at_62 (fun H locs Y => ?_)
  exact h_iret X Y ⟨rfl, rfl⟩ (Nat.le_refl _) (Nat.le_refl _) dX11_at_65
theorem gw_X11_144 : GoodIn hGW (wsV RX11 144 RX11 yX11_hasLayer (Cond.code yX11_hasLayer cX11_hasLayer 2 (Option.some FieldType.boolean) :: hGW)) := hgi4 kml_X11_144 kin_X11_hasLayer kse_X11_X11_hasLayer_X11_hasLayer kini_X11 kco_X11_hasLayer
theorem dsc_X11_hasLayer : yX11_hasLayer.cls = RX11 ∧ yX11_hasLayer.cls ≠ "java/lang/invoke/MethodHandle" ∧ yX11_hasLayer.cls ≠ "java/lang/invoke/VarHandle" ∧ (parseMethodDescriptor yX11_hasLayer.desc).map (fun d => d.parameters.length) = some 1 := ⟨rfl, by decide +kernel, by decide +kernel, by decide +kernel⟩
theorem gw_X11_159 : GoodIn hGW (wsV RX11 159 RX11 yX11_isYear (Cond.code yX11_isYear cX11_isYear 2 (Option.some FieldType.boolean) :: hGW)) := hgi4 kml_X11_159 kin_X11_isYear kse_X11_X11_isYear_X11_isYear kini_X11 kco_X11_isYear
theorem dsc_X11_isYear : yX11_isYear.cls = RX11 ∧ yX11_isYear.cls ≠ "java/lang/invoke/MethodHandle" ∧ yX11_isYear.cls ≠ "java/lang/invoke/VarHandle" ∧ (parseMethodDescriptor yX11_isYear.desc).map (fun d => d.parameters.length) = some 1 := ⟨rfl, by decide +kernel, by decide +kernel, by decide +kernel⟩
theorem gw_X11_164 : GoodIn hGW (wsV RX11 164 RX5 yX5_tellYear (Cond.code yX5_tellYear cX5_tellYear 3 (Option.some FieldType.int) :: hGW)) := hgi4 kml_X11_164 kin_X5_tellYear kse_X5_X5_tellYear_X5_tellYear kini_X5 kco_X5_tellYear
theorem dsc_X5_tellYear : yX5_tellYear.cls = RX5 ∧ yX5_tellYear.cls ≠ "java/lang/invoke/MethodHandle" ∧ yX5_tellYear.cls ≠ "java/lang/invoke/VarHandle" ∧ (parseMethodDescriptor yX5_tellYear.desc).map (fun d => d.parameters.length) = some 2 := ⟨rfl, by decide +kernel, by decide +kernel, by decide +kernel⟩
theorem dX11_terms_0 : decode cX11_terms 0 = .ok (.aload_n 0, 1) := by decide +kernel
theorem dX11_terms_1 : decode cX11_terms 1 = .ok (.iload_n 1, 1) := by decide +kernel
theorem dX11_terms_2 : decode cX11_terms 2 = .ok (.invokevirtual 144, 3) := by decide +kernel
theorem dX11_terms_5 : decode cX11_terms 5 = .ok (.ifCond .eq 20, 3) := by decide +kernel
theorem dX11_terms_8 : decode cX11_terms 8 = .ok (.aload_n 0, 1) := by decide +kernel
theorem dX11_terms_9 : decode cX11_terms 9 = .ok (.iload_n 2, 1) := by decide +kernel
theorem dX11_terms_10 : decode cX11_terms 10 = .ok (.invokevirtual 159, 3) := by decide +kernel
theorem dX11_terms_13 : decode cX11_terms 13 = .ok (.ifCond .eq 12, 3) := by decide +kernel
theorem dX11_terms_16 : decode cX11_terms 16 = .ok (.iload_n 3, 1) := by decide +kernel
theorem dX11_terms_17 : decode cX11_terms 17 = .ok (.ifCond .lt 8, 3) := by decide +kernel
theorem dX11_terms_20 : decode cX11_terms 20 = .ok (.iload_n 3, 1) := by decide +kernel
theorem dX11_terms_21 : decode cX11_terms 21 = .ok (.iconst 3, 1) := by decide +kernel
theorem dX11_terms_22 : decode cX11_terms 22 = .ok (.if_icmp .le 13, 3) := by decide +kernel
theorem dX11_terms_35 : decode cX11_terms 35 = .ok (.aload_n 0, 1) := by decide +kernel
theorem dX11_terms_36 : decode cX11_terms 36 = .ok (.getfield 42, 3) := by decide +kernel
theorem dX11_terms_39 : decode cX11_terms 39 = .ok (.iload_n 1, 1) := by decide +kernel
theorem dX11_terms_40 : decode cX11_terms 40 = .ok (.invokevirtual 150, 3) := by decide +kernel
theorem dX11_terms_43 : decode cX11_terms 43 = .ok (.checkcast 154, 3) := by decide +kernel
theorem dX11_terms_46 : decode cX11_terms 46 = .ok (.iload_n 2, 1) := by decide +kernel
theorem dX11_terms_47 : decode cX11_terms 47 = .ok (.iload_n 3, 1) := by decide +kernel
theorem dX11_terms_48 : decode cX11_terms 48 = .ok (.invokevirtual 164, 3) := by decide +kernel
theorem dX11_terms_51 : decode cX11_terms 51 = .ok (.ireturn, 1) := by decide +kernel
set_option maxHeartbeats 400000 in
set_option maxRecDepth 100000 in
theorem c_terms (l : Launch) (G : hG) (M : hM) (S : hSy) (h : hHo) (hQv : QV G M S h) (k y what : Nat) (hk : k < sN S) (hy : y < 10) (hw : what < 4) : hCT l G yX11_terms cX11_terms 4 (Option.some FieldType.int) (hRm 4 0 0) M [.ref (sA S 0), .int (nI k), .int (nI y), .int (nI what)] (hRd M (.int (lyYear (sL S k) y what))) := by
  refine hCT.of (own := RX11) (nm := "terms") (by decide) rfl rfl (Nat.le_of_ble_eq_true rfl) ?_
  intro p e s m args below meth c ls X Y hl
  have hx := X.1
  have hb := X.2.1
  have hl : lv_has ls 4 [(0, .ref (sA S 0)), (1, .int (nI k)), (2, .int (nI y)), (3, .int (nI what))] := hl
  obtain ⟨hS, hG1, hHo, hCe, hTr, hnow, hyn⟩ := id hQv
  obtain ⟨hN8, hM40, hLG, hCY⟩ := id hG1
  obtain ⟨hl13, he14, hl15, he16, hLa, hCl⟩ := id hS
  obtain ⟨mc13, hlo13⟩ := id hl13
  obtain ⟨mc15, hlo15⟩ := id hl15
  obtain ⟨ho0, ho1, ho17, ho18, ft19, hft19, ho19⟩ := id hHo
  refine lv_aload_n hx hb dX11_terms_0 rfl (lv_at hl 0 rfl) ?_
  refine lv_iload_n hx hb dX11_terms_1 rfl (lv_at hl 1 rfl) ?_
  refine h_callVr (rest := []) X Y (c_hasLayer l G M S h hQv k (by omega)) rfl rfl gw_X11_144 dsc_X11_hasLayer ho0 rfl rfl rfl rfl hl.1 (Nat.le_of_ble_eq_true rfl) ⟨Nat.le_of_ble_eq_true rfl, Nat.le_of_ble_eq_true rfl⟩ ⟨Nat.le_of_ble_eq_true rfl, Nat.le_of_ble_eq_true rfl⟩ dX11_terms_2 (fun H locs Y => ?_)
  refine lv_if_eq (tgt := 25) hx hb dX11_terms_5 (by decide) (fun c5 => absurd c5 (by decide)) (fun c5 => ?_)
  refine lv_aload_n hx hb dX11_terms_8 rfl (lv_at hl 0 rfl) ?_
  refine lv_iload_n hx hb dX11_terms_9 rfl (lv_at hl 2 rfl) ?_
  refine h_callVr (rest := []) X Y (c_isYear l G M (sA S 0) y (by omega)) rfl rfl gw_X11_159 dsc_X11_isYear ho0 rfl rfl rfl rfl hl.1 (Nat.le_of_ble_eq_true rfl) ⟨Nat.le_of_ble_eq_true rfl, Nat.le_of_ble_eq_true rfl⟩ ⟨Nat.le_of_ble_eq_true rfl, Nat.le_of_ble_eq_true rfl⟩ dX11_terms_10 (fun H locs Y => ?_)
  refine lv_if_eq (tgt := 25) hx hb dX11_terms_13 (by decide) (fun c13 => absurd c13 (by decide)) (fun c13 => ?_)
  refine lv_iload_n hx hb dX11_terms_16 rfl (lv_at hl 3 rfl) ?_
  refine lv_if_lt (tgt := 25) hx hb dX11_terms_17 (by decide) (fun c17 => absurd (show what < 0 from (nI_ltI (a := what) (b := 0) (by omega) (by omega)).mp c17) (by omega)) (fun c17 => ?_)
  have c17 : ¬ what < 0 := fun z9 => c17 ((nI_ltI (a := what) (b := 0) (by omega) (by omega)).mpr z9)
  refine lv_iload_n hx hb dX11_terms_20 rfl (lv_at hl 3 rfl) ?_
  refine lv_iconst (v := 3) hx hb dX11_terms_21 (by decide) ?_
  refine lv_icmp_le (tgt := 35) hx hb dX11_terms_22 (by decide) (fun c22 => ?_) (fun c22 => absurd (show ¬ what ≤ 3 from fun z9 => c22 ((nI_leI (a := what) (b := 3) (by omega) (by omega)).mpr z9)) (by omega))
  have c22 : what ≤ 3 := (nI_leI (a := what) (b := 3) (by omega) (by omega)).mp c22
  refine lv_aload_n hx hb dX11_terms_35 rfl (lv_at hl 0 rfl) ?_
  refine h_get X Y (k := 4) (v := .ref (sA S 13)) ho0 rfl hin_X11 (by decide) kfl_X11_42 rfl dX11_terms_36 ?_
  refine lv_iload_n hx hb dX11_terms_39 rfl (lv_at hl 1 rfl) ?_
  refine h_callVr (rest := []) X Y (c_get l G M (sA S 13) 13 (sA S 14) 14 (sN S) k (fun k => sA S (2000 + 100 * k)) hl13 (he14 (by omega)) (by omega)) rfl rfl gw_X11_150 dsc_Jx4a65c_get_915e3 hlo13 rfl rfl rfl rfl hl.1 (Nat.le_of_ble_eq_true rfl) ⟨Nat.le_of_ble_eq_true rfl, Nat.le_of_ble_eq_true rfl⟩ ⟨Nat.le_of_ble_eq_true rfl, Nat.le_of_ble_eq_true rfl⟩ dX11_terms_40 (fun H locs Y => ?_)
  refine h_cast X Y (hLa k (by omega)).1.1 rfl rfl kcl_X11_154 dX11_terms_43 ?_
  refine lv_iload_n hx hb dX11_terms_46 rfl (lv_at hl 2 rfl) ?_
  refine lv_iload_n hx hb dX11_terms_47 rfl (lv_at hl 3 rfl) ?_
  refine h_callVr (rest := []) X Y (c_tellYear l G M (sA S (2000 + 100 * k)) (2000 + 100 * k) (sL S k) (hLa k hk).1 y what hy hw) rfl rfl gw_X11_164 dsc_X5_tellYear (hLa k (by omega)).1.1 rfl rfl rfl rfl hl.1 (Nat.le_of_ble_eq_true rfl) ⟨Nat.le_of_ble_eq_true rfl, Nat.le_of_ble_eq_true rfl⟩ ⟨Nat.le_of_ble_eq_true rfl, Nat.le_of_ble_eq_true rfl⟩ dX11_terms_48 (fun H locs Y => ?_)
  exact h_iret X Y ⟨rfl, rfl⟩ (Nat.le_refl _) (Nat.le_refl _) dX11_terms_51
theorem gw_X11_372 : GoodIn hGW (wsV RX11 372 RX1 yX1_borneIn (Cond.code yX1_borneIn cX1_borneIn 3 (Option.some FieldType.int) :: hGW)) := hgi4 kml_X11_372 kin_X1_borneIn kse_X1_X1_borneIn_X1_borneIn kini_X1 kco_X1_borneIn
theorem gw_X11_375 : GoodIn hGW (wsV RX11 375 RX5 yX5_roomIn (Cond.code yX5_roomIn cX5_roomIn 5 (Option.some FieldType.int) :: hGW)) := hgi4 kml_X11_375 kin_X5_roomIn kse_X5_X5_roomIn_X5_roomIn kini_X5 kco_X5_roomIn
theorem dsc_X5_roomIn : yX5_roomIn.cls = RX5 ∧ yX5_roomIn.cls ≠ "java/lang/invoke/MethodHandle" ∧ yX5_roomIn.cls ≠ "java/lang/invoke/VarHandle" ∧ (parseMethodDescriptor yX5_roomIn.desc).map (fun d => d.parameters.length) = some 2 := ⟨rfl, by decide +kernel, by decide +kernel, by decide +kernel⟩
theorem gw_X11_378 : GoodIn hGW (wsV RX11 378 RX1 yX1_chargedIn (Cond.code yX1_chargedIn cX1_chargedIn 3 (Option.some FieldType.int) :: hGW)) := hgi4 kml_X11_378 kin_X1_chargedIn kse_X1_X1_chargedIn_X1_chargedIn kini_X1 kco_X1_chargedIn
theorem gw_X11_381 : GoodIn hGW (wsV RX11 381 RX1 yX1_borneClaims (Cond.code yX1_borneClaims cX1_borneClaims 5 (Option.some FieldType.int) :: hGW)) := hgi4 kml_X11_381 kin_X1_borneClaims kse_X1_X1_borneClaims_X1_borneClaims kini_X1 kco_X1_borneClaims
theorem dsc_X1_borneClaims : yX1_borneClaims.cls = RX1 ∧ yX1_borneClaims.cls ≠ "java/lang/invoke/MethodHandle" ∧ yX1_borneClaims.cls ≠ "java/lang/invoke/VarHandle" ∧ (parseMethodDescriptor yX1_borneClaims.desc).map (fun d => d.parameters.length) = some 2 := ⟨rfl, by decide +kernel, by decide +kernel, by decide +kernel⟩
theorem dX11_usedOf_0 : decode cX11_usedOf 0 = .ok (.iload_n 3, 1) := by decide +kernel
theorem dX11_usedOf_1 : decode cX11_usedOf 1 = .ok (.tableswitch 72 0 2 #[27, 37, 62], 27) := by decide +kernel
theorem dX11_usedOf_28 : decode cX11_usedOf 28 = .ok (.aload_n 0, 1) := by decide +kernel
theorem dX11_usedOf_29 : decode cX11_usedOf 29 = .ok (.getfield 58, 3) := by decide +kernel
theorem dX11_usedOf_32 : decode cX11_usedOf 32 = .ok (.iload_n 1, 1) := by decide +kernel
theorem dX11_usedOf_33 : decode cX11_usedOf 33 = .ok (.iload_n 2, 1) := by decide +kernel
theorem dX11_usedOf_34 : decode cX11_usedOf 34 = .ok (.invokevirtual 372, 3) := by decide +kernel
theorem dX11_usedOf_37 : decode cX11_usedOf 37 = .ok (.ireturn, 1) := by decide +kernel
theorem dX11_usedOf_38 : decode cX11_usedOf 38 = .ok (.aload_n 0, 1) := by decide +kernel
theorem dX11_usedOf_39 : decode cX11_usedOf 39 = .ok (.getfield 42, 3) := by decide +kernel
theorem dX11_usedOf_42 : decode cX11_usedOf 42 = .ok (.iload_n 1, 1) := by decide +kernel
theorem dX11_usedOf_43 : decode cX11_usedOf 43 = .ok (.invokevirtual 150, 3) := by decide +kernel
theorem dX11_usedOf_46 : decode cX11_usedOf 46 = .ok (.checkcast 154, 3) := by decide +kernel
theorem dX11_usedOf_49 : decode cX11_usedOf 49 = .ok (.iload_n 2, 1) := by decide +kernel
theorem dX11_usedOf_50 : decode cX11_usedOf 50 = .ok (.aload_n 0, 1) := by decide +kernel
theorem dX11_usedOf_51 : decode cX11_usedOf 51 = .ok (.getfield 58, 3) := by decide +kernel
theorem dX11_usedOf_54 : decode cX11_usedOf 54 = .ok (.iload_n 1, 1) := by decide +kernel
theorem dX11_usedOf_55 : decode cX11_usedOf 55 = .ok (.iload_n 2, 1) := by decide +kernel
theorem dX11_usedOf_56 : decode cX11_usedOf 56 = .ok (.invokevirtual 372, 3) := by decide +kernel
theorem dX11_usedOf_59 : decode cX11_usedOf 59 = .ok (.invokevirtual 375, 3) := by decide +kernel
theorem dX11_usedOf_62 : decode cX11_usedOf 62 = .ok (.ireturn, 1) := by decide +kernel
theorem dX11_usedOf_63 : decode cX11_usedOf 63 = .ok (.aload_n 0, 1) := by decide +kernel
theorem dX11_usedOf_64 : decode cX11_usedOf 64 = .ok (.getfield 58, 3) := by decide +kernel
theorem dX11_usedOf_67 : decode cX11_usedOf 67 = .ok (.iload_n 1, 1) := by decide +kernel
theorem dX11_usedOf_68 : decode cX11_usedOf 68 = .ok (.iload_n 2, 1) := by decide +kernel
theorem dX11_usedOf_69 : decode cX11_usedOf 69 = .ok (.invokevirtual 378, 3) := by decide +kernel
theorem dX11_usedOf_72 : decode cX11_usedOf 72 = .ok (.ireturn, 1) := by decide +kernel
theorem dX11_usedOf_73 : decode cX11_usedOf 73 = .ok (.aload_n 0, 1) := by decide +kernel
theorem dX11_usedOf_74 : decode cX11_usedOf 74 = .ok (.getfield 58, 3) := by decide +kernel
theorem dX11_usedOf_77 : decode cX11_usedOf 77 = .ok (.iload_n 1, 1) := by decide +kernel
theorem dX11_usedOf_78 : decode cX11_usedOf 78 = .ok (.iload_n 2, 1) := by decide +kernel
theorem dX11_usedOf_79 : decode cX11_usedOf 79 = .ok (.invokevirtual 381, 3) := by decide +kernel
theorem dX11_usedOf_82 : decode cX11_usedOf 82 = .ok (.ireturn, 1) := by decide +kernel
set_option maxHeartbeats 400000 in
set_option maxRecDepth 100000 in
theorem c_usedOf (l : Launch) (G : hG) (M : hM) (S : hSy) (h : hHo) (hQv : QV G M S h) (k y what : Nat) (hk : k < sN S) (hy : y < 10) (hw : what < 4) (h7 : CesIs G M S 1 (-1) (qAm S false)) : hCT l G yX11_usedOf cX11_usedOf 4 (Option.some FieldType.int) (hRm 6 0 0) M [.ref (sA S 0), .int (nI k), .int (nI y), .int (nI what)] (hRd M (.int (qUsed S k y what))) := by
  refine hCT.of (own := RX11) (nm := "usedOf") (by decide) rfl rfl (Nat.le_of_ble_eq_true rfl) ?_
  intro p e s m args below meth c ls X Y hl
  have hx := X.1
  have hb := X.2.1
  have hl : lv_has ls 4 [(0, .ref (sA S 0)), (1, .int (nI k)), (2, .int (nI y)), (3, .int (nI what))] := hl
  obtain ⟨hS, hG1, hHo, hCe, hTr, hnow, hyn⟩ := id hQv
  obtain ⟨hN8, hM40, hLG, hCY⟩ := id hG1
  obtain ⟨hl13, he14, hl15, he16, hLa, hCl⟩ := id hS
  obtain ⟨mc13, hlo13⟩ := id hl13
  obtain ⟨mc15, hlo15⟩ := id hl15
  obtain ⟨ho0, ho1, ho17, ho18, ft19, hft19, ho19⟩ := id hHo
  obtain ⟨am, be, yl, lo, hV, ha, hbq, hyq⟩ := id (h7)
  obtain ⟨hoc, -⟩ := id hV
  have e1 : rBorne S yl k y = rBorne S (qYl S false) k y := rBorne_congr S (hyq k hk y hy)
  rcases (show what = 0 ∨ what = 1 ∨ what = 2 ∨ what = 3 from (by omega)) with rfl | rfl | rfl | rfl
  · refine lv_iload_n hx hb dX11_usedOf_0 rfl (lv_at hl 3 rfl) ?_
    refine lv_tableIn (off := 27) (tgt := 28) hx hb dX11_usedOf_1 (by decide) (by decide) (by decide) (by decide) ?_
    refine lv_aload_n hx hb dX11_usedOf_28 rfl (lv_at hl 0 rfl) ?_
    refine h_get X Y (k := 7) (v := .ref (sA S (100 * (1 + 1)))) ho0 rfl hin_X11 (by decide) kfl_X11_58 rfl dX11_usedOf_29 ?_
    refine lv_iload_n hx hb dX11_usedOf_32 rfl (lv_at hl 1 rfl) ?_
    refine lv_iload_n hx hb dX11_usedOf_33 rfl (lv_at hl 2 rfl) ?_
    refine h_callVr (rest := []) X Y (c_borneIn l G M S hS hG1 1 am be yl lo hV k y hk hy) rfl rfl gw_X11_372 dsc_X1_borneIn hoc rfl rfl rfl rfl hl.1 (Nat.le_of_ble_eq_true rfl) ⟨Nat.le_of_ble_eq_true rfl, Nat.le_of_ble_eq_true rfl⟩ ⟨Nat.le_of_ble_eq_true rfl, Nat.le_of_ble_eq_true rfl⟩ dX11_usedOf_34 (fun H locs Y => ?_)
    refine h_ev (y := rBorne S (qYl S false) k y) (e1) ?_
    exact h_iret X Y ⟨rfl, rfl⟩ (Nat.le_refl _) (Nat.le_refl _) dX11_usedOf_37
  · refine lv_iload_n hx hb dX11_usedOf_0 rfl (lv_at hl 3 rfl) ?_
    refine lv_tableIn (off := 37) (tgt := 38) hx hb dX11_usedOf_1 (by decide) (by decide) (by decide) (by decide) ?_
    refine lv_aload_n hx hb dX11_usedOf_38 rfl (lv_at hl 0 rfl) ?_
    refine h_get X Y (k := 4) (v := .ref (sA S 13)) ho0 rfl hin_X11 (by decide) kfl_X11_42 rfl dX11_usedOf_39 ?_
    refine lv_iload_n hx hb dX11_usedOf_42 rfl (lv_at hl 1 rfl) ?_
    refine h_callVr (rest := []) X Y (c_get l G M (sA S 13) 13 (sA S 14) 14 (sN S) k (fun k => sA S (2000 + 100 * k)) hl13 (he14 (by omega)) (by omega)) rfl rfl gw_X11_150 dsc_Jx4a65c_get_915e3 hlo13 rfl rfl rfl rfl hl.1 (Nat.le_of_ble_eq_true rfl) ⟨Nat.le_of_ble_eq_true rfl, Nat.le_of_ble_eq_true rfl⟩ ⟨Nat.le_of_ble_eq_true rfl, Nat.le_of_ble_eq_true rfl⟩ dX11_usedOf_43 (fun H locs Y => ?_)
    refine h_cast X Y (hLa k (by omega)).1.1 rfl rfl kcl_X11_154 dX11_usedOf_46 ?_
    refine lv_iload_n hx hb dX11_usedOf_49 rfl (lv_at hl 2 rfl) ?_
    refine lv_aload_n hx hb dX11_usedOf_50 rfl (lv_at hl 0 rfl) ?_
    refine h_get X Y (k := 7) (v := .ref (sA S (100 * (1 + 1)))) ho0 rfl hin_X11 (by decide) kfl_X11_58 rfl dX11_usedOf_51 ?_
    refine lv_iload_n hx hb dX11_usedOf_54 rfl (lv_at hl 1 rfl) ?_
    refine lv_iload_n hx hb dX11_usedOf_55 rfl (lv_at hl 2 rfl) ?_
    refine h_callVr (rest := [.int (nI y), .ref (sA S (2000 + 100 * k))]) X Y (c_borneIn l G M S hS hG1 1 am be yl lo hV k y hk hy) rfl rfl gw_X11_372 dsc_X1_borneIn hoc rfl rfl rfl rfl hl.1 (Nat.le_of_ble_eq_true rfl) ⟨Nat.le_of_ble_eq_true rfl, Nat.le_of_ble_eq_true rfl⟩ ⟨Nat.le_of_ble_eq_true rfl, Nat.le_of_ble_eq_true rfl⟩ dX11_usedOf_56 (fun H locs Y => ?_)
    refine h_ev (y := rBorne S (qYl S false) k y) (e1) ?_
    refine h_callVr (rest := []) X Y (c_roomIn l G M (sA S (2000 + 100 * k)) (2000 + 100 * k) (sL S k) (hLa k hk).1 y hy (rBorne S (qYl S false) k y)) rfl rfl gw_X11_375 dsc_X5_roomIn (hLa k (by omega)).1.1 rfl rfl rfl rfl hl.1 (Nat.le_of_ble_eq_true rfl) ⟨Nat.le_of_ble_eq_true rfl, Nat.le_of_ble_eq_true rfl⟩ ⟨Nat.le_of_ble_eq_true rfl, Nat.le_of_ble_eq_true rfl⟩ dX11_usedOf_59 (fun H locs Y => ?_)
    exact h_iret X Y ⟨rfl, rfl⟩ (Nat.le_refl _) (Nat.le_refl _) dX11_usedOf_62
  · refine lv_iload_n hx hb dX11_usedOf_0 rfl (lv_at hl 3 rfl) ?_
    refine lv_tableIn (off := 62) (tgt := 63) hx hb dX11_usedOf_1 (by decide) (by decide) (by decide) (by decide) ?_
    refine lv_aload_n hx hb dX11_usedOf_63 rfl (lv_at hl 0 rfl) ?_
    refine h_get X Y (k := 7) (v := .ref (sA S (100 * (1 + 1)))) ho0 rfl hin_X11 (by decide) kfl_X11_58 rfl dX11_usedOf_64 ?_
    refine lv_iload_n hx hb dX11_usedOf_67 rfl (lv_at hl 1 rfl) ?_
    refine lv_iload_n hx hb dX11_usedOf_68 rfl (lv_at hl 2 rfl) ?_
    refine h_callVr (rest := []) X Y (c_chargedIn l G M S hS hG1 1 am be yl lo hV k y hk hy) rfl rfl gw_X11_378 dsc_X1_chargedIn hoc rfl rfl rfl rfl hl.1 (Nat.le_of_ble_eq_true rfl) ⟨Nat.le_of_ble_eq_true rfl, Nat.le_of_ble_eq_true rfl⟩ ⟨Nat.le_of_ble_eq_true rfl, Nat.le_of_ble_eq_true rfl⟩ dX11_usedOf_69 (fun H locs Y => ?_)
    refine h_ev (y := rCharge S (qYl S false) k y) (rCharge_congr S (hyq k hk y hy)) ?_
    exact h_iret X Y ⟨rfl, rfl⟩ (Nat.le_refl _) (Nat.le_refl _) dX11_usedOf_72
  · refine lv_iload_n hx hb dX11_usedOf_0 rfl (lv_at hl 3 rfl) ?_
    refine lv_tableOut (tgt := 73) hx hb dX11_usedOf_1 (by decide) (by decide) ?_
    refine lv_aload_n hx hb dX11_usedOf_73 rfl (lv_at hl 0 rfl) ?_
    refine h_get X Y (k := 7) (v := .ref (sA S (100 * (1 + 1)))) ho0 rfl hin_X11 (by decide) kfl_X11_58 rfl dX11_usedOf_74 ?_
    refine lv_iload_n hx hb dX11_usedOf_77 rfl (lv_at hl 1 rfl) ?_
    refine lv_iload_n hx hb dX11_usedOf_78 rfl (lv_at hl 2 rfl) ?_
    refine h_callVr (rest := []) X Y (c_borneClaims l G M S hS hG1 1 am be yl lo hV k y hk hy) rfl rfl gw_X11_381 dsc_X1_borneClaims hoc rfl rfl rfl rfl hl.1 (Nat.le_of_ble_eq_true rfl) ⟨Nat.le_of_ble_eq_true rfl, Nat.le_of_ble_eq_true rfl⟩ ⟨Nat.le_of_ble_eq_true rfl, Nat.le_of_ble_eq_true rfl⟩ dX11_usedOf_79 (fun H locs Y => ?_)
    refine h_ev (y := nI (rCount S (pBe S (-1) (qAm S false)) k y (sM S))) (congrArg nI (rCount_congr S (sM S) (fun i hi => hbq i hi k hk))) ?_
    exact h_iret X Y ⟨rfl, rfl⟩ (Nat.le_refl _) (Nat.le_refl _) dX11_usedOf_82
theorem gw_X11_238 : GoodIn hGW (wsV RX11 238 RX11 yX11_usedOf (Cond.code yX11_usedOf cX11_usedOf 4 (Option.some FieldType.int) :: hGW)) := hgi4 kml_X11_238 kin_X11_usedOf kse_X11_X11_usedOf_X11_usedOf kini_X11 kco_X11_usedOf
theorem dsc_X11_usedOf : yX11_usedOf.cls = RX11 ∧ yX11_usedOf.cls ≠ "java/lang/invoke/MethodHandle" ∧ yX11_usedOf.cls ≠ "java/lang/invoke/VarHandle" ∧ (parseMethodDescriptor yX11_usedOf.desc).map (fun d => d.parameters.length) = some 3 := ⟨rfl, by decide +kernel, by decide +kernel, by decide +kernel⟩
theorem dX11_used_0 : decode cX11_used 0 = .ok (.aload_n 0, 1) := by decide +kernel
theorem dX11_used_1 : decode cX11_used 1 = .ok (.iload_n 1, 1) := by decide +kernel
theorem dX11_used_2 : decode cX11_used 2 = .ok (.invokevirtual 144, 3) := by decide +kernel
theorem dX11_used_5 : decode cX11_used 5 = .ok (.ifCond .eq 20, 3) := by decide +kernel
theorem dX11_used_8 : decode cX11_used 8 = .ok (.aload_n 0, 1) := by decide +kernel
theorem dX11_used_9 : decode cX11_used 9 = .ok (.iload_n 2, 1) := by decide +kernel
theorem dX11_used_10 : decode cX11_used 10 = .ok (.invokevirtual 159, 3) := by decide +kernel
theorem dX11_used_13 : decode cX11_used 13 = .ok (.ifCond .eq 12, 3) := by decide +kernel
theorem dX11_used_16 : decode cX11_used 16 = .ok (.iload_n 3, 1) := by decide +kernel
theorem dX11_used_17 : decode cX11_used 17 = .ok (.ifCond .lt 8, 3) := by decide +kernel
theorem dX11_used_20 : decode cX11_used 20 = .ok (.iload_n 3, 1) := by decide +kernel
theorem dX11_used_21 : decode cX11_used 21 = .ok (.iconst 3, 1) := by decide +kernel
theorem dX11_used_22 : decode cX11_used 22 = .ok (.if_icmp .le 13, 3) := by decide +kernel
theorem dX11_used_35 : decode cX11_used 35 = .ok (.aload_n 0, 1) := by decide +kernel
theorem dX11_used_36 : decode cX11_used 36 = .ok (.aload_n 0, 1) := by decide +kernel
theorem dX11_used_37 : decode cX11_used 37 = .ok (.getfield 58, 3) := by decide +kernel
theorem dX11_used_40 : decode cX11_used 40 = .ok (.iconst 0, 1) := by decide +kernel
theorem dX11_used_41 : decode cX11_used 41 = .ok (.iconst (-1), 1) := by decide +kernel
theorem dX11_used_42 : decode cX11_used 42 = .ok (.invokevirtual 137, 3) := by decide +kernel
theorem dX11_used_45 : decode cX11_used 45 = .ok (.aload_n 0, 1) := by decide +kernel
theorem dX11_used_46 : decode cX11_used 46 = .ok (.iload_n 1, 1) := by decide +kernel
theorem dX11_used_47 : decode cX11_used 47 = .ok (.iload_n 2, 1) := by decide +kernel
theorem dX11_used_48 : decode cX11_used 48 = .ok (.iload_n 3, 1) := by decide +kernel
theorem dX11_used_49 : decode cX11_used 49 = .ok (.invokevirtual 238, 3) := by decide +kernel
theorem dX11_used_52 : decode cX11_used 52 = .ok (.ireturn, 1) := by decide +kernel
set_option maxHeartbeats 400000 in
set_option maxRecDepth 100000 in
theorem c_used (l : Launch) (G : hG) (M : hM) (S : hSy) (h : hHo) (hQv : QV G M S h) (k y what : Nat) (hk : k < sN S) (hy : y < 10) (hw : what < 4) : hCT l G yX11_used cX11_used 4 (Option.some FieldType.int) (hRm 9 0 0) M [.ref (sA S 0), .int (nI k), .int (nI y), .int (nI what)] (fun v M' => v = some (.int (qUsed S k y what)) ∧ hSim G hScr M M') := by
  refine hCT.of (own := RX11) (nm := "used") (by decide) rfl rfl (Nat.le_of_ble_eq_true rfl) ?_
  intro p e s m args below meth c ls X Y hl
  have hx := X.1
  have hb := X.2.1
  have hl : lv_has ls 4 [(0, .ref (sA S 0)), (1, .int (nI k)), (2, .int (nI y)), (3, .int (nI what))] := hl
  obtain ⟨hS, hG1, hHo, hCe, hTr, hnow, hyn⟩ := id hQv
  obtain ⟨hN8, hM40, hLG, hCY⟩ := id hG1
  obtain ⟨hl13, he14, hl15, he16, hLa, hCl⟩ := id hS
  obtain ⟨mc13, hlo13⟩ := id hl13
  obtain ⟨mc15, hlo15⟩ := id hl15
  obtain ⟨ho0, ho1, ho17, ho18, ft19, hft19, ho19⟩ := id hHo
  have hs0 : hSim G hScr M M := hSim.rf
  refine lv_aload_n hx hb dX11_used_0 rfl (lv_at hl 0 rfl) ?_
  refine lv_iload_n hx hb dX11_used_1 rfl (lv_at hl 1 rfl) ?_
  refine h_callVr (rest := []) X Y (c_hasLayer l G M S h hQv k (by omega)) rfl rfl gw_X11_144 dsc_X11_hasLayer ho0 rfl rfl rfl rfl hl.1 (Nat.le_of_ble_eq_true rfl) ⟨Nat.le_of_ble_eq_true rfl, Nat.le_of_ble_eq_true rfl⟩ ⟨Nat.le_of_ble_eq_true rfl, Nat.le_of_ble_eq_true rfl⟩ dX11_used_2 (fun H locs Y => ?_)
  refine lv_if_eq (tgt := 25) hx hb dX11_used_5 (by decide) (fun c5 => absurd c5 (by decide)) (fun c5 => ?_)
  refine lv_aload_n hx hb dX11_used_8 rfl (lv_at hl 0 rfl) ?_
  refine lv_iload_n hx hb dX11_used_9 rfl (lv_at hl 2 rfl) ?_
  refine h_callVr (rest := []) X Y (c_isYear l G M (sA S 0) y (by omega)) rfl rfl gw_X11_159 dsc_X11_isYear ho0 rfl rfl rfl rfl hl.1 (Nat.le_of_ble_eq_true rfl) ⟨Nat.le_of_ble_eq_true rfl, Nat.le_of_ble_eq_true rfl⟩ ⟨Nat.le_of_ble_eq_true rfl, Nat.le_of_ble_eq_true rfl⟩ dX11_used_10 (fun H locs Y => ?_)
  refine lv_if_eq (tgt := 25) hx hb dX11_used_13 (by decide) (fun c13 => absurd c13 (by decide)) (fun c13 => ?_)
  refine lv_iload_n hx hb dX11_used_16 rfl (lv_at hl 3 rfl) ?_
  refine lv_if_lt (tgt := 25) hx hb dX11_used_17 (by decide) (fun c17 => absurd (show what < 0 from (nI_ltI (a := what) (b := 0) (by omega) (by omega)).mp c17) (by omega)) (fun c17 => ?_)
  have c17 : ¬ what < 0 := fun z9 => c17 ((nI_ltI (a := what) (b := 0) (by omega) (by omega)).mpr z9)
  refine lv_iload_n hx hb dX11_used_20 rfl (lv_at hl 3 rfl) ?_
  refine lv_iconst (v := 3) hx hb dX11_used_21 (by decide) ?_
  refine lv_icmp_le (tgt := 35) hx hb dX11_used_22 (by decide) (fun c22 => ?_) (fun c22 => absurd (show ¬ what ≤ 3 from fun z9 => c22 ((nI_leI (a := what) (b := 3) (by omega) (by omega)).mpr z9)) (by omega))
  have c22 : what ≤ 3 := (nI_leI (a := what) (b := 3) (by omega) (by omega)).mp c22
  refine lv_aload_n hx hb dX11_used_35 rfl (lv_at hl 0 rfl) ?_
  refine lv_aload_n hx hb dX11_used_36 rfl (lv_at hl 0 rfl) ?_
  refine h_get X Y (k := 7) (v := .ref (sA S (100 * (1 + 1)))) ho0 rfl hin_X11 (by decide) kfl_X11_58 rfl dX11_used_37 ?_
  refine lv_iconst (v := 0) hx hb dX11_used_40 (by decide) ?_
  refine lv_iconst (v := (-1)) hx hb dX11_used_41 (by decide) ?_
  refine h_callV (rest := []) X Y (c_cedeNow l G M S h hQv 1 (by omega) false (-1)) gw_X11_137 dsc_X11_cedeNow ho0 rfl rfl rfl hl.1 rfl (Nat.le_of_ble_eq_true rfl) ⟨Nat.le_of_ble_eq_true rfl, Nat.le_of_ble_eq_true rfl⟩ ⟨Nat.le_of_ble_eq_true rfl, Nat.le_of_ble_eq_true rfl⟩ dX11_used_42 ?_
  rintro _ M1 H locs ⟨rfl, hCI1, hq⟩ Y
  try dsimp only [Option.toList, List.nil_append]
  have hs0 := hs0.tr (hq.mono (hS1_scr (by omega)))
  have hQv := hQv.sim (hq.mono (hS1_scr (by omega)))
  obtain ⟨hS, -, hHo, hCe, hTr, -, -⟩ := id hQv
  obtain ⟨hl13, he14, hl15, he16, hLa, hCl⟩ := id hS
  obtain ⟨mc13, hlo13⟩ := id hl13
  obtain ⟨mc15, hlo15⟩ := id hl15
  obtain ⟨ho0, ho1, ho17, ho18, ft19, hft19, ho19⟩ := id hHo
  refine lv_aload_n hx hb dX11_used_45 rfl (lv_at hl 0 rfl) ?_
  refine lv_iload_n hx hb dX11_used_46 rfl (lv_at hl 1 rfl) ?_
  refine lv_iload_n hx hb dX11_used_47 rfl (lv_at hl 2 rfl) ?_
  refine lv_iload_n hx hb dX11_used_48 rfl (lv_at hl 3 rfl) ?_
  refine h_callVr (rest := []) X Y (c_usedOf l G M1 S h hQv k y what hk hy hw hCI1) rfl rfl gw_X11_238 dsc_X11_usedOf ho0 rfl rfl rfl rfl hl.1 (Nat.le_of_ble_eq_true rfl) ⟨Nat.le_of_ble_eq_true rfl, Nat.le_of_ble_eq_true rfl⟩ ⟨Nat.le_of_ble_eq_true rfl, Nat.le_of_ble_eq_true rfl⟩ dX11_used_49 (fun H locs Y => ?_)
  exact h_iret X Y ⟨rfl, hs0⟩ (Nat.le_refl _) (Nat.le_refl _) dX11_used_52
theorem gw_X11_235 : GoodIn hGW (wsV RX11 235 RX1 yX1_given (Cond.code yX1_given cX1_given 3 (Option.some FieldType.int) :: hGW)) := hgi4 kml_X11_235 kin_X1_given kse_X1_X1_given_X1_given kini_X1 kco_X1_given
theorem dX11_gets_0 : decode cX11_gets 0 = .ok (.aload_n 0, 1) := by decide +kernel
theorem dX11_gets_1 : decode cX11_gets 1 = .ok (.iload_n 1, 1) := by decide +kernel
theorem dX11_gets_2 : decode cX11_gets 2 = .ok (.invokevirtual 144, 3) := by decide +kernel
theorem dX11_gets_5 : decode cX11_gets 5 = .ok (.ifCond .eq 11, 3) := by decide +kernel
theorem dX11_gets_8 : decode cX11_gets 8 = .ok (.aload_n 0, 1) := by decide +kernel
theorem dX11_gets_9 : decode cX11_gets 9 = .ok (.iload_n 2, 1) := by decide +kernel
theorem dX11_gets_10 : decode cX11_gets 10 = .ok (.invokevirtual 190, 3) := by decide +kernel
theorem dX11_gets_13 : decode cX11_gets 13 = .ok (.ifCond .ne 13, 3) := by decide +kernel
theorem dX11_gets_26 : decode cX11_gets 26 = .ok (.iload_n 3, 1) := by decide +kernel
theorem dX11_gets_27 : decode cX11_gets 27 = .ok (.ifCond .eq 10, 3) := by decide +kernel
theorem dX11_gets_30 : decode cX11_gets 30 = .ok (.aload_n 0, 1) := by decide +kernel
theorem dX11_gets_31 : decode cX11_gets 31 = .ok (.getfield 54, 3) := by decide +kernel
theorem dX11_gets_34 : decode cX11_gets 34 = .ok (.goto 7, 3) := by decide +kernel
theorem dX11_gets_37 : decode cX11_gets 37 = .ok (.aload_n 0, 1) := by decide +kernel
theorem dX11_gets_38 : decode cX11_gets 38 = .ok (.getfield 58, 3) := by decide +kernel
theorem dX11_gets_41 : decode cX11_gets 41 = .ok (.astore 4, 2) := by decide +kernel
theorem dX11_gets_43 : decode cX11_gets 43 = .ok (.aload_n 0, 1) := by decide +kernel
theorem dX11_gets_44 : decode cX11_gets 44 = .ok (.aload 4, 2) := by decide +kernel
theorem dX11_gets_46 : decode cX11_gets 46 = .ok (.iload_n 3, 1) := by decide +kernel
theorem dX11_gets_47 : decode cX11_gets 47 = .ok (.iconst (-1), 1) := by decide +kernel
theorem dX11_gets_48 : decode cX11_gets 48 = .ok (.invokevirtual 137, 3) := by decide +kernel
theorem dX11_gets_51 : decode cX11_gets 51 = .ok (.aload 4, 2) := by decide +kernel
theorem dX11_gets_53 : decode cX11_gets 53 = .ok (.iload_n 1, 1) := by decide +kernel
theorem dX11_gets_54 : decode cX11_gets 54 = .ok (.iload_n 2, 1) := by decide +kernel
theorem dX11_gets_55 : decode cX11_gets 55 = .ok (.invokevirtual 235, 3) := by decide +kernel
theorem dX11_gets_58 : decode cX11_gets 58 = .ok (.ireturn, 1) := by decide +kernel
set_option maxHeartbeats 400000 in
set_option maxRecDepth 100000 in
theorem c_gets (l : Launch) (G : hG) (M : hM) (S : hSy) (h : hHo) (hQv : QV G M S h) (k i : Nat) (pd : Bool) (hk : k < sN S) (hi : i < sM S) : hCT l G yX11_gets cX11_gets 5 (Option.some FieldType.int) (hRm 9 0 0) M [.ref (sA S 0), .int (nI k), .int (nI i), .int (bI pd)] (fun v M' => v = some (.int (rGiven S (pBe S (-1) (qAm S pd)) i k)) ∧ hSim G hScr M M') := by
  refine hCT.of (own := RX11) (nm := "gets") (by decide) rfl rfl (Nat.le_of_ble_eq_true rfl) ?_
  intro p e s m args below meth c ls X Y hl
  have hx := X.1
  have hb := X.2.1
  have hl : lv_has ls 5 [(0, .ref (sA S 0)), (1, .int (nI k)), (2, .int (nI i)), (3, .int (bI pd))] := hl
  obtain ⟨hS, hG1, hHo, hCe, hTr, hnow, hyn⟩ := id hQv
  obtain ⟨hN8, hM40, hLG, hCY⟩ := id hG1
  obtain ⟨hl13, he14, hl15, he16, hLa, hCl⟩ := id hS
  obtain ⟨mc13, hlo13⟩ := id hl13
  obtain ⟨mc15, hlo15⟩ := id hl15
  obtain ⟨ho0, ho1, ho17, ho18, ft19, hft19, ho19⟩ := id hHo
  have hs0 : hSim G hScr M M := hSim.rf
  refine lv_aload_n hx hb dX11_gets_0 rfl (lv_at hl 0 rfl) ?_
  refine lv_iload_n hx hb dX11_gets_1 rfl (lv_at hl 1 rfl) ?_
  refine h_callVr (rest := []) X Y (c_hasLayer l G M S h hQv k (by omega)) rfl rfl gw_X11_144 dsc_X11_hasLayer ho0 rfl rfl rfl rfl hl.1 (Nat.le_of_ble_eq_true rfl) ⟨Nat.le_of_ble_eq_true rfl, Nat.le_of_ble_eq_true rfl⟩ ⟨Nat.le_of_ble_eq_true rfl, Nat.le_of_ble_eq_true rfl⟩ dX11_gets_2 (fun H locs Y => ?_)
  refine lv_if_eq (tgt := 16) hx hb dX11_gets_5 (by decide) (fun c5 => absurd c5 (by decide)) (fun c5 => ?_)
  refine lv_aload_n hx hb dX11_gets_8 rfl (lv_at hl 0 rfl) ?_
  refine lv_iload_n hx hb dX11_gets_9 rfl (lv_at hl 2 rfl) ?_
  refine h_callVr (rest := []) X Y (c_hasClaim l G M S h hQv i (by omega)) rfl rfl gw_X11_190 dsc_X11_hasClaim ho0 rfl rfl rfl rfl hl.1 (Nat.le_of_ble_eq_true rfl) ⟨Nat.le_of_ble_eq_true rfl, Nat.le_of_ble_eq_true rfl⟩ ⟨Nat.le_of_ble_eq_true rfl, Nat.le_of_ble_eq_true rfl⟩ dX11_gets_10 (fun H locs Y => ?_)
  refine lv_if_ne (tgt := 26) hx hb dX11_gets_13 (by decide) (fun c13 => ?_) (fun c13 => absurd c13 (by decide))
  refine lv_iload_n hx hb dX11_gets_26 rfl (lv_at hl 3 rfl) ?_
  cases pd with
  | false =>
    refine lv_if_eq (tgt := 37) hx hb dX11_gets_27 (by decide) (fun _ => ?_) (fun z9 => absurd rfl z9)
    refine lv_aload_n hx hb dX11_gets_37 rfl (lv_at hl 0 rfl) ?_
    refine h_get X Y (k := 7) (v := .ref (sA S (100 * (1 + 1)))) ho0 rfl hin_X11 (by decide) kfl_X11_58 rfl dX11_gets_38 ?_
    refine lv_astore (lv' := [(4, .ref (sA S (100 * (1 + 1)))), (0, .ref (sA S 0)), (1, .int (nI k)), (2, .int (nI i)), (3, .int (bI false))]) hx hb dX11_gets_41 hl (by decide) rfl (fun ls hl => ?_)
    refine lv_aload_n hx hb dX11_gets_43 rfl (lv_at hl 1 rfl) ?_
    refine lv_aload hx hb dX11_gets_44 (lv_at hl 0 rfl) ?_
    refine lv_iload_n hx hb dX11_gets_46 rfl (lv_at hl 4 rfl) ?_
    refine lv_iconst (v := (-1)) hx hb dX11_gets_47 (by decide) ?_
    refine h_callV (rest := []) X Y (c_cedeNow l G M S h hQv 1 (by omega) false (-1)) gw_X11_137 dsc_X11_cedeNow ho0 rfl rfl rfl hl.1 rfl (Nat.le_of_ble_eq_true rfl) ⟨Nat.le_of_ble_eq_true rfl, Nat.le_of_ble_eq_true rfl⟩ ⟨Nat.le_of_ble_eq_true rfl, Nat.le_of_ble_eq_true rfl⟩ dX11_gets_48 ?_
    rintro _ M1 H locs ⟨rfl, hCI1, hq⟩ Y
    try dsimp only [Option.toList, List.nil_append]
    have hs0 := hs0.tr (hq.mono (hS1_scr (by omega)))
    have hQv := hQv.sim (hq.mono (hS1_scr (by omega)))
    obtain ⟨hS, -, hHo, hCe, hTr, -, -⟩ := id hQv
    obtain ⟨hl13, he14, hl15, he16, hLa, hCl⟩ := id hS
    obtain ⟨mc13, hlo13⟩ := id hl13
    obtain ⟨mc15, hlo15⟩ := id hl15
    obtain ⟨ho0, ho1, ho17, ho18, ft19, hft19, ho19⟩ := id hHo
    obtain ⟨am, be, yl, lo, hV, ha, hbq, hyq⟩ := id (hCI1)
    obtain ⟨hoc, -⟩ := id hV
    refine lv_aload hx hb dX11_gets_51 (lv_at hl 0 rfl) ?_
    refine lv_iload_n hx hb dX11_gets_53 rfl (lv_at hl 2 rfl) ?_
    refine lv_iload_n hx hb dX11_gets_54 rfl (lv_at hl 3 rfl) ?_
    refine h_callVr (rest := []) X Y (c_given l G M1 S hS hG1 1 am be yl lo hV k i hk (by omega)) rfl rfl gw_X11_235 dsc_X1_given hoc rfl rfl rfl rfl hl.1 (Nat.le_of_ble_eq_true rfl) ⟨Nat.le_of_ble_eq_true rfl, Nat.le_of_ble_eq_true rfl⟩ ⟨Nat.le_of_ble_eq_true rfl, Nat.le_of_ble_eq_true rfl⟩ dX11_gets_55 (fun H locs Y => ?_)
    refine h_ev (y := rGiven S (pBe S (-1) (qAm S false)) i k) (rGiven_congr S (hbq i hi k hk)) ?_
    exact h_iret X Y ⟨rfl, hs0⟩ (Nat.le_refl _) (Nat.le_refl _) dX11_gets_58
  | true =>
    refine lv_if_eq (tgt := 37) hx hb dX11_gets_27 (by decide) (fun z9 => absurd z9 (by decide)) (fun _ => ?_)
    refine lv_aload_n hx hb dX11_gets_30 rfl (lv_at hl 0 rfl) ?_
    refine h_get X Y (k := 6) (v := .ref (sA S (100 * (0 + 1)))) ho0 rfl hin_X11 (by decide) kfl_X11_54 rfl dX11_gets_31 ?_
    refine lv_goto (tgt := 41) hx hb dX11_gets_34 (by decide) ?_
    refine lv_astore (lv' := [(4, .ref (sA S (100 * (0 + 1)))), (0, .ref (sA S 0)), (1, .int (nI k)), (2, .int (nI i)), (3, .int (bI true))]) hx hb dX11_gets_41 hl (by decide) rfl (fun ls hl => ?_)
    refine lv_aload_n hx hb dX11_gets_43 rfl (lv_at hl 1 rfl) ?_
    refine lv_aload hx hb dX11_gets_44 (lv_at hl 0 rfl) ?_
    refine lv_iload_n hx hb dX11_gets_46 rfl (lv_at hl 4 rfl) ?_
    refine lv_iconst (v := (-1)) hx hb dX11_gets_47 (by decide) ?_
    refine h_callV (rest := []) X Y (c_cedeNow l G M S h hQv 0 (by omega) true (-1)) gw_X11_137 dsc_X11_cedeNow ho0 rfl rfl rfl hl.1 rfl (Nat.le_of_ble_eq_true rfl) ⟨Nat.le_of_ble_eq_true rfl, Nat.le_of_ble_eq_true rfl⟩ ⟨Nat.le_of_ble_eq_true rfl, Nat.le_of_ble_eq_true rfl⟩ dX11_gets_48 ?_
    rintro _ M2 H locs ⟨rfl, hCI0, hq⟩ Y
    try dsimp only [Option.toList, List.nil_append]
    have hs0 := hs0.tr (hq.mono (hS1_scr (by omega)))
    have hQv := hQv.sim (hq.mono (hS1_scr (by omega)))
    obtain ⟨hS, -, hHo, hCe, hTr, -, -⟩ := id hQv
    obtain ⟨hl13, he14, hl15, he16, hLa, hCl⟩ := id hS
    obtain ⟨mc13, hlo13⟩ := id hl13
    obtain ⟨mc15, hlo15⟩ := id hl15
    obtain ⟨ho0, ho1, ho17, ho18, ft19, hft19, ho19⟩ := id hHo
    obtain ⟨am, be, yl, lo, hV, ha, hbq, hyq⟩ := id (hCI0)
    obtain ⟨hoc, -⟩ := id hV
    refine lv_aload hx hb dX11_gets_51 (lv_at hl 0 rfl) ?_
    refine lv_iload_n hx hb dX11_gets_53 rfl (lv_at hl 2 rfl) ?_
    refine lv_iload_n hx hb dX11_gets_54 rfl (lv_at hl 3 rfl) ?_
    refine h_callVr (rest := []) X Y (c_given l G M2 S hS hG1 0 am be yl lo hV k i hk (by omega)) rfl rfl gw_X11_235 dsc_X1_given hoc rfl rfl rfl rfl hl.1 (Nat.le_of_ble_eq_true rfl) ⟨Nat.le_of_ble_eq_true rfl, Nat.le_of_ble_eq_true rfl⟩ ⟨Nat.le_of_ble_eq_true rfl, Nat.le_of_ble_eq_true rfl⟩ dX11_gets_55 (fun H locs Y => ?_)
    refine h_ev (y := rGiven S (pBe S (-1) (qAm S true)) i k) (rGiven_congr S (hbq i hi k hk)) ?_
    exact h_iret X Y ⟨rfl, hs0⟩ (Nat.le_refl _) (Nat.le_refl _) dX11_gets_58
theorem gw_X11_302 : GoodIn hGW (wsV RX11 302 RX1 yX1_allLeft (Cond.code yX1_allLeft cX1_allLeft 3 (Option.some FieldType.int) :: hGW)) := hgi4 kml_X11_302 kin_X1_allLeft kse_X1_X1_allLeft_X1_allLeft kini_X1 kco_X1_allLeft
theorem dsc_X1_allLeft : yX1_allLeft.cls = RX1 ∧ yX1_allLeft.cls ≠ "java/lang/invoke/MethodHandle" ∧ yX1_allLeft.cls ≠ "java/lang/invoke/VarHandle" ∧ (parseMethodDescriptor yX1_allLeft.desc).map (fun d => d.parameters.length) = some 0 := ⟨rfl, by decide +kernel, by decide +kernel, by decide +kernel⟩
theorem dX11_without_0 : decode cX11_without 0 = .ok (.aload_n 0, 1) := by decide +kernel
theorem dX11_without_1 : decode cX11_without 1 = .ok (.iload_n 1, 1) := by decide +kernel
theorem dX11_without_2 : decode cX11_without 2 = .ok (.invokevirtual 144, 3) := by decide +kernel
theorem dX11_without_5 : decode cX11_without 5 = .ok (.ifCond .ne 14, 3) := by decide +kernel
theorem dX11_without_19 : decode cX11_without 19 = .ok (.aload_n 0, 1) := by decide +kernel
theorem dX11_without_20 : decode cX11_without 20 = .ok (.aload_n 0, 1) := by decide +kernel
theorem dX11_without_21 : decode cX11_without 21 = .ok (.getfield 61, 3) := by decide +kernel
theorem dX11_without_24 : decode cX11_without 24 = .ok (.iconst 0, 1) := by decide +kernel
theorem dX11_without_25 : decode cX11_without 25 = .ok (.iload_n 1, 1) := by decide +kernel
theorem dX11_without_26 : decode cX11_without 26 = .ok (.invokevirtual 137, 3) := by decide +kernel
theorem dX11_without_29 : decode cX11_without 29 = .ok (.aload_n 0, 1) := by decide +kernel
theorem dX11_without_30 : decode cX11_without 30 = .ok (.getfield 61, 3) := by decide +kernel
theorem dX11_without_33 : decode cX11_without 33 = .ok (.invokevirtual 302, 3) := by decide +kernel
theorem dX11_without_36 : decode cX11_without 36 = .ok (.ireturn, 1) := by decide +kernel
set_option maxHeartbeats 400000 in
set_option maxRecDepth 100000 in
theorem c_without (l : Launch) (G : hG) (M : hM) (S : hSy) (h : hHo) (hQv : QV G M S h) (k : Nat) (hk : k < sN S) : hCT l G yX11_without cX11_without 2 (Option.some FieldType.int) (hRm 9 0 0) M [.ref (sA S 0), .int (nI k)] (fun v M' => v = some (.int (qLefts S false (nI k))) ∧ hSim G hScr M M') := by
  refine hCT.of (own := RX11) (nm := "without") (by decide) rfl rfl (Nat.le_of_ble_eq_true rfl) ?_
  intro p e s m args below meth c ls X Y hl
  have hx := X.1
  have hb := X.2.1
  have hl : lv_has ls 2 [(0, .ref (sA S 0)), (1, .int (nI k))] := hl
  obtain ⟨hS, hG1, hHo, hCe, hTr, hnow, hyn⟩ := id hQv
  obtain ⟨hN8, hM40, hLG, hCY⟩ := id hG1
  obtain ⟨hl13, he14, hl15, he16, hLa, hCl⟩ := id hS
  obtain ⟨mc13, hlo13⟩ := id hl13
  obtain ⟨mc15, hlo15⟩ := id hl15
  obtain ⟨ho0, ho1, ho17, ho18, ft19, hft19, ho19⟩ := id hHo
  have hs0 : hSim G hScr M M := hSim.rf
  refine lv_aload_n hx hb dX11_without_0 rfl (lv_at hl 0 rfl) ?_
  refine lv_iload_n hx hb dX11_without_1 rfl (lv_at hl 1 rfl) ?_
  refine h_callVr (rest := []) X Y (c_hasLayer l G M S h hQv k (by omega)) rfl rfl gw_X11_144 dsc_X11_hasLayer ho0 rfl rfl rfl rfl hl.1 (Nat.le_of_ble_eq_true rfl) ⟨Nat.le_of_ble_eq_true rfl, Nat.le_of_ble_eq_true rfl⟩ ⟨Nat.le_of_ble_eq_true rfl, Nat.le_of_ble_eq_true rfl⟩ dX11_without_2 (fun H locs Y => ?_)
  refine lv_if_ne (tgt := 19) hx hb dX11_without_5 (by decide) (fun c5 => ?_) (fun c5 => absurd c5 (by decide))
  refine lv_aload_n hx hb dX11_without_19 rfl (lv_at hl 0 rfl) ?_
  refine lv_aload_n hx hb dX11_without_20 rfl (lv_at hl 0 rfl) ?_
  refine h_get X Y (k := 8) (v := .ref (sA S (100 * (2 + 1)))) ho0 rfl hin_X11 (by decide) kfl_X11_61 rfl dX11_without_21 ?_
  refine lv_iconst (v := 0) hx hb dX11_without_24 (by decide) ?_
  refine lv_iload_n hx hb dX11_without_25 rfl (lv_at hl 1 rfl) ?_
  refine h_callV (rest := []) X Y (c_cedeNow l G M S h hQv 2 (by omega) false (nI k)) gw_X11_137 dsc_X11_cedeNow ho0 rfl rfl rfl hl.1 rfl (Nat.le_of_ble_eq_true rfl) ⟨Nat.le_of_ble_eq_true rfl, Nat.le_of_ble_eq_true rfl⟩ ⟨Nat.le_of_ble_eq_true rfl, Nat.le_of_ble_eq_true rfl⟩ dX11_without_26 ?_
  rintro _ M1 H locs ⟨rfl, hCI2, hq⟩ Y
  try dsimp only [Option.toList, List.nil_append]
  have hs0 := hs0.tr (hq.mono (hS1_scr (by omega)))
  have hQv := hQv.sim (hq.mono (hS1_scr (by omega)))
  obtain ⟨hS, -, hHo, hCe, hTr, -, -⟩ := id hQv
  obtain ⟨hl13, he14, hl15, he16, hLa, hCl⟩ := id hS
  obtain ⟨mc13, hlo13⟩ := id hl13
  obtain ⟨mc15, hlo15⟩ := id hl15
  obtain ⟨ho0, ho1, ho17, ho18, ft19, hft19, ho19⟩ := id hHo
  obtain ⟨am, be, yl, lo, hV, ha, hbq, hyq⟩ := id (hCI2)
  obtain ⟨hoc, -⟩ := id hV
  refine lv_aload_n hx hb dX11_without_29 rfl (lv_at hl 0 rfl) ?_
  refine h_get X Y (k := 8) (v := .ref (sA S (100 * (2 + 1)))) ho0 rfl hin_X11 (by decide) kfl_X11_61 rfl dX11_without_30 ?_
  refine h_callVr (rest := []) X Y (c_allLeft l G M1 S hS hG1 2 am be yl lo hV) rfl rfl gw_X11_302 dsc_X1_allLeft hoc rfl rfl rfl rfl hl.1 (Nat.le_of_ble_eq_true rfl) ⟨Nat.le_of_ble_eq_true rfl, Nat.le_of_ble_eq_true rfl⟩ ⟨Nat.le_of_ble_eq_true rfl, Nat.le_of_ble_eq_true rfl⟩ dX11_without_33 (fun H locs Y => ?_)
  refine h_ev (y := qLefts S false (nI k)) (rLefts_congr S ha hbq) ?_
  exact h_iret X Y ⟨rfl, hs0⟩ (Nat.le_refl _) (Nat.le_refl _) dX11_without_36
theorem gw_X11_360 : GoodIn hGW (wsV RX11 360 RX11 yX11_openClaims (Cond.code yX11_openClaims cX11_openClaims 3 (Option.some FieldType.int) :: hGW)) := hgi4 kml_X11_360 kin_X11_openClaims kse_X11_X11_openClaims_X11_openClaims kini_X11 kco_X11_openClaims
theorem dsc_X11_openClaims : yX11_openClaims.cls = RX11 ∧ yX11_openClaims.cls ≠ "java/lang/invoke/MethodHandle" ∧ yX11_openClaims.cls ≠ "java/lang/invoke/VarHandle" ∧ (parseMethodDescriptor yX11_openClaims.desc).map (fun d => d.parameters.length) = some 0 := ⟨rfl, by decide +kernel, by decide +kernel, by decide +kernel⟩
theorem gw_X11_363 : GoodIn hGW (wsV RX11 363 RX11 yX11_allPaid (Cond.code yX11_allPaid cX11_allPaid 3 (Option.some FieldType.int) :: hGW)) := hgi4 kml_X11_363 kin_X11_allPaid kse_X11_X11_allPaid_X11_allPaid kini_X11 kco_X11_allPaid
theorem dsc_X11_allPaid : yX11_allPaid.cls = RX11 ∧ yX11_allPaid.cls ≠ "java/lang/invoke/MethodHandle" ∧ yX11_allPaid.cls ≠ "java/lang/invoke/VarHandle" ∧ (parseMethodDescriptor yX11_allPaid.desc).map (fun d => d.parameters.length) = some 0 := ⟨rfl, by decide +kernel, by decide +kernel, by decide +kernel⟩
theorem gw_X11_366 : GoodIn hGW (wsV RX11 366 RX11 yX11_allReserves (Cond.code yX11_allReserves cX11_allReserves 3 (Option.some FieldType.int) :: hGW)) := hgi4 kml_X11_366 kin_X11_allReserves kse_X11_X11_allReserves_X11_allReserves kini_X11 kco_X11_allReserves
theorem dsc_X11_allReserves : yX11_allReserves.cls = RX11 ∧ yX11_allReserves.cls ≠ "java/lang/invoke/MethodHandle" ∧ yX11_allReserves.cls ≠ "java/lang/invoke/VarHandle" ∧ (parseMethodDescriptor yX11_allReserves.desc).map (fun d => d.parameters.length) = some 0 := ⟨rfl, by decide +kernel, by decide +kernel, by decide +kernel⟩
theorem gw_X11_308 : GoodIn hGW (wsV RX11 308 RX1 yX1_allCharged (Cond.code yX1_allCharged cX1_allCharged 4 (Option.some FieldType.int) :: hGW)) := hgi4 kml_X11_308 kin_X1_allCharged kse_X1_X1_allCharged_X1_allCharged kini_X1 kco_X1_allCharged
theorem dsc_X1_allCharged : yX1_allCharged.cls = RX1 ∧ yX1_allCharged.cls ≠ "java/lang/invoke/MethodHandle" ∧ yX1_allCharged.cls ≠ "java/lang/invoke/VarHandle" ∧ (parseMethodDescriptor yX1_allCharged.desc).map (fun d => d.parameters.length) = some 0 := ⟨rfl, by decide +kernel, by decide +kernel, by decide +kernel⟩
theorem dX11_countOf_0 : decode cX11_countOf 0 = .ok (.iload_n 1, 1) := by decide +kernel
theorem dX11_countOf_1 : decode cX11_countOf 1 = .ok (.tableswitch 99 0 7 #[47, 55, 63, 68, 73, 81, 86, 91], 47) := by decide +kernel
theorem dX11_countOf_48 : decode cX11_countOf 48 = .ok (.aload_n 0, 1) := by decide +kernel
theorem dX11_countOf_49 : decode cX11_countOf 49 = .ok (.getfield 42, 3) := by decide +kernel
theorem dX11_countOf_52 : decode cX11_countOf 52 = .ok (.invokevirtual 176, 3) := by decide +kernel
theorem dX11_countOf_55 : decode cX11_countOf 55 = .ok (.ireturn, 1) := by decide +kernel
theorem dX11_countOf_56 : decode cX11_countOf 56 = .ok (.aload_n 0, 1) := by decide +kernel
theorem dX11_countOf_57 : decode cX11_countOf 57 = .ok (.getfield 46, 3) := by decide +kernel
theorem dX11_countOf_60 : decode cX11_countOf 60 = .ok (.invokevirtual 176, 3) := by decide +kernel
theorem dX11_countOf_63 : decode cX11_countOf 63 = .ok (.ireturn, 1) := by decide +kernel
theorem dX11_countOf_64 : decode cX11_countOf 64 = .ok (.aload_n 0, 1) := by decide +kernel
theorem dX11_countOf_65 : decode cX11_countOf 65 = .ok (.invokevirtual 360, 3) := by decide +kernel
theorem dX11_countOf_68 : decode cX11_countOf 68 = .ok (.ireturn, 1) := by decide +kernel
theorem dX11_countOf_69 : decode cX11_countOf 69 = .ok (.aload_n 0, 1) := by decide +kernel
theorem dX11_countOf_70 : decode cX11_countOf 70 = .ok (.getfield 78, 3) := by decide +kernel
theorem dX11_countOf_73 : decode cX11_countOf 73 = .ok (.ireturn, 1) := by decide +kernel
theorem dX11_countOf_74 : decode cX11_countOf 74 = .ok (.aload_n 0, 1) := by decide +kernel
theorem dX11_countOf_75 : decode cX11_countOf 75 = .ok (.getfield 10, 3) := by decide +kernel
theorem dX11_countOf_78 : decode cX11_countOf 78 = .ok (.getfield 88, 3) := by decide +kernel
theorem dX11_countOf_81 : decode cX11_countOf 81 = .ok (.ireturn, 1) := by decide +kernel
theorem dX11_countOf_82 : decode cX11_countOf 82 = .ok (.aload_n 0, 1) := by decide +kernel
theorem dX11_countOf_83 : decode cX11_countOf 83 = .ok (.invokevirtual 363, 3) := by decide +kernel
theorem dX11_countOf_86 : decode cX11_countOf 86 = .ok (.ireturn, 1) := by decide +kernel
theorem dX11_countOf_87 : decode cX11_countOf 87 = .ok (.aload_n 0, 1) := by decide +kernel
theorem dX11_countOf_88 : decode cX11_countOf 88 = .ok (.invokevirtual 366, 3) := by decide +kernel
theorem dX11_countOf_91 : decode cX11_countOf 91 = .ok (.ireturn, 1) := by decide +kernel
theorem dX11_countOf_92 : decode cX11_countOf 92 = .ok (.aload_n 0, 1) := by decide +kernel
theorem dX11_countOf_93 : decode cX11_countOf 93 = .ok (.getfield 58, 3) := by decide +kernel
theorem dX11_countOf_96 : decode cX11_countOf 96 = .ok (.invokevirtual 302, 3) := by decide +kernel
theorem dX11_countOf_99 : decode cX11_countOf 99 = .ok (.ireturn, 1) := by decide +kernel
theorem dX11_countOf_100 : decode cX11_countOf 100 = .ok (.aload_n 0, 1) := by decide +kernel
theorem dX11_countOf_101 : decode cX11_countOf 101 = .ok (.getfield 58, 3) := by decide +kernel
theorem dX11_countOf_104 : decode cX11_countOf 104 = .ok (.invokevirtual 308, 3) := by decide +kernel
theorem dX11_countOf_107 : decode cX11_countOf 107 = .ok (.ireturn, 1) := by decide +kernel
set_option maxHeartbeats 400000 in
set_option maxRecDepth 100000 in
theorem c_countOf (l : Launch) (G : hG) (M : hM) (S : hSy) (h : hHo) (hQv : QV G M S h) (what : Nat) (hw : what < 9) (h7 : 7 ≤ what → CesIs G M S 1 (-1) (qAm S false)) : hCT l G yX11_countOf cX11_countOf 2 (Option.some FieldType.int) (hRm 8 0 0) M [.ref (sA S 0), .int (nI what)] (hRd M (.int (qCount S h what))) := by
  refine hCT.of (own := RX11) (nm := "countOf") (by decide) rfl rfl (Nat.le_of_ble_eq_true rfl) ?_
  intro p e s m args below meth c ls X Y hl
  have hx := X.1
  have hb := X.2.1
  have hl : lv_has ls 2 [(0, .ref (sA S 0)), (1, .int (nI what))] := hl
  obtain ⟨hS, hG1, hHo, hCe, hTr, hnow, hyn⟩ := id hQv
  obtain ⟨hN8, hM40, hLG, hCY⟩ := id hG1
  obtain ⟨hl13, he14, hl15, he16, hLa, hCl⟩ := id hS
  obtain ⟨mc13, hlo13⟩ := id hl13
  obtain ⟨mc15, hlo15⟩ := id hl15
  obtain ⟨ho0, ho1, ho17, ho18, ft19, hft19, ho19⟩ := id hHo
  rcases (show what = 0 ∨ what = 1 ∨ what = 2 ∨ what = 3 ∨ what = 4 ∨ what = 5 ∨ what = 6 ∨ what = 7 ∨ what = 8 from (by omega)) with rfl | rfl | rfl | rfl | rfl | rfl | rfl | rfl | rfl
  · refine lv_iload_n hx hb dX11_countOf_0 rfl (lv_at hl 1 rfl) ?_
    refine lv_tableIn (off := 47) (tgt := 48) hx hb dX11_countOf_1 (by decide) (by decide) (by decide) (by decide) ?_
    refine lv_aload_n hx hb dX11_countOf_48 rfl (lv_at hl 0 rfl) ?_
    refine h_get X Y (k := 4) (v := .ref (sA S 13)) ho0 rfl hin_X11 (by decide) kfl_X11_42 rfl dX11_countOf_49 ?_
    refine h_callVr (rest := []) X Y (c_size l G M (sA S 13) 13 (sA S 14) (sN S) hl13) rfl rfl gw_X11_176 dsc_Jx4a65c_size_8abf5 hlo13 rfl rfl rfl rfl hl.1 (Nat.le_of_ble_eq_true rfl) ⟨Nat.le_of_ble_eq_true rfl, Nat.le_of_ble_eq_true rfl⟩ ⟨Nat.le_of_ble_eq_true rfl, Nat.le_of_ble_eq_true rfl⟩ dX11_countOf_52 (fun H locs Y => ?_)
    exact h_iret X Y ⟨rfl, rfl⟩ (Nat.le_refl _) (Nat.le_refl _) dX11_countOf_55
  · refine lv_iload_n hx hb dX11_countOf_0 rfl (lv_at hl 1 rfl) ?_
    refine lv_tableIn (off := 55) (tgt := 56) hx hb dX11_countOf_1 (by decide) (by decide) (by decide) (by decide) ?_
    refine lv_aload_n hx hb dX11_countOf_56 rfl (lv_at hl 0 rfl) ?_
    refine h_get X Y (k := 5) (v := .ref (sA S 15)) ho0 rfl hin_X11 (by decide) kfl_X11_46 rfl dX11_countOf_57 ?_
    refine h_callVr (rest := []) X Y (c_size l G M (sA S 15) 15 (sA S 16) (sM S) hl15) rfl rfl gw_X11_176 dsc_Jx4a65c_size_8abf5 hlo15 rfl rfl rfl rfl hl.1 (Nat.le_of_ble_eq_true rfl) ⟨Nat.le_of_ble_eq_true rfl, Nat.le_of_ble_eq_true rfl⟩ ⟨Nat.le_of_ble_eq_true rfl, Nat.le_of_ble_eq_true rfl⟩ dX11_countOf_60 (fun H locs Y => ?_)
    exact h_iret X Y ⟨rfl, rfl⟩ (Nat.le_refl _) (Nat.le_refl _) dX11_countOf_63
  · refine lv_iload_n hx hb dX11_countOf_0 rfl (lv_at hl 1 rfl) ?_
    refine lv_tableIn (off := 63) (tgt := 64) hx hb dX11_countOf_1 (by decide) (by decide) (by decide) (by decide) ?_
    refine lv_aload_n hx hb dX11_countOf_64 rfl (lv_at hl 0 rfl) ?_
    refine h_callVr (rest := []) X Y (c_openClaims l G M S h hQv) rfl rfl gw_X11_360 dsc_X11_openClaims ho0 rfl rfl rfl rfl hl.1 (Nat.le_of_ble_eq_true rfl) ⟨Nat.le_of_ble_eq_true rfl, Nat.le_of_ble_eq_true rfl⟩ ⟨Nat.le_of_ble_eq_true rfl, Nat.le_of_ble_eq_true rfl⟩ dX11_countOf_65 (fun H locs Y => ?_)
    exact h_iret X Y ⟨rfl, rfl⟩ (Nat.le_refl _) (Nat.le_refl _) dX11_countOf_68
  · refine lv_iload_n hx hb dX11_countOf_0 rfl (lv_at hl 1 rfl) ?_
    refine lv_tableIn (off := 68) (tgt := 69) hx hb dX11_countOf_1 (by decide) (by decide) (by decide) (by decide) ?_
    refine lv_aload_n hx hb dX11_countOf_69 rfl (lv_at hl 0 rfl) ?_
    refine h_get X Y (k := 12) (v := .int (nI (hNow h))) ho0 rfl hin_X11 (by decide) kfl_X11_78 rfl dX11_countOf_70 ?_
    exact h_iret X Y ⟨rfl, rfl⟩ (Nat.le_refl _) (Nat.le_refl _) dX11_countOf_73
  · refine lv_iload_n hx hb dX11_countOf_0 rfl (lv_at hl 1 rfl) ?_
    refine lv_tableIn (off := 73) (tgt := 74) hx hb dX11_countOf_1 (by decide) (by decide) (by decide) (by decide) ?_
    refine lv_aload_n hx hb dX11_countOf_74 rfl (lv_at hl 0 rfl) ?_
    refine h_get X Y (k := 0) (v := .ref (sA S 1)) ho0 rfl hin_X11 (by decide) kfl_X11_10 rfl dX11_countOf_75 ?_
    refine h_get X Y (k := 1) (v := .int (hTl h)) ho1 rfl hin_X8 (by decide) kfl_X11_88 rfl dX11_countOf_78 ?_
    exact h_iret X Y ⟨rfl, rfl⟩ (Nat.le_refl _) (Nat.le_refl _) dX11_countOf_81
  · refine lv_iload_n hx hb dX11_countOf_0 rfl (lv_at hl 1 rfl) ?_
    refine lv_tableIn (off := 81) (tgt := 82) hx hb dX11_countOf_1 (by decide) (by decide) (by decide) (by decide) ?_
    refine lv_aload_n hx hb dX11_countOf_82 rfl (lv_at hl 0 rfl) ?_
    refine h_callVr (rest := []) X Y (c_allPaid l G M S h hQv) rfl rfl gw_X11_363 dsc_X11_allPaid ho0 rfl rfl rfl rfl hl.1 (Nat.le_of_ble_eq_true rfl) ⟨Nat.le_of_ble_eq_true rfl, Nat.le_of_ble_eq_true rfl⟩ ⟨Nat.le_of_ble_eq_true rfl, Nat.le_of_ble_eq_true rfl⟩ dX11_countOf_83 (fun H locs Y => ?_)
    exact h_iret X Y ⟨rfl, rfl⟩ (Nat.le_refl _) (Nat.le_refl _) dX11_countOf_86
  · refine lv_iload_n hx hb dX11_countOf_0 rfl (lv_at hl 1 rfl) ?_
    refine lv_tableIn (off := 86) (tgt := 87) hx hb dX11_countOf_1 (by decide) (by decide) (by decide) (by decide) ?_
    refine lv_aload_n hx hb dX11_countOf_87 rfl (lv_at hl 0 rfl) ?_
    refine h_callVr (rest := []) X Y (c_allReserves l G M S h hQv) rfl rfl gw_X11_366 dsc_X11_allReserves ho0 rfl rfl rfl rfl hl.1 (Nat.le_of_ble_eq_true rfl) ⟨Nat.le_of_ble_eq_true rfl, Nat.le_of_ble_eq_true rfl⟩ ⟨Nat.le_of_ble_eq_true rfl, Nat.le_of_ble_eq_true rfl⟩ dX11_countOf_88 (fun H locs Y => ?_)
    exact h_iret X Y ⟨rfl, rfl⟩ (Nat.le_refl _) (Nat.le_refl _) dX11_countOf_91
  · refine lv_iload_n hx hb dX11_countOf_0 rfl (lv_at hl 1 rfl) ?_
    refine lv_tableIn (off := 91) (tgt := 92) hx hb dX11_countOf_1 (by decide) (by decide) (by decide) (by decide) ?_
    obtain ⟨am, be, yl, lo, hV, ha, hbq, hyq⟩ := id (h7 (by decide))
    obtain ⟨hoc, -⟩ := id hV
    refine lv_aload_n hx hb dX11_countOf_92 rfl (lv_at hl 0 rfl) ?_
    refine h_get X Y (k := 7) (v := .ref (sA S (100 * (1 + 1)))) ho0 rfl hin_X11 (by decide) kfl_X11_58 rfl dX11_countOf_93 ?_
    refine h_callVr (rest := []) X Y (c_allLeft l G M S hS hG1 1 am be yl lo hV) rfl rfl gw_X11_302 dsc_X1_allLeft hoc rfl rfl rfl rfl hl.1 (Nat.le_of_ble_eq_true rfl) ⟨Nat.le_of_ble_eq_true rfl, Nat.le_of_ble_eq_true rfl⟩ ⟨Nat.le_of_ble_eq_true rfl, Nat.le_of_ble_eq_true rfl⟩ dX11_countOf_96 (fun H locs Y => ?_)
    refine h_ev (y := qLefts S false (-1)) (rLefts_congr S ha hbq) ?_
    exact h_iret X Y ⟨rfl, rfl⟩ (Nat.le_refl _) (Nat.le_refl _) dX11_countOf_99
  · refine lv_iload_n hx hb dX11_countOf_0 rfl (lv_at hl 1 rfl) ?_
    refine lv_tableOut (tgt := 100) hx hb dX11_countOf_1 (by decide) (by decide) ?_
    obtain ⟨am, be, yl, lo, hV, ha, hbq, hyq⟩ := id (h7 (by decide))
    obtain ⟨hoc, -⟩ := id hV
    refine lv_aload_n hx hb dX11_countOf_100 rfl (lv_at hl 0 rfl) ?_
    refine h_get X Y (k := 7) (v := .ref (sA S (100 * (1 + 1)))) ho0 rfl hin_X11 (by decide) kfl_X11_58 rfl dX11_countOf_101 ?_
    refine h_callVr (rest := []) X Y (c_allCharged l G M S hS hG1 1 am be yl lo hV) rfl rfl gw_X11_308 dsc_X1_allCharged hoc rfl rfl rfl rfl hl.1 (Nat.le_of_ble_eq_true rfl) ⟨Nat.le_of_ble_eq_true rfl, Nat.le_of_ble_eq_true rfl⟩ ⟨Nat.le_of_ble_eq_true rfl, Nat.le_of_ble_eq_true rfl⟩ dX11_countOf_104 (fun H locs Y => ?_)
    refine h_ev (y := rCharges S (qYl S false)) (rCharges_congr S hyq) ?_
    exact h_iret X Y ⟨rfl, rfl⟩ (Nat.le_refl _) (Nat.le_refl _) dX11_countOf_107
theorem gw_X11_141 : GoodIn hGW (wsV RX11 141 RX11 yX11_countOf (Cond.code yX11_countOf cX11_countOf 2 (Option.some FieldType.int) :: hGW)) := hgi4 kml_X11_141 kin_X11_countOf kse_X11_X11_countOf_X11_countOf kini_X11 kco_X11_countOf
theorem dsc_X11_countOf : yX11_countOf.cls = RX11 ∧ yX11_countOf.cls ≠ "java/lang/invoke/MethodHandle" ∧ yX11_countOf.cls ≠ "java/lang/invoke/VarHandle" ∧ (parseMethodDescriptor yX11_countOf.desc).map (fun d => d.parameters.length) = some 1 := ⟨rfl, by decide +kernel, by decide +kernel, by decide +kernel⟩
theorem dX11_count_0 : decode cX11_count 0 = .ok (.iload_n 1, 1) := by decide +kernel
theorem dX11_count_1 : decode cX11_count 1 = .ok (.ifCond .lt 9, 3) := by decide +kernel
theorem dX11_count_4 : decode cX11_count 4 = .ok (.iload_n 1, 1) := by decide +kernel
theorem dX11_count_5 : decode cX11_count 5 = .ok (.bipush 8, 2) := by decide +kernel
theorem dX11_count_7 : decode cX11_count 7 = .ok (.if_icmp .le 13, 3) := by decide +kernel
theorem dX11_count_20 : decode cX11_count 20 = .ok (.iload_n 1, 1) := by decide +kernel
theorem dX11_count_21 : decode cX11_count 21 = .ok (.bipush 7, 2) := by decide +kernel
theorem dX11_count_23 : decode cX11_count 23 = .ok (.if_icmp .lt 13, 3) := by decide +kernel
theorem dX11_count_26 : decode cX11_count 26 = .ok (.aload_n 0, 1) := by decide +kernel
theorem dX11_count_27 : decode cX11_count 27 = .ok (.aload_n 0, 1) := by decide +kernel
theorem dX11_count_28 : decode cX11_count 28 = .ok (.getfield 58, 3) := by decide +kernel
theorem dX11_count_31 : decode cX11_count 31 = .ok (.iconst 0, 1) := by decide +kernel
theorem dX11_count_32 : decode cX11_count 32 = .ok (.iconst (-1), 1) := by decide +kernel
theorem dX11_count_33 : decode cX11_count 33 = .ok (.invokevirtual 137, 3) := by decide +kernel
theorem dX11_count_36 : decode cX11_count 36 = .ok (.aload_n 0, 1) := by decide +kernel
theorem dX11_count_37 : decode cX11_count 37 = .ok (.iload_n 1, 1) := by decide +kernel
theorem dX11_count_38 : decode cX11_count 38 = .ok (.invokevirtual 141, 3) := by decide +kernel
theorem dX11_count_41 : decode cX11_count 41 = .ok (.ireturn, 1) := by decide +kernel
set_option maxHeartbeats 400000 in
set_option maxRecDepth 100000 in
theorem c_count (l : Launch) (G : hG) (M : hM) (S : hSy) (h : hHo) (hQv : QV G M S h) (what : Nat) (hw : what < 9) (hw7 : 7 ≤ what) : hCT l G yX11_count cX11_count 2 (Option.some FieldType.int) (hRm 9 0 0) M [.ref (sA S 0), .int (nI what)] (fun v M' => v = some (.int (qCount S h what)) ∧ hSim G hScr M M') := by
  refine hCT.of (own := RX11) (nm := "count") (by decide) rfl rfl (Nat.le_of_ble_eq_true rfl) ?_
  intro p e s m args below meth c ls X Y hl
  have hx := X.1
  have hb := X.2.1
  have hl : lv_has ls 2 [(0, .ref (sA S 0)), (1, .int (nI what))] := hl
  obtain ⟨hS, hG1, hHo, hCe, hTr, hnow, hyn⟩ := id hQv
  obtain ⟨hN8, hM40, hLG, hCY⟩ := id hG1
  obtain ⟨hl13, he14, hl15, he16, hLa, hCl⟩ := id hS
  obtain ⟨mc13, hlo13⟩ := id hl13
  obtain ⟨mc15, hlo15⟩ := id hl15
  obtain ⟨ho0, ho1, ho17, ho18, ft19, hft19, ho19⟩ := id hHo
  have hs0 : hSim G hScr M M := hSim.rf
  refine lv_iload_n hx hb dX11_count_0 rfl (lv_at hl 1 rfl) ?_
  refine lv_if_lt (tgt := 10) hx hb dX11_count_1 (by decide) (fun c1 => absurd (show what < 0 from (nI_ltI (a := what) (b := 0) (by omega) (by omega)).mp c1) (by omega)) (fun c1 => ?_)
  have c1 : ¬ what < 0 := fun z9 => c1 ((nI_ltI (a := what) (b := 0) (by omega) (by omega)).mpr z9)
  refine lv_iload_n hx hb dX11_count_4 rfl (lv_at hl 1 rfl) ?_
  refine lv_bipush (v := 8) hx hb dX11_count_5 (by decide) ?_
  refine lv_icmp_le (tgt := 20) hx hb dX11_count_7 (by decide) (fun c7 => ?_) (fun c7 => absurd (show ¬ what ≤ 8 from fun z9 => c7 ((nI_leI (a := what) (b := 8) (by omega) (by omega)).mpr z9)) (by omega))
  have c7 : what ≤ 8 := (nI_leI (a := what) (b := 8) (by omega) (by omega)).mp c7
  refine lv_iload_n hx hb dX11_count_20 rfl (lv_at hl 1 rfl) ?_
  refine lv_bipush (v := 7) hx hb dX11_count_21 (by decide) ?_
  refine lv_icmp_lt (tgt := 36) hx hb dX11_count_23 (by decide) (fun c23 => absurd (show what < 7 from (nI_ltI (a := what) (b := 7) (by omega) (by omega)).mp c23) (by omega)) (fun c23 => ?_)
  have c23 : ¬ what < 7 := fun z9 => c23 ((nI_ltI (a := what) (b := 7) (by omega) (by omega)).mpr z9)
  refine lv_aload_n hx hb dX11_count_26 rfl (lv_at hl 0 rfl) ?_
  refine lv_aload_n hx hb dX11_count_27 rfl (lv_at hl 0 rfl) ?_
  refine h_get X Y (k := 7) (v := .ref (sA S (100 * (1 + 1)))) ho0 rfl hin_X11 (by decide) kfl_X11_58 rfl dX11_count_28 ?_
  refine lv_iconst (v := 0) hx hb dX11_count_31 (by decide) ?_
  refine lv_iconst (v := (-1)) hx hb dX11_count_32 (by decide) ?_
  refine h_callV (rest := []) X Y (c_cedeNow l G M S h hQv 1 (by omega) false (-1)) gw_X11_137 dsc_X11_cedeNow ho0 rfl rfl rfl hl.1 rfl (Nat.le_of_ble_eq_true rfl) ⟨Nat.le_of_ble_eq_true rfl, Nat.le_of_ble_eq_true rfl⟩ ⟨Nat.le_of_ble_eq_true rfl, Nat.le_of_ble_eq_true rfl⟩ dX11_count_33 ?_
  rintro _ M1 H locs ⟨rfl, hCI1, hq⟩ Y
  try dsimp only [Option.toList, List.nil_append]
  have hs0 := hs0.tr (hq.mono (hS1_scr (by omega)))
  have hQv := hQv.sim (hq.mono (hS1_scr (by omega)))
  obtain ⟨hS, -, hHo, hCe, hTr, -, -⟩ := id hQv
  obtain ⟨hl13, he14, hl15, he16, hLa, hCl⟩ := id hS
  obtain ⟨mc13, hlo13⟩ := id hl13
  obtain ⟨mc15, hlo15⟩ := id hl15
  obtain ⟨ho0, ho1, ho17, ho18, ft19, hft19, ho19⟩ := id hHo
  refine lv_aload_n hx hb dX11_count_36 rfl (lv_at hl 0 rfl) ?_
  refine lv_iload_n hx hb dX11_count_37 rfl (lv_at hl 1 rfl) ?_
  refine h_callVr (rest := []) X Y (c_countOf l G M1 S h hQv what hw (fun _ => hCI1)) rfl rfl gw_X11_141 dsc_X11_countOf ho0 rfl rfl rfl rfl hl.1 (Nat.le_of_ble_eq_true rfl) ⟨Nat.le_of_ble_eq_true rfl, Nat.le_of_ble_eq_true rfl⟩ ⟨Nat.le_of_ble_eq_true rfl, Nat.le_of_ble_eq_true rfl⟩ dX11_count_38 (fun H locs Y => ?_)
  exact h_iret X Y ⟨rfl, hs0⟩ (Nat.le_refl _) (Nat.le_refl _) dX11_count_41
end
